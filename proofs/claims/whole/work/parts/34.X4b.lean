def rmX4_need : Room := { frames := 6, cells := 1, slots := 6, locals := 89 }
def fX4_need (p0 : Int32) (v : Mem) : Option ((Unit ⊕ String) × Mem) := if p0 = 0 then some (.inr "java/lang/IllegalArgumentException", v) else some (.inl (), v)
set_option maxRecDepth 100000 in
set_option maxHeartbeats 4000000 in
theorem kX4_need_0 {p : Program} {l : Launch} {e : Env} {s : State} {m : MethodId} {args : Array Value} {below : List Frame} {meth : Method} {c : Code} {D : va_G} {A : Nat → Prop} {cI cS cF cZ cJ : ClassId} {ad : Nat → Nat} {X : va_W} {n : Nat} {p0 : Int32} (G : cxx p s m args meth c cX4_need 1 wsX4_need RX4 D (ty5 cI cS cF cZ cJ) A none) (hn : n ≤ 24) (hl : l.stackTraces = false) (v : Mem) : sk p l e rmX4_need s m args below meth c D A 1 0 0 (fun res => vx_MQ below (xv D A (ty5 cI cS cF cZ cJ) (Wc cI cS cF ad n X) res) (xc D A (ty5 cI cS cF cZ cJ) (Wc cI cS cF ad n X) res) args s 1 6 A) (Wc cI cS cF ad n X v) 0 [(0, .int p0)] [] (fX4_need p0 v) := by
  obtain ⟨F, hK, hA, hZ, hr, hlocks, hno⟩ := G
  refine sk_eq (K' := if p0 = 0 then some (.inr "java/lang/IllegalArgumentException", v) else some (.inl (), v)) rfl ?_
  refine sk_iload_n F dX4_need_0 rfl 0 rfl ?_
  refine sk_if_ne F 12 dX4_need_1 (by decide) (fun h1 => ?_) (fun h1 => ?_)
  · exact sk_xvret F hK hr hlocks (by decide) (by decide) dX4_need_12
  · exact sk_throw0 F hK hA hZ hlocks hno hl (cls := "java/lang/IllegalArgumentException") (names := ["java/lang/RuntimeException", "java/lang/Exception"]) (B := [.declares (Bundle.init0 "java/lang/RuntimeException"), .declares (Bundle.init0 "java/lang/Exception"), .declares (Bundle.init0 "java/lang/Throwable"), .castable "java/lang/IllegalArgumentException" "java/lang/IllegalArgumentException"]) (by decide) (by decide) (by decide +kernel) (by decide +kernel) (fun _ h => List.mem_cons_of_mem _ (List.mem_append_right _ h)) (by decide +kernel) (vx_c (va_Nw.use rfl hZ.2.2.1) (vx_c (va_Nw.use rfl hZ.2.2.2.1) (vx_c (va_Nw.use rfl hZ.2.2.2.2.1) (vx_c (va_Nw.use rfl hZ.2.2.2.2.2.1) vx_n)))) (by decide +kernel) dX4_need_4 dX4_need_7 dX4_need_8 dX4_need_11 (by decide) (by decide) (by decide) (by decide) (by decide) (by decide)
theorem tX4_need {l : Launch} {D : va_G} {A : Nat → Prop} {cI cS cF cZ cJ : ClassId} {ad : Nat → Nat} {X : va_W} {n : Nat} (hn : n ≤ 24) (hl : l.stackTraces = false) {p0 : Int32} (v : Mem) : XV l yX4_need wsX4_need rmX4_need 1 6 D A (ty5 cI cS cF cZ cJ) (Wc cI cS cF ad n X) [.int p0] v (fX4_need p0 v) :=
  XV_of (cc := cX4_need) (maxL := 1) (ret := none) (by decide) rfl (Nat.le_of_ble_eq_true rfl) (fun p e s m below meth c G => kX4_need_0 G hn hl v)
def rmX4_needState : Room := { frames := 6, cells := 1, slots := 6, locals := 89 }
def fX4_needState (p0 : Int32) (v : Mem) : Option ((Unit ⊕ String) × Mem) := if p0 = 0 then some (.inr "java/lang/IllegalStateException", v) else some (.inl (), v)
set_option maxRecDepth 100000 in
set_option maxHeartbeats 4000000 in
theorem kX4_needState_0 {p : Program} {l : Launch} {e : Env} {s : State} {m : MethodId} {args : Array Value} {below : List Frame} {meth : Method} {c : Code} {D : va_G} {A : Nat → Prop} {cI cS cF cZ cJ : ClassId} {ad : Nat → Nat} {X : va_W} {n : Nat} {p0 : Int32} (G : cxx p s m args meth c cX4_needState 1 wsX4_needState RX4 D (ty5 cI cS cF cZ cJ) A none) (hn : n ≤ 24) (hl : l.stackTraces = false) (v : Mem) : sk p l e rmX4_needState s m args below meth c D A 1 0 0 (fun res => vx_MQ below (xv D A (ty5 cI cS cF cZ cJ) (Wc cI cS cF ad n X) res) (xc D A (ty5 cI cS cF cZ cJ) (Wc cI cS cF ad n X) res) args s 1 6 A) (Wc cI cS cF ad n X v) 0 [(0, .int p0)] [] (fX4_needState p0 v) := by
  obtain ⟨F, hK, hA, hZ, hr, hlocks, hno⟩ := G
  refine sk_eq (K' := if p0 = 0 then some (.inr "java/lang/IllegalStateException", v) else some (.inl (), v)) rfl ?_
  refine sk_iload_n F dX4_needState_0 rfl 0 rfl ?_
  refine sk_if_ne F 12 dX4_needState_1 (by decide) (fun h1 => ?_) (fun h1 => ?_)
  · exact sk_xvret F hK hr hlocks (by decide) (by decide) dX4_needState_12
  · exact sk_throw0 F hK hA hZ hlocks hno hl (cls := "java/lang/IllegalStateException") (names := ["java/lang/RuntimeException", "java/lang/Exception"]) (B := [.declares (Bundle.init0 "java/lang/RuntimeException"), .declares (Bundle.init0 "java/lang/Exception"), .declares (Bundle.init0 "java/lang/Throwable"), .castable "java/lang/IllegalStateException" "java/lang/IllegalStateException"]) (by decide) (by decide) (by decide +kernel) (by decide +kernel) (fun _ h => List.mem_cons_of_mem _ (List.mem_append_right _ h)) (by decide +kernel) (vx_c (va_Nw.use rfl hZ.2.2.1) (vx_c (va_Nw.use rfl hZ.2.2.2.1) (vx_c (va_Nw.use rfl hZ.2.2.2.2.1) (vx_c (va_Nw.use rfl hZ.2.2.2.2.2.2.1) vx_n)))) (by decide +kernel) dX4_needState_4 dX4_needState_7 dX4_needState_8 dX4_needState_11 (by decide) (by decide) (by decide) (by decide) (by decide) (by decide)
theorem tX4_needState {l : Launch} {D : va_G} {A : Nat → Prop} {cI cS cF cZ cJ : ClassId} {ad : Nat → Nat} {X : va_W} {n : Nat} (hn : n ≤ 24) (hl : l.stackTraces = false) {p0 : Int32} (v : Mem) : XV l yX4_needState wsX4_needState rmX4_needState 1 6 D A (ty5 cI cS cF cZ cJ) (Wc cI cS cF ad n X) [.int p0] v (fX4_needState p0 v) :=
  XV_of (cc := cX4_needState) (maxL := 1) (ret := none) (by decide) rfl (Nat.le_of_ble_eq_true rfl) (fun p e s m below meth c G => kX4_needState_0 G hn hl v)
def rmX4_needTube : Room := { frames := 7, cells := 1, slots := 6, locals := 109 }
def fX4_needTube (p0 : Int32) (v : Mem) : Option ((Unit ⊕ String) × Mem) := bd (fX4_isWithin p0 0 1 v) fun x3 v2 => xd (fX4_need x3 v2) fun _ v5 => some (.inl (), v5)
set_option maxRecDepth 100000 in
set_option maxHeartbeats 4000000 in
theorem kX4_needTube_0 {p : Program} {l : Launch} {e : Env} {s : State} {m : MethodId} {args : Array Value} {below : List Frame} {meth : Method} {c : Code} {D : va_G} {A : Nat → Prop} {cI cS cF cZ cJ : ClassId} {ad : Nat → Nat} {X : va_W} {n : Nat} {p0 : Int32} (G : cxx p s m args meth c cX4_needTube 1 wsX4_needTube RX4 D (ty5 cI cS cF cZ cJ) A none) (hn : n ≤ 24) (hl : l.stackTraces = false) (v : Mem) : sk p l e rmX4_needTube s m args below meth c D A 1 0 0 (fun res => vx_MQ below (xv D A (ty5 cI cS cF cZ cJ) (Wc cI cS cF ad n X) res) (xc D A (ty5 cI cS cF cZ cJ) (Wc cI cS cF ad n X) res) args s 1 6 A) (Wc cI cS cF ad n X v) 0 [(0, .int p0)] [] (fX4_needTube p0 v) := by
  obtain ⟨F, hK, hA, hZ, hr, hlocks, hno⟩ := G
  refine sk_eq (K' := bd (fX4_isWithin p0 0 1 v) fun x3 v2 => xd (fX4_need x3 v2) fun _ v5 => some (.inl (), v5)) rfl ?_
  refine sk_iload_n F dX4_needTube_0 rfl 0 rfl ?_
  refine sk_iconst (x := 0) F dX4_needTube_1 (by decide) ?_
  refine sk_iconst (x := 1) F dX4_needTube_2 (by decide) ?_
  refine sk_callSi (As := [.int p0, .int 0, .int 1]) (rest := []) F hK hA hZ _ (tX4_isWithin hn _) (va_cwS 3 F.2.2.2.2 gX4_needTube_X4_isWithin rfl rfl rfl (by decide +kernel) ⟨Nat.le_of_ble_eq_true rfl, Nat.le_of_ble_eq_true rfl⟩) rfl rfl (Nat.le_of_ble_eq_true rfl) (by decide) dX4_needTube_3 (fun x3 v2 c1 => ?_)
  refine sk_xSv (As := [.int x3]) (rest := []) F hK hA hZ hlocks hno _ (tX4_need hn hl _) (va_cwS 1 F.2.2.2.2 gX4_needTube_X4_need rfl rfl rfl (by decide +kernel) ⟨Nat.le_of_ble_eq_true rfl, Nat.le_of_ble_eq_true rfl⟩) rfl rfl (Nat.le_of_ble_eq_true rfl) (by decide) (by decide) (by decide) dX4_needTube_6 (fun v5 c4 => ?_)
  exact sk_xvret F hK hr hlocks (by decide) (by decide) dX4_needTube_9
theorem tX4_needTube {l : Launch} {D : va_G} {A : Nat → Prop} {cI cS cF cZ cJ : ClassId} {ad : Nat → Nat} {X : va_W} {n : Nat} (hn : n ≤ 24) (hl : l.stackTraces = false) {p0 : Int32} (v : Mem) : XV l yX4_needTube wsX4_needTube rmX4_needTube 1 6 D A (ty5 cI cS cF cZ cJ) (Wc cI cS cF ad n X) [.int p0] v (fX4_needTube p0 v) :=
  XV_of (cc := cX4_needTube) (maxL := 1) (ret := none) (by decide) rfl (Nat.le_of_ble_eq_true rfl) (fun p e s m below meth c G => kX4_needTube_0 G hn hl v)
def rmX4_needSection : Room := { frames := 8, cells := 2, slots := 12, locals := 129 }
theorem iX4_needSection_4 : ∀ w ∈ wsX40, w ∈ wsX4_needSection := by decide +kernel
def fX4_needSection (p1 : Int32) (p2 : Int32) (v : Mem) : Option ((Unit ⊕ String) × Mem) := xd (fX4_needTube p1 v) fun _ v2 => bd (fX4_isWithin p2 0 ((v2 0 0) - 1) v2) fun x6 v5 => xd (fX4_need x6 v5) fun _ v8 => some (.inl (), v8)
set_option maxRecDepth 100000 in
set_option maxHeartbeats 4000000 in
theorem kX4_needSection_0 {p : Program} {l : Launch} {e : Env} {s : State} {m : MethodId} {args : Array Value} {below : List Frame} {meth : Method} {c : Code} {D : va_G} {A : Nat → Prop} {cI cS cF cZ cJ : ClassId} {ad : Nat → Nat} {X : va_W} {n : Nat} {p1 : Int32} {p2 : Int32} (G : cxx p s m args meth c cX4_needSection 3 wsX4_needSection RX4 D (ty5 cI cS cF cZ cJ) A none) (hn : n ≤ 24) (hl : l.stackTraces = false) (v : Mem) : sk p l e rmX4_needSection s m args below meth c D A 3 0 0 (fun res => vx_MQ below (xv D A (ty5 cI cS cF cZ cJ) (Wc cI cS cF ad n X) res) (xc D A (ty5 cI cS cF cZ cJ) (Wc cI cS cF ad n X) res) args s 2 12 A) (Wc cI cS cF ad n X v) 0 [(0, .ref (ad 0)), (1, .int p1), (2, .int p2)] [] (fX4_needSection p1 p2 v) := by
  obtain ⟨F, hK, hA, hZ, hr, hlocks, hno⟩ := G
  refine sk_eq (K' := xd (fX4_needTube p1 v) fun _ v2 => bd (fX4_isWithin p2 0 ((v2 0 0) - 1) v2) fun x6 v5 => xd (fX4_need x6 v5) fun _ v8 => some (.inl (), v8)) rfl ?_
  refine sk_iload_n F dX4_needSection_0 rfl 1 rfl ?_
  refine sk_xSv (As := [.int p1]) (rest := []) F hK hA hZ hlocks hno _ (tX4_needTube hn hl _) (va_cwS 1 F.2.2.2.2 gX4_needSection_X4_needTube rfl rfl rfl (by decide +kernel) ⟨Nat.le_of_ble_eq_true rfl, Nat.le_of_ble_eq_true rfl⟩) rfl rfl (Nat.le_of_ble_eq_true rfl) (by decide) (by decide) (by decide) dX4_needSection_1 (fun v2 c1 => ?_)
  refine sk_iload_n F dX4_needSection_4 rfl 2 rfl ?_
  refine sk_iconst (x := 0) F dX4_needSection_5 (by decide) ?_
  refine sk_aload_n F dX4_needSection_6 rfl 0 rfl ?_
  refine sk_g4 (ref := "TunnelWatch") F hK (kC_0 n) iX4_needSection_4 0 (by decide) (by decide +kernel) (fun _ h9 => h9) rfl dX4_needSection_7 ?_
  refine sk_iconst (x := 1) F dX4_needSection_10 (by decide) ?_
  refine sk_isub F dX4_needSection_11 ?_
  refine sk_callSi (As := [.int p2, .int 0, .int ((v2 0 0) - 1)]) (rest := []) F hK hA hZ _ (tX4_isWithin hn _) (va_cwS 3 F.2.2.2.2 gX4_needSection_X4_isWithin rfl rfl rfl (by decide +kernel) ⟨Nat.le_of_ble_eq_true rfl, Nat.le_of_ble_eq_true rfl⟩) rfl rfl (Nat.le_of_ble_eq_true rfl) (by decide) dX4_needSection_12 (fun x6 v5 c4 => ?_)
  refine sk_xSv (As := [.int x6]) (rest := []) F hK hA hZ hlocks hno _ (tX4_need hn hl _) (va_cwS 1 F.2.2.2.2 gX4_needSection_X4_need rfl rfl rfl (by decide +kernel) ⟨Nat.le_of_ble_eq_true rfl, Nat.le_of_ble_eq_true rfl⟩) rfl rfl (Nat.le_of_ble_eq_true rfl) (by decide) (by decide) (by decide) dX4_needSection_15 (fun v8 c7 => ?_)
  exact sk_xvret F hK hr hlocks (by decide) (by decide) dX4_needSection_18
theorem tX4_needSection {l : Launch} {D : va_G} {A : Nat → Prop} {cI cS cF cZ cJ : ClassId} {ad : Nat → Nat} {X : va_W} {n : Nat} (hn : n ≤ 24) (hl : l.stackTraces = false) {p1 : Int32} {p2 : Int32} (v : Mem) : XV l yX4_needSection wsX4_needSection rmX4_needSection 2 12 D A (ty5 cI cS cF cZ cJ) (Wc cI cS cF ad n X) [.ref (ad 0), .int p1, .int p2] v (fX4_needSection p1 p2 v) :=
  XV_of (cc := cX4_needSection) (maxL := 3) (ret := none) (by decide) rfl (Nat.le_of_ble_eq_true rfl) (fun p e s m below meth c G => kX4_needSection_0 G hn hl v)
def rmX4_needDevice : Room := { frames := 8, cells := 2, slots := 12, locals := 129 }
theorem iX4_needDevice_3 : ∀ w ∈ wsX30, w ∈ wsX4_needDevice := by decide +kernel
def fX4_needDevice (p1 : Int32) (p2 : Int32) (v : Mem) : Option ((Unit ⊕ String) × Mem) := xd (fX4_needTube p1 v) fun _ v2 => bd (fX4_tubeAt p1 v2) fun x6 v5 => bd (fX4_isWithin p2 0 ((2 + (v5 x6 4)) - 1) v5) fun x9 v8 => xd (fX4_need x9 v8) fun _ v11 => some (.inl (), v11)
set_option maxRecDepth 100000 in
set_option maxHeartbeats 4000000 in
theorem kX4_needDevice_0 {p : Program} {l : Launch} {e : Env} {s : State} {m : MethodId} {args : Array Value} {below : List Frame} {meth : Method} {c : Code} {D : va_G} {A : Nat → Prop} {cI cS cF cZ cJ : ClassId} {ad : Nat → Nat} {X : va_W} {n : Nat} {p1 : Int32} {p2 : Int32} (G : cxx p s m args meth c cX4_needDevice 3 wsX4_needDevice RX4 D (ty5 cI cS cF cZ cJ) A none) (hn : n ≤ 24) (hl : l.stackTraces = false) (v : Mem) : sk p l e rmX4_needDevice s m args below meth c D A 3 0 0 (fun res => vx_MQ below (xv D A (ty5 cI cS cF cZ cJ) (Wc cI cS cF ad n X) res) (xc D A (ty5 cI cS cF cZ cJ) (Wc cI cS cF ad n X) res) args s 2 12 A) (Wc cI cS cF ad n X v) 0 [(0, .ref (ad 0)), (1, .int p1), (2, .int p2)] [] (fX4_needDevice p1 p2 v) := by
  obtain ⟨F, hK, hA, hZ, hr, hlocks, hno⟩ := G
  refine sk_eq (K' := xd (fX4_needTube p1 v) fun _ v2 => bd (fX4_tubeAt p1 v2) fun x6 v5 => bd (fX4_isWithin p2 0 ((2 + (v5 x6 4)) - 1) v5) fun x9 v8 => xd (fX4_need x9 v8) fun _ v11 => some (.inl (), v11)) rfl ?_
  refine sk_iload_n F dX4_needDevice_0 rfl 1 rfl ?_
  refine sk_xSv (As := [.int p1]) (rest := []) F hK hA hZ hlocks hno _ (tX4_needTube hn hl _) (va_cwS 1 F.2.2.2.2 gX4_needDevice_X4_needTube rfl rfl rfl (by decide +kernel) ⟨Nat.le_of_ble_eq_true rfl, Nat.le_of_ble_eq_true rfl⟩) rfl rfl (Nat.le_of_ble_eq_true rfl) (by decide) (by decide) (by decide) dX4_needDevice_1 (fun v2 c1 => ?_)
  refine sk_iload_n F dX4_needDevice_4 rfl 2 rfl ?_
  refine sk_iconst (x := 0) F dX4_needDevice_5 (by decide) ?_
  refine sk_iconst (x := 2) F dX4_needDevice_6 (by decide) ?_
  refine sk_aload_n F dX4_needDevice_7 rfl 0 rfl ?_
  refine sk_iload_n F dX4_needDevice_8 rfl 1 rfl ?_
  refine sk_callVr (As := [.int p1]) (rest := [.int 2, .int 0, .int p2]) F hK hA hZ _ (tX4_tubeAt hn _) (cwV 1 F.2.2.2.2 gX4_needDevice_X4_tubeAt rfl rfl rfl (by decide +kernel) ⟨Nat.le_of_ble_eq_true rfl, Nat.le_of_ble_eq_true rfl⟩) (rc4 hK (kC_0 n)) rfl rfl (Nat.le_of_ble_eq_true rfl) (by decide) dX4_needDevice_9 (fun x6 v5 c4 => ?_)
  refine sk_g3 (ref := "TunnelWatch$Tube") F hK (aX4_tubeAt c4) iX4_needDevice_3 4 (by decide) (by decide +kernel) (fun _ h9 => h9) rfl dX4_needDevice_12 ?_
  refine sk_iadd F dX4_needDevice_15 ?_
  refine sk_iconst (x := 1) F dX4_needDevice_16 (by decide) ?_
  refine sk_isub F dX4_needDevice_17 ?_
  refine sk_callSi (As := [.int p2, .int 0, .int ((2 + (v5 x6 4)) - 1)]) (rest := []) F hK hA hZ _ (tX4_isWithin hn _) (va_cwS 3 F.2.2.2.2 gX4_needDevice_X4_isWithin rfl rfl rfl (by decide +kernel) ⟨Nat.le_of_ble_eq_true rfl, Nat.le_of_ble_eq_true rfl⟩) rfl rfl (Nat.le_of_ble_eq_true rfl) (by decide) dX4_needDevice_18 (fun x9 v8 c7 => ?_)
  refine sk_xSv (As := [.int x9]) (rest := []) F hK hA hZ hlocks hno _ (tX4_need hn hl _) (va_cwS 1 F.2.2.2.2 gX4_needDevice_X4_need rfl rfl rfl (by decide +kernel) ⟨Nat.le_of_ble_eq_true rfl, Nat.le_of_ble_eq_true rfl⟩) rfl rfl (Nat.le_of_ble_eq_true rfl) (by decide) (by decide) (by decide) dX4_needDevice_21 (fun v11 c10 => ?_)
  exact sk_xvret F hK hr hlocks (by decide) (by decide) dX4_needDevice_24
theorem tX4_needDevice {l : Launch} {D : va_G} {A : Nat → Prop} {cI cS cF cZ cJ : ClassId} {ad : Nat → Nat} {X : va_W} {n : Nat} (hn : n ≤ 24) (hl : l.stackTraces = false) {p1 : Int32} {p2 : Int32} (v : Mem) : XV l yX4_needDevice wsX4_needDevice rmX4_needDevice 2 12 D A (ty5 cI cS cF cZ cJ) (Wc cI cS cF ad n X) [.ref (ad 0), .int p1, .int p2] v (fX4_needDevice p1 p2 v) :=
  XV_of (cc := cX4_needDevice) (maxL := 3) (ret := none) (by decide) rfl (Nat.le_of_ble_eq_true rfl) (fun p e s m below meth c G => kX4_needDevice_0 G hn hl v)
def rmX4_load : Room := { frames := 2, cells := 0, slots := 0, locals := 44 }
theorem iX4_load_4 : ∀ w ∈ wsX40, w ∈ wsX4_load := by decide +kernel
def fX4_load (v : Mem) : Option (Int32 × Mem) := bd (fX3_drawnKw 2 (v 0 6) v) fun x3 v2 => bd (fX3_drawnKw 43 (v2 0 6) v2) fun x6 v5 => some (x3 + x6, v5)
set_option maxRecDepth 100000 in
set_option maxHeartbeats 4000000 in
theorem kX4_load_0 {p : Program} {l : Launch} {e : Env} {s : State} {m : MethodId} {args : Array Value} {below : List Frame} {meth : Method} {c : Code} {D : va_G} {A : Nat → Prop} {cI cS cF cZ cJ : ClassId} {ad : Nat → Nat} {X : va_W} {n : Nat} (G : cx p s m args meth c cX4_load 1 wsX4_load RX4 D (ty5 cI cS cF cZ cJ) A (some .int)) (hn : n ≤ 24) (v : Mem) : sk p l e rmX4_load s m args below meth c D A 1 0 0 (fun res => MQ below (qi D A (ty5 cI cS cF cZ cJ) (Wc cI cS cF ad n X) res) args s 0 0 A) (Wc cI cS cF ad n X v) 0 [(0, .ref (ad 0))] [] (fX4_load v) := by
  obtain ⟨F, hK, hA, hZ, hr, hlocks⟩ := G
  refine sk_eq (K' := bd (fX3_drawnKw 2 (v 0 6) v) fun x3 v2 => bd (fX3_drawnKw 43 (v2 0 6) v2) fun x6 v5 => some (x3 + x6, v5)) rfl ?_
  refine sk_aload_n F dX4_load_0 rfl 0 rfl ?_
  refine sk_g4 (ref := "TunnelWatch") F hK (kC_0 n) iX4_load_4 2 (by decide) (by decide +kernel) (fun _ h9 => h9) rfl dX4_load_1 ?_
  refine sk_aload_n F dX4_load_4 rfl 0 rfl ?_
  refine sk_g4 (ref := "TunnelWatch") F hK (kC_0 n) iX4_load_4 6 (by decide) (by decide +kernel) (fun _ h9 => h9) rfl dX4_load_5 ?_
  refine sk_callVi (As := [.int (v 0 6)]) (rest := []) F hK hA hZ _ (tX3_drawnKw hn (kC_2 n) _) (cwV 1 F.2.2.2.2 gX4_load_X3_drawnKw rfl rfl rfl (by decide +kernel) ⟨Nat.le_of_ble_eq_true rfl, Nat.le_of_ble_eq_true rfl⟩) (rc3 hK (kC_2 n)) rfl rfl (Nat.le_of_ble_eq_true rfl) (by decide) dX4_load_8 (fun x3 v2 c1 => ?_)
  refine sk_aload_n F dX4_load_11 rfl 0 rfl ?_
  refine sk_g4 (ref := "TunnelWatch") F hK (kC_0 n) iX4_load_4 3 (by decide) (by decide +kernel) (fun _ h9 => h9) rfl dX4_load_12 ?_
  refine sk_aload_n F dX4_load_15 rfl 0 rfl ?_
  refine sk_g4 (ref := "TunnelWatch") F hK (kC_0 n) iX4_load_4 6 (by decide) (by decide +kernel) (fun _ h9 => h9) rfl dX4_load_16 ?_
  refine sk_callVi (As := [.int (v2 0 6)]) (rest := [.int x3]) F hK hA hZ _ (tX3_drawnKw hn (kC_43 n) _) (cwV 1 F.2.2.2.2 gX4_load_X3_drawnKw rfl rfl rfl (by decide +kernel) ⟨Nat.le_of_ble_eq_true rfl, Nat.le_of_ble_eq_true rfl⟩) (rc3 hK (kC_43 n)) rfl rfl (Nat.le_of_ble_eq_true rfl) (by decide) dX4_load_19 (fun x6 v5 c4 => ?_)
  refine sk_iadd F dX4_load_22 ?_
  exact sk_iret F hK hr hlocks dX4_load_23
theorem tX4_load {l : Launch} {D : va_G} {A : Nat → Prop} {cI cS cF cZ cJ : ClassId} {ad : Nat → Nat} {X : va_W} {n : Nat} (hn : n ≤ 24) (v : Mem) : CI l yX4_load wsX4_load rmX4_load D A (ty5 cI cS cF cZ cJ) (Wc cI cS cF ad n X) [.ref (ad 0)] v (fX4_load v) :=
  CI_of (cc := cX4_load) (maxL := 1) (ret := (some .int)) (by decide) rfl (Nat.le_of_ble_eq_true rfl) (fun p e s m below meth c G => kX4_load_0 G hn v)
def rmX4_starts : Room := { frames := 0, cells := 0, slots := 0, locals := 0 }
theorem iX4_starts_4 : ∀ w ∈ wsX40, w ∈ wsX4_starts := by decide +kernel
def fX4_starts_13 : Nat → Mem → Int32 → Int32 → Int32 → Option (Int32 × Mem)
  | 0, _, _, _, _ => none
  | fuel + 1, v, l1, l3, l4 => if l3 ≤ l4 then some (l1, v) else gd (inb l4 10) (fX4_starts_13 fuel v (l1 + (v 1 l4.toNatClampNeg)) l3 (l4 + 1))
set_option maxRecDepth 100000 in
set_option maxHeartbeats 4000000 in
theorem kX4_starts_13 {p : Program} {l : Launch} {e : Env} {s : State} {m : MethodId} {args : Array Value} {below : List Frame} {meth : Method} {c : Code} {D : va_G} {A : Nat → Prop} {cI cS cF cZ cJ : ClassId} {ad : Nat → Nat} {X : va_W} {n : Nat} (G : cx p s m args meth c cX4_starts 6 wsX4_starts RX4 D (ty5 cI cS cF cZ cJ) A (some .int)) (hn : n ≤ 24) : ∀ (fuel : Nat) (v : Mem) (l1 : Int32) (l3 : Int32) (l4 : Int32), sk p l e rmX4_starts s m args below meth c D A 6 0 0 (fun res => MQ below (qi D A (ty5 cI cS cF cZ cJ) (Wc cI cS cF ad n X) res) args s 0 0 A) (Wc cI cS cF ad n X v) 13 [(1, .int l1), (2, .ref (ad 1)), (3, .int l3), (4, .int l4)] [] (fX4_starts_13 fuel v l1 l3 l4) := by
  obtain ⟨F, hK, hA, hZ, hr, hlocks⟩ := G
  intro fuel
  induction fuel with
  | zero => intro v l1 l3 l4; exact sk_none
  | succ fuel ih =>
    intro v l1 l3 l4
    refine sk_eq (K' := if l3 ≤ l4 then some (l1, v) else gd (inb l4 10) (fX4_starts_13 fuel v (l1 + (v 1 l4.toNatClampNeg)) l3 (l4 + 1))) rfl ?_
    refine sk_iload F dX4_starts_13 3 rfl ?_
    refine sk_iload_n F dX4_starts_15 rfl 2 rfl ?_
    refine sk_icmp_ge F 36 dX4_starts_16 (by decide) (fun h1 => ?_) (fun h1 => ?_)
    · refine sk_iload_n F dX4_starts_36 rfl 0 rfl ?_
      exact sk_iret F hK hr hlocks dX4_starts_37
    · refine sk_aload_n F dX4_starts_19 rfl 1 rfl ?_
      refine sk_iload F dX4_starts_20 3 rfl ?_
      refine sk_aldC F hK dX4_starts_22 (fun h2 => ?_)
      refine sk_istore F dX4_starts_23 (by decide) rfl ?_
      refine sk_iload_n F dX4_starts_25 rfl 1 rfl ?_
      refine sk_iload F dX4_starts_26 0 rfl ?_
      refine sk_iadd F dX4_starts_28 ?_
      refine sk_istore_n F dX4_starts_29 rfl (by decide) rfl ?_
      refine sk_iinc (y := l4 + 1) F dX4_starts_30 4 rfl rfl (by decide) rfl ?_
      refine sk_goto F 13 dX4_starts_33 (by decide) ?_
      exact sk_lv [1, 3, 4, 0] rfl (ih v (l1 + (v 1 l4.toNatClampNeg)) l3 (l4 + 1))
def fX4_starts (v : Mem) : Option (Int32 × Mem) := fX4_starts_13 1000 v 0 10 0
set_option maxRecDepth 100000 in
set_option maxHeartbeats 4000000 in
theorem kX4_starts_0 {p : Program} {l : Launch} {e : Env} {s : State} {m : MethodId} {args : Array Value} {below : List Frame} {meth : Method} {c : Code} {D : va_G} {A : Nat → Prop} {cI cS cF cZ cJ : ClassId} {ad : Nat → Nat} {X : va_W} {n : Nat} (G : cx p s m args meth c cX4_starts 6 wsX4_starts RX4 D (ty5 cI cS cF cZ cJ) A (some .int)) (hn : n ≤ 24) (v : Mem) : sk p l e rmX4_starts s m args below meth c D A 6 0 0 (fun res => MQ below (qi D A (ty5 cI cS cF cZ cJ) (Wc cI cS cF ad n X) res) args s 0 0 A) (Wc cI cS cF ad n X v) 0 [(0, .ref (ad 0))] [] (fX4_starts v) := by
  obtain ⟨F, hK, hA, hZ, hr, hlocks⟩ := G
  refine sk_eq (K' := fX4_starts_13 1000 v 0 10 0) rfl ?_
  refine sk_iconst (x := 0) F dX4_starts_0 (by decide) ?_
  refine sk_istore_n F dX4_starts_1 rfl (by decide) rfl ?_
  refine sk_aload_n F dX4_starts_2 rfl 1 rfl ?_
  refine sk_g4 (ref := "TunnelWatch") F hK (kC_0 n) iX4_starts_4 4 (by decide) (by decide +kernel) (fun _ h9 => h9) rfl dX4_starts_3 ?_
  refine sk_astore_n F dX4_starts_6 rfl (by decide) rfl ?_
  refine sk_aload_n F dX4_starts_7 rfl 0 rfl ?_
  refine sk_lenC F hK dX4_starts_8 ?_
  refine sk_istore_n F dX4_starts_9 rfl (by decide) rfl ?_
  refine sk_iconst (x := 0) F dX4_starts_10 (by decide) ?_
  refine sk_istore F dX4_starts_11 (by decide) rfl ?_
  exact sk_lv [3, 2, 1, 0] rfl (kX4_starts_13 ⟨F, hK, hA, hZ, hr, hlocks⟩ hn 1000 v 0 10 0)
theorem tX4_starts {l : Launch} {D : va_G} {A : Nat → Prop} {cI cS cF cZ cJ : ClassId} {ad : Nat → Nat} {X : va_W} {n : Nat} (hn : n ≤ 24) (v : Mem) : CI l yX4_starts wsX4_starts rmX4_starts D A (ty5 cI cS cF cZ cJ) (Wc cI cS cF ad n X) [.ref (ad 0)] v (fX4_starts v) :=
  CI_of (cc := cX4_starts) (maxL := 6) (ret := (some .int)) (by decide) rfl (Nat.le_of_ble_eq_true rfl) (fun p e s m below meth c G => kX4_starts_0 G hn v)
def rmX4_broken : Room := { frames := 0, cells := 0, slots := 0, locals := 0 }
theorem iX4_broken_4 : ∀ w ∈ wsX40, w ∈ wsX4_broken := by decide +kernel
def fX4_broken (v : Mem) : Option (Int32 × Mem) := some (v 0 8, v)
set_option maxRecDepth 100000 in
set_option maxHeartbeats 4000000 in
theorem kX4_broken_0 {p : Program} {l : Launch} {e : Env} {s : State} {m : MethodId} {args : Array Value} {below : List Frame} {meth : Method} {c : Code} {D : va_G} {A : Nat → Prop} {cI cS cF cZ cJ : ClassId} {ad : Nat → Nat} {X : va_W} {n : Nat} (G : cx p s m args meth c cX4_broken 1 wsX4_broken RX4 D (ty5 cI cS cF cZ cJ) A (some .int)) (hn : n ≤ 24) (v : Mem) : sk p l e rmX4_broken s m args below meth c D A 1 0 0 (fun res => MQ below (qi D A (ty5 cI cS cF cZ cJ) (Wc cI cS cF ad n X) res) args s 0 0 A) (Wc cI cS cF ad n X v) 0 [(0, .ref (ad 0))] [] (fX4_broken v) := by
  obtain ⟨F, hK, hA, hZ, hr, hlocks⟩ := G
  refine sk_eq (K' := some (v 0 8, v)) rfl ?_
  refine sk_aload_n F dX4_broken_0 rfl 0 rfl ?_
  refine sk_g4 (ref := "TunnelWatch") F hK (kC_0 n) iX4_broken_4 8 (by decide) (by decide +kernel) (fun _ h9 => h9) rfl dX4_broken_1 ?_
  exact sk_iret F hK hr hlocks dX4_broken_4
theorem tX4_broken {l : Launch} {D : va_G} {A : Nat → Prop} {cI cS cF cZ cJ : ClassId} {ad : Nat → Nat} {X : va_W} {n : Nat} (hn : n ≤ 24) (v : Mem) : CI l yX4_broken wsX4_broken rmX4_broken D A (ty5 cI cS cF cZ cJ) (Wc cI cS cF ad n X) [.ref (ad 0)] v (fX4_broken v) :=
  CI_of (cc := cX4_broken) (maxL := 1) (ret := (some .int)) (by decide) rfl (Nat.le_of_ble_eq_true rfl) (fun p e s m below meth c G => kX4_broken_0 G hn v)
def rmX4_tubeThatCounts : Room := { frames := 1, cells := 0, slots := 0, locals := 20 }
theorem iX4_tubeThatCounts_3 : ∀ w ∈ wsX30, w ∈ wsX4_tubeThatCounts := by decide +kernel
theorem iX4_tubeThatCounts_4 : ∀ w ∈ wsX40, w ∈ wsX4_tubeThatCounts := by decide +kernel
def fX4_tubeThatCounts_65 (n : Nat) (v : Mem) (l1 : Int32) (l2 : Int32) : Option (Int32 × Mem) := if l1 = 0 then if l2 = 0 then some ((-1), v) else some (1, v) else some (0, v)
set_option maxRecDepth 100000 in
set_option maxHeartbeats 4000000 in
theorem kX4_tubeThatCounts_65 {p : Program} {l : Launch} {e : Env} {s : State} {m : MethodId} {args : Array Value} {below : List Frame} {meth : Method} {c : Code} {D : va_G} {A : Nat → Prop} {cI cS cF cZ cJ : ClassId} {ad : Nat → Nat} {X : va_W} {n : Nat} (G : cx p s m args meth c cX4_tubeThatCounts 3 wsX4_tubeThatCounts RX4 D (ty5 cI cS cF cZ cJ) A (some .int)) (hn : n ≤ 24) (v : Mem) (l1 : Int32) (l2 : Int32) : sk p l e rmX4_tubeThatCounts s m args below meth c D A 3 0 0 (fun res => MQ below (qi D A (ty5 cI cS cF cZ cJ) (Wc cI cS cF ad n X) res) args s 0 0 A) (Wc cI cS cF ad n X v) 65 [(1, .int l1), (2, .int l2)] [] (fX4_tubeThatCounts_65 n v l1 l2) := by
  obtain ⟨F, hK, hA, hZ, hr, hlocks⟩ := G
  refine sk_eq (K' := if l1 = 0 then if l2 = 0 then some ((-1), v) else some (1, v) else some (0, v)) rfl ?_
  refine sk_iload_n F dX4_tubeThatCounts_65 rfl 0 rfl ?_
  refine sk_if_eq F 71 dX4_tubeThatCounts_66 (by decide) (fun h12 => ?_) (fun h12 => ?_)
  · refine sk_iload_n F dX4_tubeThatCounts_71 rfl 1 rfl ?_
    refine sk_if_eq F 79 dX4_tubeThatCounts_72 (by decide) (fun h13 => ?_) (fun h13 => ?_)
    · refine sk_iconst (x := (-1)) F dX4_tubeThatCounts_79 (by decide) ?_
      exact sk_iret F hK hr hlocks dX4_tubeThatCounts_80
    · refine sk_iconst (x := 1) F dX4_tubeThatCounts_75 (by decide) ?_
      refine sk_goto F 80 dX4_tubeThatCounts_76 (by decide) ?_
      exact sk_iret F hK hr hlocks dX4_tubeThatCounts_80
  · refine sk_iconst (x := 0) F dX4_tubeThatCounts_69 (by decide) ?_
    exact sk_iret F hK hr hlocks dX4_tubeThatCounts_70
def fX4_tubeThatCounts_33 (n : Nat) (v : Mem) (l1 : Int32) (s0 : Int32) : Option (Int32 × Mem) := if l1 = 0 then fX4_tubeThatCounts_65 n v l1 s0 else if s0 = 0 then fX4_tubeThatCounts_65 n v l1 s0 else bd (fX3_fireRank n 43 v) fun x7 v6 => bd (fX3_fireRank n 2 v6) fun x10 v9 => if x7 ≤ x10 then some (0, v9) else some (1, v9)
set_option maxRecDepth 100000 in
set_option maxHeartbeats 4000000 in
theorem kX4_tubeThatCounts_33 {p : Program} {l : Launch} {e : Env} {s : State} {m : MethodId} {args : Array Value} {below : List Frame} {meth : Method} {c : Code} {D : va_G} {A : Nat → Prop} {cI cS cF cZ cJ : ClassId} {ad : Nat → Nat} {X : va_W} {n : Nat} (G : cx p s m args meth c cX4_tubeThatCounts 3 wsX4_tubeThatCounts RX4 D (ty5 cI cS cF cZ cJ) A (some .int)) (hn : n ≤ 24) (v : Mem) (l1 : Int32) (s0 : Int32) : sk p l e rmX4_tubeThatCounts s m args below meth c D A 3 0 0 (fun res => MQ below (qi D A (ty5 cI cS cF cZ cJ) (Wc cI cS cF ad n X) res) args s 0 0 A) (Wc cI cS cF ad n X v) 33 [(0, .ref (ad 0)), (1, .int l1)] [.int s0] (fX4_tubeThatCounts_33 n v l1 s0) := by
  obtain ⟨F, hK, hA, hZ, hr, hlocks⟩ := G
  refine sk_eq (K' := if l1 = 0 then fX4_tubeThatCounts_65 n v l1 s0 else if s0 = 0 then fX4_tubeThatCounts_65 n v l1 s0 else bd (fX3_fireRank n 43 v) fun x7 v6 => bd (fX3_fireRank n 2 v6) fun x10 v9 => if x7 ≤ x10 then some (0, v9) else some (1, v9)) rfl ?_
  refine sk_istore_n F dX4_tubeThatCounts_33 rfl (by decide) rfl ?_
  refine sk_iload_n F dX4_tubeThatCounts_34 rfl 2 rfl ?_
  refine sk_if_eq F 65 dX4_tubeThatCounts_35 (by decide) (fun h3 => ?_) (fun h3 => ?_)
  · exact sk_lv [2, 0] rfl (kX4_tubeThatCounts_65 ⟨F, hK, hA, hZ, hr, hlocks⟩ hn v l1 s0)
  · refine sk_iload_n F dX4_tubeThatCounts_38 rfl 0 rfl ?_
    refine sk_if_eq F 65 dX4_tubeThatCounts_39 (by decide) (fun h4 => ?_) (fun h4 => ?_)
    · exact sk_lv [2, 0] rfl (kX4_tubeThatCounts_65 ⟨F, hK, hA, hZ, hr, hlocks⟩ hn v l1 s0)
    · refine sk_aload_n F dX4_tubeThatCounts_42 rfl 1 rfl ?_
      refine sk_g4 (ref := "TunnelWatch") F hK (kC_0 n) iX4_tubeThatCounts_4 3 (by decide) (by decide +kernel) (fun _ h9 => h9) rfl dX4_tubeThatCounts_43 ?_
      refine sk_callVi (As := []) (rest := []) F hK hA hZ _ (tX3_fireRank hn (kC_43 n) _) (cwV 0 F.2.2.2.2 gX4_tubeThatCounts_X3_fireRank rfl rfl rfl (by decide +kernel) ⟨Nat.le_of_ble_eq_true rfl, Nat.le_of_ble_eq_true rfl⟩) (rc3 hK (kC_43 n)) rfl rfl (Nat.le_of_ble_eq_true rfl) (by decide) dX4_tubeThatCounts_46 (fun x7 v6 c5 => ?_)
      refine sk_aload_n F dX4_tubeThatCounts_49 rfl 1 rfl ?_
      refine sk_g4 (ref := "TunnelWatch") F hK (kC_0 n) iX4_tubeThatCounts_4 2 (by decide) (by decide +kernel) (fun _ h9 => h9) rfl dX4_tubeThatCounts_50 ?_
      refine sk_callVi (As := []) (rest := [.int x7]) F hK hA hZ _ (tX3_fireRank hn (kC_2 n) _) (cwV 0 F.2.2.2.2 gX4_tubeThatCounts_X3_fireRank rfl rfl rfl (by decide +kernel) ⟨Nat.le_of_ble_eq_true rfl, Nat.le_of_ble_eq_true rfl⟩) (rc3 hK (kC_2 n)) rfl rfl (Nat.le_of_ble_eq_true rfl) (by decide) dX4_tubeThatCounts_53 (fun x10 v9 c8 => ?_)
      refine sk_icmp_le F 63 dX4_tubeThatCounts_56 (by decide) (fun h11 => ?_) (fun h11 => ?_)
      · refine sk_iconst (x := 0) F dX4_tubeThatCounts_63 (by decide) ?_
        exact sk_iret F hK hr hlocks dX4_tubeThatCounts_64
      · refine sk_iconst (x := 1) F dX4_tubeThatCounts_59 (by decide) ?_
        refine sk_goto F 64 dX4_tubeThatCounts_60 (by decide) ?_
        exact sk_iret F hK hr hlocks dX4_tubeThatCounts_64
def fX4_tubeThatCounts_16 (n : Nat) (v : Mem) (s0 : Int32) : Option (Int32 × Mem) := if (v 43 10) = 2 then fX4_tubeThatCounts_33 n v s0 1 else fX4_tubeThatCounts_33 n v s0 0
set_option maxRecDepth 100000 in
set_option maxHeartbeats 4000000 in
theorem kX4_tubeThatCounts_16 {p : Program} {l : Launch} {e : Env} {s : State} {m : MethodId} {args : Array Value} {below : List Frame} {meth : Method} {c : Code} {D : va_G} {A : Nat → Prop} {cI cS cF cZ cJ : ClassId} {ad : Nat → Nat} {X : va_W} {n : Nat} (G : cx p s m args meth c cX4_tubeThatCounts 3 wsX4_tubeThatCounts RX4 D (ty5 cI cS cF cZ cJ) A (some .int)) (hn : n ≤ 24) (v : Mem) (s0 : Int32) : sk p l e rmX4_tubeThatCounts s m args below meth c D A 3 0 0 (fun res => MQ below (qi D A (ty5 cI cS cF cZ cJ) (Wc cI cS cF ad n X) res) args s 0 0 A) (Wc cI cS cF ad n X v) 16 [(0, .ref (ad 0))] [.int s0] (fX4_tubeThatCounts_16 n v s0) := by
  obtain ⟨F, hK, hA, hZ, hr, hlocks⟩ := G
  refine sk_eq (K' := if (v 43 10) = 2 then fX4_tubeThatCounts_33 n v s0 1 else fX4_tubeThatCounts_33 n v s0 0) rfl ?_
  refine sk_istore_n F dX4_tubeThatCounts_16 rfl (by decide) rfl ?_
  refine sk_aload_n F dX4_tubeThatCounts_17 rfl 1 rfl ?_
  refine sk_g4 (ref := "TunnelWatch") F hK (kC_0 n) iX4_tubeThatCounts_4 3 (by decide) (by decide +kernel) (fun _ h9 => h9) rfl dX4_tubeThatCounts_18 ?_
  refine sk_g3 (ref := "TunnelWatch$Tube") F hK (kC_43 n) iX4_tubeThatCounts_3 10 (by decide) (by decide +kernel) (fun _ h9 => h9) rfl dX4_tubeThatCounts_21 ?_
  refine sk_iconst (x := 2) F dX4_tubeThatCounts_24 (by decide) ?_
  refine sk_icmp_ne F 32 dX4_tubeThatCounts_25 (by decide) (fun h2 => ?_) (fun h2 => ?_)
  · refine sk_iconst (x := 0) F dX4_tubeThatCounts_32 (by decide) ?_
    exact sk_lv [1, 0] rfl (kX4_tubeThatCounts_33 ⟨F, hK, hA, hZ, hr, hlocks⟩ hn v s0 0)
  · refine sk_iconst (x := 1) F dX4_tubeThatCounts_28 (by decide) ?_
    refine sk_goto F 33 dX4_tubeThatCounts_29 (by decide) ?_
    exact sk_lv [1, 0] rfl (kX4_tubeThatCounts_33 ⟨F, hK, hA, hZ, hr, hlocks⟩ hn v s0 1)
def fX4_tubeThatCounts (n : Nat) (v : Mem) : Option (Int32 × Mem) := if (v 2 10) = 2 then fX4_tubeThatCounts_16 n v 1 else fX4_tubeThatCounts_16 n v 0
set_option maxRecDepth 100000 in
set_option maxHeartbeats 4000000 in
theorem kX4_tubeThatCounts_0 {p : Program} {l : Launch} {e : Env} {s : State} {m : MethodId} {args : Array Value} {below : List Frame} {meth : Method} {c : Code} {D : va_G} {A : Nat → Prop} {cI cS cF cZ cJ : ClassId} {ad : Nat → Nat} {X : va_W} {n : Nat} (G : cx p s m args meth c cX4_tubeThatCounts 3 wsX4_tubeThatCounts RX4 D (ty5 cI cS cF cZ cJ) A (some .int)) (hn : n ≤ 24) (v : Mem) : sk p l e rmX4_tubeThatCounts s m args below meth c D A 3 0 0 (fun res => MQ below (qi D A (ty5 cI cS cF cZ cJ) (Wc cI cS cF ad n X) res) args s 0 0 A) (Wc cI cS cF ad n X v) 0 [(0, .ref (ad 0))] [] (fX4_tubeThatCounts n v) := by
  obtain ⟨F, hK, hA, hZ, hr, hlocks⟩ := G
  refine sk_eq (K' := if (v 2 10) = 2 then fX4_tubeThatCounts_16 n v 1 else fX4_tubeThatCounts_16 n v 0) rfl ?_
  refine sk_aload_n F dX4_tubeThatCounts_0 rfl 0 rfl ?_
  refine sk_g4 (ref := "TunnelWatch") F hK (kC_0 n) iX4_tubeThatCounts_4 2 (by decide) (by decide +kernel) (fun _ h9 => h9) rfl dX4_tubeThatCounts_1 ?_
  refine sk_g3 (ref := "TunnelWatch$Tube") F hK (kC_2 n) iX4_tubeThatCounts_3 10 (by decide) (by decide +kernel) (fun _ h9 => h9) rfl dX4_tubeThatCounts_4 ?_
  refine sk_iconst (x := 2) F dX4_tubeThatCounts_7 (by decide) ?_
  refine sk_icmp_ne F 15 dX4_tubeThatCounts_8 (by decide) (fun h1 => ?_) (fun h1 => ?_)
  · refine sk_iconst (x := 0) F dX4_tubeThatCounts_15 (by decide) ?_
    exact kX4_tubeThatCounts_16 ⟨F, hK, hA, hZ, hr, hlocks⟩ hn v 0
  · refine sk_iconst (x := 1) F dX4_tubeThatCounts_11 (by decide) ?_
    refine sk_goto F 16 dX4_tubeThatCounts_12 (by decide) ?_
    exact kX4_tubeThatCounts_16 ⟨F, hK, hA, hZ, hr, hlocks⟩ hn v 1
theorem tX4_tubeThatCounts {l : Launch} {D : va_G} {A : Nat → Prop} {cI cS cF cZ cJ : ClassId} {ad : Nat → Nat} {X : va_W} {n : Nat} (hn : n ≤ 24) (v : Mem) : CI l yX4_tubeThatCounts wsX4_tubeThatCounts rmX4_tubeThatCounts D A (ty5 cI cS cF cZ cJ) (Wc cI cS cF ad n X) [.ref (ad 0)] v (fX4_tubeThatCounts n v) :=
  CI_of (cc := cX4_tubeThatCounts) (maxL := 3) (ret := (some .int)) (by decide) rfl (Nat.le_of_ble_eq_true rfl) (fun p e s m below meth c G => kX4_tubeThatCounts_0 G hn v)
def rmX4_wantFans : Room := { frames := 1, cells := 0, slots := 0, locals := 22 }
theorem iX4_wantFans_2 : ∀ w ∈ wsX20, w ∈ wsX4_wantFans := by decide +kernel
theorem iX4_wantFans_3 : ∀ w ∈ wsX30, w ∈ wsX4_wantFans := by decide +kernel
def fX4_wantFans_14 (n : Nat) (p0 : Int32) (q1 : Nat) (q2 : Nat) (v : Mem) : Option (Mem) := (fX3_want q1 (v q1 6) (v q1 7) v).bind fun v11 => (fX3_want q2 (v11 q2 6) (v11 q2 7) v11).bind fun v14 => some v14
set_option maxRecDepth 100000 in
set_option maxHeartbeats 4000000 in
theorem kX4_wantFans_14 {p : Program} {l : Launch} {e : Env} {s : State} {m : MethodId} {args : Array Value} {below : List Frame} {meth : Method} {c : Code} {D : va_G} {A : Nat → Prop} {cI cS cF cZ cJ : ClassId} {ad : Nat → Nat} {X : va_W} {n : Nat} {p0 : Int32} {q1 : Nat} {q2 : Nat} (G : cx p s m args meth c cX4_wantFans 5 wsX4_wantFans RX4 D (ty5 cI cS cF cZ cJ) A none) (hn : n ≤ 24) (hq1 : kC n q1 = 3) (hq2 : kC n q2 = 3) (v : Mem) : sk p l e rmX4_wantFans s m args below meth c D A 5 0 0 (fun res => MQ below (qv D A (ty5 cI cS cF cZ cJ) (Wc cI cS cF ad n X) res) args s 0 0 A) (Wc cI cS cF ad n X v) 14 [(1, .ref (ad q1)), (2, .ref (ad q2))] [] (fX4_wantFans_14 n p0 q1 q2 v) := by
  obtain ⟨F, hK, hA, hZ, hr, hlocks⟩ := G
  refine sk_eq (K' := (fX3_want q1 (v q1 6) (v q1 7) v).bind fun v11 => (fX3_want q2 (v11 q2 6) (v11 q2 7) v11).bind fun v14 => some v14) rfl ?_
  refine sk_aload_n F dX4_wantFans_14 rfl 0 rfl ?_
  refine sk_aload_n F dX4_wantFans_15 rfl 0 rfl ?_
  refine sk_g3 (ref := "TunnelWatch$Tube") F hK hq1 iX4_wantFans_3 6 (by decide) (by decide +kernel) (fun _ h9 => h9) rfl dX4_wantFans_16 ?_
  refine sk_aload_n F dX4_wantFans_19 rfl 0 rfl ?_
  refine sk_g3 (ref := "TunnelWatch$Tube") F hK hq1 iX4_wantFans_3 7 (by decide) (by decide +kernel) (fun _ h9 => h9) rfl dX4_wantFans_20 ?_
  refine sk_callVv (As := [.int (v q1 6), .int (v q1 7)]) (rest := []) F hK hA hZ _ (tX3_want hn hq1 _) (cwV 2 F.2.2.2.2 gX4_wantFans_X3_want rfl rfl rfl (by decide +kernel) ⟨Nat.le_of_ble_eq_true rfl, Nat.le_of_ble_eq_true rfl⟩) (rc3 hK hq1) rfl rfl (Nat.le_of_ble_eq_true rfl) (by decide) dX4_wantFans_23 (fun v11 c10 => ?_)
  refine sk_aload_n F dX4_wantFans_26 rfl 1 rfl ?_
  refine sk_aload_n F dX4_wantFans_27 rfl 1 rfl ?_
  refine sk_g3 (ref := "TunnelWatch$Tube") F hK hq2 iX4_wantFans_3 6 (by decide) (by decide +kernel) (fun _ h9 => h9) rfl dX4_wantFans_28 ?_
  refine sk_aload_n F dX4_wantFans_31 rfl 1 rfl ?_
  refine sk_g3 (ref := "TunnelWatch$Tube") F hK hq2 iX4_wantFans_3 7 (by decide) (by decide +kernel) (fun _ h9 => h9) rfl dX4_wantFans_32 ?_
  refine sk_callVv (As := [.int (v11 q2 6), .int (v11 q2 7)]) (rest := []) F hK hA hZ _ (tX3_want hn hq2 _) (cwV 2 F.2.2.2.2 gX4_wantFans_X3_want rfl rfl rfl (by decide +kernel) ⟨Nat.le_of_ble_eq_true rfl, Nat.le_of_ble_eq_true rfl⟩) (rc3 hK hq2) rfl rfl (Nat.le_of_ble_eq_true rfl) (by decide) dX4_wantFans_35 (fun v14 c13 => ?_)
  exact sk_vret F hK hr hlocks dX4_wantFans_38
def fX4_wantFans (n : Nat) (p0 : Int32) (q1 : Nat) (q2 : Nat) (v : Mem) : Option (Mem) := if p0 = 0 then fX4_wantFans_14 n p0 q1 q2 v else if (v q1 11) = (-1) then fX4_wantFans_14 n p0 q1 q2 v else gd (inb (v q1 11) n) ((fX3_want q1 (v (q1 + 17 + (v q1 11).toNatClampNeg) 4) (v (q1 + 17 + (v q1 11).toNatClampNeg) 5) v).bind fun v5 => (fX3_want q2 (v5 (q1 + 17 + (v q1 11).toNatClampNeg) 6) (v5 (q1 + 17 + (v q1 11).toNatClampNeg) 7) v5).bind fun v8 => some v8)
set_option maxRecDepth 100000 in
set_option maxHeartbeats 4000000 in
theorem kX4_wantFans_0 {p : Program} {l : Launch} {e : Env} {s : State} {m : MethodId} {args : Array Value} {below : List Frame} {meth : Method} {c : Code} {D : va_G} {A : Nat → Prop} {cI cS cF cZ cJ : ClassId} {ad : Nat → Nat} {X : va_W} {n : Nat} {p0 : Int32} {q1 : Nat} {q2 : Nat} (G : cx p s m args meth c cX4_wantFans 5 wsX4_wantFans RX4 D (ty5 cI cS cF cZ cJ) A none) (hn : n ≤ 24) (hq1 : kC n q1 = 3) (hq2 : kC n q2 = 3) (v : Mem) : sk p l e rmX4_wantFans s m args below meth c D A 5 0 0 (fun res => MQ below (qv D A (ty5 cI cS cF cZ cJ) (Wc cI cS cF ad n X) res) args s 0 0 A) (Wc cI cS cF ad n X v) 0 [(0, .int p0), (1, .ref (ad q1)), (2, .ref (ad q2))] [] (fX4_wantFans n p0 q1 q2 v) := by
  obtain ⟨F, hK, hA, hZ, hr, hlocks⟩ := G
  refine sk_eq (K' := if p0 = 0 then fX4_wantFans_14 n p0 q1 q2 v else if (v q1 11) = (-1) then fX4_wantFans_14 n p0 q1 q2 v else gd (inb (v q1 11) n) ((fX3_want q1 (v (q1 + 17 + (v q1 11).toNatClampNeg) 4) (v (q1 + 17 + (v q1 11).toNatClampNeg) 5) v).bind fun v5 => (fX3_want q2 (v5 (q1 + 17 + (v q1 11).toNatClampNeg) 6) (v5 (q1 + 17 + (v q1 11).toNatClampNeg) 7) v5).bind fun v8 => some v8)) rfl ?_
  refine sk_aload_n F dX4_wantFans_0 rfl 1 rfl ?_
  refine sk_g3 (ref := "TunnelWatch$Tube") F hK hq1 iX4_wantFans_3 11 (by decide) (by decide +kernel) (fun _ h9 => h9) rfl dX4_wantFans_1 ?_
  refine sk_istore_n F dX4_wantFans_4 rfl (by decide) rfl ?_
  refine sk_iload_n F dX4_wantFans_5 rfl 1 rfl ?_
  refine sk_if_eq F 14 dX4_wantFans_6 (by decide) (fun h1 => ?_) (fun h1 => ?_)
  · exact sk_lv [2, 3] rfl (kX4_wantFans_14 ⟨F, hK, hA, hZ, hr, hlocks⟩ hn hq1 hq2 v)
  · refine sk_iload_n F dX4_wantFans_9 rfl 0 rfl ?_
    refine sk_iconst (x := (-1)) F dX4_wantFans_10 (by decide) ?_
    refine sk_icmp_ne F 39 dX4_wantFans_11 (by decide) (fun h2 => ?_) (fun h2 => ?_)
    · refine sk_aload_n F dX4_wantFans_39 rfl 2 rfl ?_
      refine sk_g3 (ref := "TunnelWatch$Tube") F hK hq1 iX4_wantFans_3 0 (by decide) (by decide +kernel) (fun _ h9 => h9) rfl dX4_wantFans_40 ?_
      refine sk_iload_n F dX4_wantFans_43 rfl 0 rfl ?_
      refine sk_aldS F hK hq1 dX4_wantFans_44 (fun h3 => ?_)
      refine sk_astore F dX4_wantFans_45 (by decide) rfl ?_
      refine sk_aload_n F dX4_wantFans_47 rfl 3 rfl ?_
      refine sk_aload F dX4_wantFans_48 0 rfl ?_
      refine sk_g2 (ref := "TunnelWatch$Section") F hK (kC_s hq1 hn (inb_lt h3)) iX4_wantFans_2 4 (by decide) (by decide +kernel) (fun _ h9 => h9) rfl dX4_wantFans_50 ?_
      refine sk_aload F dX4_wantFans_53 0 rfl ?_
      refine sk_g2 (ref := "TunnelWatch$Section") F hK (kC_s hq1 hn (inb_lt h3)) iX4_wantFans_2 5 (by decide) (by decide +kernel) (fun _ h9 => h9) rfl dX4_wantFans_55 ?_
      refine sk_callVv (As := [.int (v (q1 + 17 + (v q1 11).toNatClampNeg) 4), .int (v (q1 + 17 + (v q1 11).toNatClampNeg) 5)]) (rest := []) F hK hA hZ _ (tX3_want hn hq1 _) (cwV 2 F.2.2.2.2 gX4_wantFans_X3_want rfl rfl rfl (by decide +kernel) ⟨Nat.le_of_ble_eq_true rfl, Nat.le_of_ble_eq_true rfl⟩) (rc3 hK hq1) rfl rfl (Nat.le_of_ble_eq_true rfl) (by decide) dX4_wantFans_58 (fun v5 c4 => ?_)
      refine sk_aload_n F dX4_wantFans_61 rfl 4 rfl ?_
      refine sk_aload F dX4_wantFans_62 0 rfl ?_
      refine sk_g2 (ref := "TunnelWatch$Section") F hK (kC_s hq1 hn (inb_lt h3)) iX4_wantFans_2 6 (by decide) (by decide +kernel) (fun _ h9 => h9) rfl dX4_wantFans_64 ?_
      refine sk_aload F dX4_wantFans_67 0 rfl ?_
      refine sk_g2 (ref := "TunnelWatch$Section") F hK (kC_s hq1 hn (inb_lt h3)) iX4_wantFans_2 7 (by decide) (by decide +kernel) (fun _ h9 => h9) rfl dX4_wantFans_69 ?_
      refine sk_callVv (As := [.int (v5 (q1 + 17 + (v q1 11).toNatClampNeg) 6), .int (v5 (q1 + 17 + (v q1 11).toNatClampNeg) 7)]) (rest := []) F hK hA hZ _ (tX3_want hn hq2 _) (cwV 2 F.2.2.2.2 gX4_wantFans_X3_want rfl rfl rfl (by decide +kernel) ⟨Nat.le_of_ble_eq_true rfl, Nat.le_of_ble_eq_true rfl⟩) (rc3 hK hq2) rfl rfl (Nat.le_of_ble_eq_true rfl) (by decide) dX4_wantFans_72 (fun v8 c7 => ?_)
      exact sk_vret F hK hr hlocks dX4_wantFans_75
    · exact sk_lv [2, 3] rfl (kX4_wantFans_14 ⟨F, hK, hA, hZ, hr, hlocks⟩ hn hq1 hq2 v)
theorem tX4_wantFans {l : Launch} {D : va_G} {A : Nat → Prop} {cI cS cF cZ cJ : ClassId} {ad : Nat → Nat} {X : va_W} {n : Nat} (hn : n ≤ 24) {p0 : Int32} {q1 : Nat} {q2 : Nat} (hq1 : kC n q1 = 3) (hq2 : kC n q2 = 3) (v : Mem) : CV l yX4_wantFans wsX4_wantFans rmX4_wantFans D A (ty5 cI cS cF cZ cJ) (Wc cI cS cF ad n X) [.int p0, .ref (ad q1), .ref (ad q2)] v (fX4_wantFans n p0 q1 q2 v) :=
  CV_of (cc := cX4_wantFans) (maxL := 5) (ret := none) (by decide) rfl (Nat.le_of_ble_eq_true rfl) (fun p e s m below meth c G => kX4_wantFans_0 G hn hq1 hq2 v)
def rmX4_shedLoad : Room := { frames := 4, cells := 0, slots := 0, locals := 87 }
theorem iX4_shedLoad_4 : ∀ w ∈ wsX40, w ∈ wsX4_shedLoad := by decide +kernel
def fX4_shedLoad_2 (q1 : Nat) (q2 : Nat) : Nat → Mem → Int32 → Option (Mem)
  | 0, _, _ => none
  | fuel + 1, v, l3 => if 24 ≤ l3 then some v else bd (fX4_load v) fun x4 v3 => if x4 ≤ (v3 0 5) then some v3 else bd (fX3_stopLongestRun q2 (v3 0 6) v3) fun x8 v7 => if x8 = 0 then bd (fX3_stopLongestRun q1 (v7 0 6) v7) fun x12 v11 => fX4_shedLoad_2 q1 q2 fuel v11 (l3 + 1) else fX4_shedLoad_2 q1 q2 fuel v7 (l3 + 1)
set_option maxRecDepth 100000 in
set_option maxHeartbeats 4000000 in
theorem kX4_shedLoad_2 {p : Program} {l : Launch} {e : Env} {s : State} {m : MethodId} {args : Array Value} {below : List Frame} {meth : Method} {c : Code} {D : va_G} {A : Nat → Prop} {cI cS cF cZ cJ : ClassId} {ad : Nat → Nat} {X : va_W} {n : Nat} {q1 : Nat} {q2 : Nat} (G : cx p s m args meth c cX4_shedLoad 4 wsX4_shedLoad RX4 D (ty5 cI cS cF cZ cJ) A none) (hn : n ≤ 24) (hq1 : kC n q1 = 3) (hq2 : kC n q2 = 3) : ∀ (fuel : Nat) (v : Mem) (l3 : Int32), sk p l e rmX4_shedLoad s m args below meth c D A 4 0 0 (fun res => MQ below (qv D A (ty5 cI cS cF cZ cJ) (Wc cI cS cF ad n X) res) args s 0 0 A) (Wc cI cS cF ad n X v) 2 [(0, .ref (ad 0)), (1, .ref (ad q1)), (2, .ref (ad q2)), (3, .int l3)] [] (fX4_shedLoad_2 q1 q2 fuel v l3) := by
  obtain ⟨F, hK, hA, hZ, hr, hlocks⟩ := G
  intro fuel
  induction fuel with
  | zero => intro v l3; exact sk_none
  | succ fuel ih =>
    intro v l3
    refine sk_eq (K' := if 24 ≤ l3 then some v else bd (fX4_load v) fun x4 v3 => if x4 ≤ (v3 0 5) then some v3 else bd (fX3_stopLongestRun q2 (v3 0 6) v3) fun x8 v7 => if x8 = 0 then bd (fX3_stopLongestRun q1 (v7 0 6) v7) fun x12 v11 => fX4_shedLoad_2 q1 q2 fuel v11 (l3 + 1) else fX4_shedLoad_2 q1 q2 fuel v7 (l3 + 1)) rfl ?_
    refine sk_iload_n F dX4_shedLoad_2 rfl 3 rfl ?_
    refine sk_bipush (x := 24) F dX4_shedLoad_3 (by decide) ?_
    refine sk_icmp_ge F 45 dX4_shedLoad_5 (by decide) (fun h1 => ?_) (fun h1 => ?_)
    · exact sk_vret F hK hr hlocks dX4_shedLoad_45
    · refine sk_aload_n F dX4_shedLoad_8 rfl 0 rfl ?_
      refine sk_callVi (As := []) (rest := []) F hK hA hZ _ (tX4_load hn _) (cwV 0 F.2.2.2.2 gX4_shedLoad_X4_load rfl rfl rfl (by decide +kernel) ⟨Nat.le_of_ble_eq_true rfl, Nat.le_of_ble_eq_true rfl⟩) (rc4 hK (kC_0 n)) rfl rfl (Nat.le_of_ble_eq_true rfl) (by decide) dX4_shedLoad_9 (fun x4 v3 c2 => ?_)
      refine sk_aload_n F dX4_shedLoad_12 rfl 0 rfl ?_
      refine sk_g4 (ref := "TunnelWatch") F hK (kC_0 n) iX4_shedLoad_4 5 (by decide) (by decide +kernel) (fun _ h9 => h9) rfl dX4_shedLoad_13 ?_
      refine sk_icmp_le F 45 dX4_shedLoad_16 (by decide) (fun h5 => ?_) (fun h5 => ?_)
      · exact sk_vret F hK hr hlocks dX4_shedLoad_45
      · refine sk_aload_n F dX4_shedLoad_19 rfl 2 rfl ?_
        refine sk_aload_n F dX4_shedLoad_20 rfl 0 rfl ?_
        refine sk_g4 (ref := "TunnelWatch") F hK (kC_0 n) iX4_shedLoad_4 6 (by decide) (by decide +kernel) (fun _ h9 => h9) rfl dX4_shedLoad_21 ?_
        refine sk_callVi (As := [.int (v3 0 6)]) (rest := []) F hK hA hZ _ (tX3_stopLongestRun hn hq2 _) (cwV 1 F.2.2.2.2 gX4_shedLoad_X3_stopLongestRun rfl rfl rfl (by decide +kernel) ⟨Nat.le_of_ble_eq_true rfl, Nat.le_of_ble_eq_true rfl⟩) (rc3 hK hq2) rfl rfl (Nat.le_of_ble_eq_true rfl) (by decide) dX4_shedLoad_24 (fun x8 v7 c6 => ?_)
        refine sk_if_ne F 39 dX4_shedLoad_27 (by decide) (fun h9 => ?_) (fun h9 => ?_)
        · refine sk_iinc (y := l3 + 1) F dX4_shedLoad_39 3 rfl rfl (by decide) rfl ?_
          refine sk_goto F 2 dX4_shedLoad_42 (by decide) ?_
          exact sk_lv [1, 2, 3, 0] rfl (ih v7 (l3 + 1))
        · refine sk_aload_n F dX4_shedLoad_30 rfl 1 rfl ?_
          refine sk_aload_n F dX4_shedLoad_31 rfl 0 rfl ?_
          refine sk_g4 (ref := "TunnelWatch") F hK (kC_0 n) iX4_shedLoad_4 6 (by decide) (by decide +kernel) (fun _ h9 => h9) rfl dX4_shedLoad_32 ?_
          refine sk_callVi (As := [.int (v7 0 6)]) (rest := []) F hK hA hZ _ (tX3_stopLongestRun hn hq1 _) (cwV 1 F.2.2.2.2 gX4_shedLoad_X3_stopLongestRun rfl rfl rfl (by decide +kernel) ⟨Nat.le_of_ble_eq_true rfl, Nat.le_of_ble_eq_true rfl⟩) (rc3 hK hq1) rfl rfl (Nat.le_of_ble_eq_true rfl) (by decide) dX4_shedLoad_35 (fun x12 v11 c10 => ?_)
          refine sk_pop F dX4_shedLoad_38 rfl ?_
          refine sk_iinc (y := l3 + 1) F dX4_shedLoad_39 3 rfl rfl (by decide) rfl ?_
          refine sk_goto F 2 dX4_shedLoad_42 (by decide) ?_
          exact sk_lv [1, 2, 3, 0] rfl (ih v11 (l3 + 1))
def fX4_shedLoad (q1 : Nat) (q2 : Nat) (v : Mem) : Option (Mem) := fX4_shedLoad_2 q1 q2 1000 v 0
set_option maxRecDepth 100000 in
set_option maxHeartbeats 4000000 in
theorem kX4_shedLoad_0 {p : Program} {l : Launch} {e : Env} {s : State} {m : MethodId} {args : Array Value} {below : List Frame} {meth : Method} {c : Code} {D : va_G} {A : Nat → Prop} {cI cS cF cZ cJ : ClassId} {ad : Nat → Nat} {X : va_W} {n : Nat} {q1 : Nat} {q2 : Nat} (G : cx p s m args meth c cX4_shedLoad 4 wsX4_shedLoad RX4 D (ty5 cI cS cF cZ cJ) A none) (hn : n ≤ 24) (hq1 : kC n q1 = 3) (hq2 : kC n q2 = 3) (v : Mem) : sk p l e rmX4_shedLoad s m args below meth c D A 4 0 0 (fun res => MQ below (qv D A (ty5 cI cS cF cZ cJ) (Wc cI cS cF ad n X) res) args s 0 0 A) (Wc cI cS cF ad n X v) 0 [(0, .ref (ad 0)), (1, .ref (ad q1)), (2, .ref (ad q2))] [] (fX4_shedLoad q1 q2 v) := by
  obtain ⟨F, hK, hA, hZ, hr, hlocks⟩ := G
  refine sk_eq (K' := fX4_shedLoad_2 q1 q2 1000 v 0) rfl ?_
  refine sk_iconst (x := 0) F dX4_shedLoad_0 (by decide) ?_
  refine sk_istore_n F dX4_shedLoad_1 rfl (by decide) rfl ?_
  exact sk_lv [1, 2, 3, 0] rfl (kX4_shedLoad_2 ⟨F, hK, hA, hZ, hr, hlocks⟩ hn hq1 hq2 1000 v 0)
theorem tX4_shedLoad {l : Launch} {D : va_G} {A : Nat → Prop} {cI cS cF cZ cJ : ClassId} {ad : Nat → Nat} {X : va_W} {n : Nat} (hn : n ≤ 24) {q1 : Nat} {q2 : Nat} (hq1 : kC n q1 = 3) (hq2 : kC n q2 = 3) (v : Mem) : CV l yX4_shedLoad wsX4_shedLoad rmX4_shedLoad D A (ty5 cI cS cF cZ cJ) (Wc cI cS cF ad n X) [.ref (ad 0), .ref (ad q1), .ref (ad q2)] v (fX4_shedLoad q1 q2 v) :=
  CV_of (cc := cX4_shedLoad) (maxL := 4) (ret := none) (by decide) rfl (Nat.le_of_ble_eq_true rfl) (fun p e s m below meth c G => kX4_shedLoad_0 G hn hq1 hq2 v)
def rmX4_mayStart : Room := { frames := 3, cells := 0, slots := 0, locals := 64 }
theorem iX4_mayStart_1 : ∀ w ∈ wsX10, w ∈ wsX4_mayStart := by decide +kernel
theorem iX4_mayStart_4 : ∀ w ∈ wsX40, w ∈ wsX4_mayStart := by decide +kernel
def fX4_mayStart_30 (q1 : Nat) (v : Mem) : Option (Int32 × Mem) := some (0, v)
set_option maxRecDepth 100000 in
set_option maxHeartbeats 4000000 in
theorem kX4_mayStart_30 {p : Program} {l : Launch} {e : Env} {s : State} {m : MethodId} {args : Array Value} {below : List Frame} {meth : Method} {c : Code} {D : va_G} {A : Nat → Prop} {cI cS cF cZ cJ : ClassId} {ad : Nat → Nat} {X : va_W} {n : Nat} {q1 : Nat} (G : cx p s m args meth c cX4_mayStart 2 wsX4_mayStart RX4 D (ty5 cI cS cF cZ cJ) A (some .boolean)) (hn : n ≤ 24) (hq1 : kC n q1 = 1) (v : Mem) : sk p l e rmX4_mayStart s m args below meth c D A 2 0 0 (fun res => MQ below (qi D A (ty5 cI cS cF cZ cJ) (Wc cI cS cF ad n X) res) args s 0 0 A) (Wc cI cS cF ad n X v) 30 [] [] (fX4_mayStart_30 q1 v) := by
  obtain ⟨F, hK, hA, hZ, hr, hlocks⟩ := G
  refine sk_eq (K' := some (0, v)) rfl ?_
  refine sk_iconst (x := 0) F dX4_mayStart_30 (by decide) ?_
  exact sk_zretc F hK hr hlocks (by decide) dX4_mayStart_31
def fX4_mayStart (q1 : Nat) (v : Mem) : Option (Int32 × Mem) := bd (fX4_starts v) fun x3 v2 => if 3 ≤ x3 then fX4_mayStart_30 q1 v2 else bd (fX4_load v2) fun x7 v6 => if (v6 0 5) < (x7 + (3 * (v6 q1 6))) then fX4_mayStart_30 q1 v6 else some (1, v6)
set_option maxRecDepth 100000 in
set_option maxHeartbeats 4000000 in
theorem kX4_mayStart_0 {p : Program} {l : Launch} {e : Env} {s : State} {m : MethodId} {args : Array Value} {below : List Frame} {meth : Method} {c : Code} {D : va_G} {A : Nat → Prop} {cI cS cF cZ cJ : ClassId} {ad : Nat → Nat} {X : va_W} {n : Nat} {q1 : Nat} (G : cx p s m args meth c cX4_mayStart 2 wsX4_mayStart RX4 D (ty5 cI cS cF cZ cJ) A (some .boolean)) (hn : n ≤ 24) (hq1 : kC n q1 = 1) (v : Mem) : sk p l e rmX4_mayStart s m args below meth c D A 2 0 0 (fun res => MQ below (qi D A (ty5 cI cS cF cZ cJ) (Wc cI cS cF ad n X) res) args s 0 0 A) (Wc cI cS cF ad n X v) 0 [(0, .ref (ad 0)), (1, .ref (ad q1))] [] (fX4_mayStart q1 v) := by
  obtain ⟨F, hK, hA, hZ, hr, hlocks⟩ := G
  refine sk_eq (K' := bd (fX4_starts v) fun x3 v2 => if 3 ≤ x3 then fX4_mayStart_30 q1 v2 else bd (fX4_load v2) fun x7 v6 => if (v6 0 5) < (x7 + (3 * (v6 q1 6))) then fX4_mayStart_30 q1 v6 else some (1, v6)) rfl ?_
  refine sk_aload_n F dX4_mayStart_0 rfl 0 rfl ?_
  refine sk_callVi (As := []) (rest := []) F hK hA hZ _ (tX4_starts hn _) (cwV 0 F.2.2.2.2 gX4_mayStart_X4_starts rfl rfl rfl (by decide +kernel) ⟨Nat.le_of_ble_eq_true rfl, Nat.le_of_ble_eq_true rfl⟩) (rc4 hK (kC_0 n)) rfl rfl (Nat.le_of_ble_eq_true rfl) (by decide) dX4_mayStart_1 (fun x3 v2 c1 => ?_)
  refine sk_iconst (x := 3) F dX4_mayStart_4 (by decide) ?_
  refine sk_icmp_ge F 30 dX4_mayStart_5 (by decide) (fun h4 => ?_) (fun h4 => ?_)
  · exact sk_lv [] rfl (kX4_mayStart_30 ⟨F, hK, hA, hZ, hr, hlocks⟩ hn hq1 v2)
  · refine sk_aload_n F dX4_mayStart_8 rfl 0 rfl ?_
    refine sk_callVi (As := []) (rest := []) F hK hA hZ _ (tX4_load hn _) (cwV 0 F.2.2.2.2 gX4_mayStart_X4_load rfl rfl rfl (by decide +kernel) ⟨Nat.le_of_ble_eq_true rfl, Nat.le_of_ble_eq_true rfl⟩) (rc4 hK (kC_0 n)) rfl rfl (Nat.le_of_ble_eq_true rfl) (by decide) dX4_mayStart_9 (fun x7 v6 c5 => ?_)
    refine sk_iconst (x := 3) F dX4_mayStart_12 (by decide) ?_
    refine sk_aload_n F dX4_mayStart_13 rfl 1 rfl ?_
    refine sk_g1 (ref := "TunnelWatch$Fan") F hK hq1 iX4_mayStart_1 6 (by decide) (by decide +kernel) (fun _ h9 => h9) rfl dX4_mayStart_14 ?_
    refine sk_imul F dX4_mayStart_17 ?_
    refine sk_iadd F dX4_mayStart_18 ?_
    refine sk_aload_n F dX4_mayStart_19 rfl 0 rfl ?_
    refine sk_g4 (ref := "TunnelWatch") F hK (kC_0 n) iX4_mayStart_4 5 (by decide) (by decide +kernel) (fun _ h9 => h9) rfl dX4_mayStart_20 ?_
    refine sk_icmp_gt F 30 dX4_mayStart_23 (by decide) (fun h8 => ?_) (fun h8 => ?_)
    · exact sk_lv [] rfl (kX4_mayStart_30 ⟨F, hK, hA, hZ, hr, hlocks⟩ hn hq1 v6)
    · refine sk_iconst (x := 1) F dX4_mayStart_26 (by decide) ?_
      refine sk_goto F 31 dX4_mayStart_27 (by decide) ?_
      exact sk_zretc F hK hr hlocks (by decide) dX4_mayStart_31
theorem tX4_mayStart {l : Launch} {D : va_G} {A : Nat → Prop} {cI cS cF cZ cJ : ClassId} {ad : Nat → Nat} {X : va_W} {n : Nat} (hn : n ≤ 24) {q1 : Nat} (hq1 : kC n q1 = 1) (v : Mem) : CI l yX4_mayStart wsX4_mayStart rmX4_mayStart D A (ty5 cI cS cF cZ cJ) (Wc cI cS cF ad n X) [.ref (ad 0), .ref (ad q1)] v (fX4_mayStart q1 v) :=
  CI_of (cc := cX4_mayStart) (maxL := 2) (ret := (some .boolean)) (by decide) rfl (Nat.le_of_ble_eq_true rfl) (fun p e s m below meth c G => kX4_mayStart_0 G hn hq1 v)
def rmX4_startFan : Room := { frames := 2, cells := 0, slots := 0, locals := 46 }
theorem iX4_startFan_4 : ∀ w ∈ wsX40, w ∈ wsX4_startFan := by decide +kernel
def fX4_startFan_21 (q1 : Nat) (p2 : Int32) (v : Mem) : Option (Mem) := (fX1_blow q1 p2 (v 0 6) v).bind fun v6 => gd (inb ((v6 0 6) - (v6 0 6) / 10 * 10) 10) (gd (inb ((v6 0 6) - (v6 0 6) / 10 * 10) 10) (some (up2 v6 1 ((v6 0 6) - (v6 0 6) / 10 * 10).toNatClampNeg ((v6 1 ((v6 0 6) - (v6 0 6) / 10 * 10).toNatClampNeg) + 1))))
set_option maxRecDepth 100000 in
set_option maxHeartbeats 4000000 in
theorem kX4_startFan_21 {p : Program} {l : Launch} {e : Env} {s : State} {m : MethodId} {args : Array Value} {below : List Frame} {meth : Method} {c : Code} {D : va_G} {A : Nat → Prop} {cI cS cF cZ cJ : ClassId} {ad : Nat → Nat} {X : va_W} {n : Nat} {q1 : Nat} {p2 : Int32} (G : cx p s m args meth c cX4_startFan 3 wsX4_startFan RX4 D (ty5 cI cS cF cZ cJ) A none) (hn : n ≤ 24) (hq1 : kC n q1 = 1) (v : Mem) : sk p l e rmX4_startFan s m args below meth c D A 3 0 0 (fun res => MQ below (qv D A (ty5 cI cS cF cZ cJ) (Wc cI cS cF ad n X) res) args s 0 0 A) (Wc cI cS cF ad n X v) 21 [(0, .ref (ad 0)), (1, .ref (ad q1)), (2, .int p2)] [] (fX4_startFan_21 q1 p2 v) := by
  obtain ⟨F, hK, hA, hZ, hr, hlocks⟩ := G
  refine sk_eq (K' := (fX1_blow q1 p2 (v 0 6) v).bind fun v6 => gd (inb ((v6 0 6) - (v6 0 6) / 10 * 10) 10) (gd (inb ((v6 0 6) - (v6 0 6) / 10 * 10) 10) (some (up2 v6 1 ((v6 0 6) - (v6 0 6) / 10 * 10).toNatClampNeg ((v6 1 ((v6 0 6) - (v6 0 6) / 10 * 10).toNatClampNeg) + 1))))) rfl ?_
  refine sk_aload_n F dX4_startFan_21 rfl 1 rfl ?_
  refine sk_iload_n F dX4_startFan_22 rfl 2 rfl ?_
  refine sk_aload_n F dX4_startFan_23 rfl 0 rfl ?_
  refine sk_g4 (ref := "TunnelWatch") F hK (kC_0 n) iX4_startFan_4 6 (by decide) (by decide +kernel) (fun _ h9 => h9) rfl dX4_startFan_24 ?_
  refine sk_callVv (As := [.int p2, .int (v 0 6)]) (rest := []) F hK hA hZ _ (tX1_blow hn hq1 _) (cwV 2 F.2.2.2.2 gX4_startFan_X1_blow rfl rfl rfl (by decide +kernel) ⟨Nat.le_of_ble_eq_true rfl, Nat.le_of_ble_eq_true rfl⟩) (rc1 hK hq1) rfl rfl (Nat.le_of_ble_eq_true rfl) (by decide) dX4_startFan_27 (fun v6 c5 => ?_)
  refine sk_aload_n F dX4_startFan_30 rfl 0 rfl ?_
  refine sk_g4 (ref := "TunnelWatch") F hK (kC_0 n) iX4_startFan_4 4 (by decide) (by decide +kernel) (fun _ h9 => h9) rfl dX4_startFan_31 ?_
  refine sk_aload_n F dX4_startFan_34 rfl 0 rfl ?_
  refine sk_g4 (ref := "TunnelWatch") F hK (kC_0 n) iX4_startFan_4 6 (by decide) (by decide +kernel) (fun _ h9 => h9) rfl dX4_startFan_35 ?_
  refine sk_bipush (x := 10) F dX4_startFan_38 (by decide) ?_
  refine sk_irem F dX4_startFan_40 (by decide) ?_
  refine sk_dup2 F dX4_startFan_41 rfl rfl ?_
  refine sk_aldC F hK dX4_startFan_42 (fun h8 => ?_)
  refine sk_iconst (x := 1) F dX4_startFan_43 (by decide) ?_
  refine sk_iadd F dX4_startFan_44 ?_
  refine sk_astC F hK dX4_startFan_45 (fun h9 => ?_)
  exact sk_vret F hK hr hlocks dX4_startFan_46
def fX4_startFan (q1 : Nat) (p2 : Int32) (v : Mem) : Option (Mem) := bd (fX1_hasRested q1 p2 (v 0 1) (v 0 6) v) fun x3 v2 => if x3 = 0 then fX4_startFan_21 q1 p2 (up2 v2 0 7 1) else fX4_startFan_21 q1 p2 v2
set_option maxRecDepth 100000 in
set_option maxHeartbeats 4000000 in
theorem kX4_startFan_0 {p : Program} {l : Launch} {e : Env} {s : State} {m : MethodId} {args : Array Value} {below : List Frame} {meth : Method} {c : Code} {D : va_G} {A : Nat → Prop} {cI cS cF cZ cJ : ClassId} {ad : Nat → Nat} {X : va_W} {n : Nat} {q1 : Nat} {p2 : Int32} (G : cx p s m args meth c cX4_startFan 3 wsX4_startFan RX4 D (ty5 cI cS cF cZ cJ) A none) (hn : n ≤ 24) (hq1 : kC n q1 = 1) (v : Mem) : sk p l e rmX4_startFan s m args below meth c D A 3 0 0 (fun res => MQ below (qv D A (ty5 cI cS cF cZ cJ) (Wc cI cS cF ad n X) res) args s 0 0 A) (Wc cI cS cF ad n X v) 0 [(0, .ref (ad 0)), (1, .ref (ad q1)), (2, .int p2)] [] (fX4_startFan q1 p2 v) := by
  obtain ⟨F, hK, hA, hZ, hr, hlocks⟩ := G
  refine sk_eq (K' := bd (fX1_hasRested q1 p2 (v 0 1) (v 0 6) v) fun x3 v2 => if x3 = 0 then fX4_startFan_21 q1 p2 (up2 v2 0 7 1) else fX4_startFan_21 q1 p2 v2) rfl ?_
  refine sk_aload_n F dX4_startFan_0 rfl 1 rfl ?_
  refine sk_iload_n F dX4_startFan_1 rfl 2 rfl ?_
  refine sk_aload_n F dX4_startFan_2 rfl 0 rfl ?_
  refine sk_g4 (ref := "TunnelWatch") F hK (kC_0 n) iX4_startFan_4 1 (by decide) (by decide +kernel) (fun _ h9 => h9) rfl dX4_startFan_3 ?_
  refine sk_aload_n F dX4_startFan_6 rfl 0 rfl ?_
  refine sk_g4 (ref := "TunnelWatch") F hK (kC_0 n) iX4_startFan_4 6 (by decide) (by decide +kernel) (fun _ h9 => h9) rfl dX4_startFan_7 ?_
  refine sk_callVi (As := [.int p2, .int (v 0 1), .int (v 0 6)]) (rest := []) F hK hA hZ _ (tX1_hasRested hn hq1 _) (cwV 3 F.2.2.2.2 gX4_startFan_X1_hasRested rfl rfl rfl (by decide +kernel) ⟨Nat.le_of_ble_eq_true rfl, Nat.le_of_ble_eq_true rfl⟩) (rc1 hK hq1) rfl rfl (Nat.le_of_ble_eq_true rfl) (by decide) dX4_startFan_10 (fun x3 v2 c1 => ?_)
  refine sk_if_ne F 21 dX4_startFan_13 (by decide) (fun h4 => ?_) (fun h4 => ?_)
  · exact kX4_startFan_21 ⟨F, hK, hA, hZ, hr, hlocks⟩ hn hq1 v2
  · refine sk_aload_n F dX4_startFan_16 rfl 0 rfl ?_
    refine sk_iconst (x := 1) F dX4_startFan_17 (by decide) ?_
    refine sk_p4 (ref := "TunnelWatch") (ty := .boolean) F hK (kC_0 n) iX4_startFan_4 7 (by decide) (by decide +kernel) (fun _ h9 => h9) rfl (by decide +kernel) rfl rfl rfl dX4_startFan_18 ?_
    exact kX4_startFan_21 ⟨F, hK, hA, hZ, hr, hlocks⟩ hn hq1 (up2 v2 0 7 1)
theorem tX4_startFan {l : Launch} {D : va_G} {A : Nat → Prop} {cI cS cF cZ cJ : ClassId} {ad : Nat → Nat} {X : va_W} {n : Nat} (hn : n ≤ 24) {q1 : Nat} {p2 : Int32} (hq1 : kC n q1 = 1) (v : Mem) : CV l yX4_startFan wsX4_startFan rmX4_startFan D A (ty5 cI cS cF cZ cJ) (Wc cI cS cF ad n X) [.ref (ad 0), .ref (ad q1), .int p2] v (fX4_startFan q1 p2 v) :=
  CV_of (cc := cX4_startFan) (maxL := 3) (ret := none) (by decide) rfl (Nat.le_of_ble_eq_true rfl) (fun p e s m below meth c G => kX4_startFan_0 G hn hq1 v)
def rmX4_startFans : Room := { frames := 4, cells := 0, slots := 0, locals := 93 }
theorem iX4_startFans_3 : ∀ w ∈ wsX30, w ∈ wsX4_startFans := by decide +kernel
theorem iX4_startFans_4 : ∀ w ∈ wsX40, w ∈ wsX4_startFans := by decide +kernel
def fX4_startFans_30 (q1 : Nat) : Nat → Mem → Int32 → Int32 → Int32 → Option (Int32 × Mem)
  | 0, _, _, _, _ => none
  | fuel + 1, v, l2, l3, l4 => if l3 ≤ l4 then some (1, v) else bd (fX3_leastRunReady q1 (v 0 1) (v 0 6) v) fun x11 v10 => if x11 = (-1) then some (1, v10) else gd (inb x11 12) (bd (fX4_mayStart (q1 + 5 + x11.toNatClampNeg) v10) fun x16 v15 => if x16 = 0 then some (0, v15) else gd (inb x11 12) ((fX4_startFan (q1 + 5 + x11.toNatClampNeg) l2 v15).bind fun v20 => fX4_startFans_30 q1 fuel v20 l2 l3 (l4 + 1)))
set_option maxRecDepth 100000 in
set_option maxHeartbeats 4000000 in
theorem kX4_startFans_30 {p : Program} {l : Launch} {e : Env} {s : State} {m : MethodId} {args : Array Value} {below : List Frame} {meth : Method} {c : Code} {D : va_G} {A : Nat → Prop} {cI cS cF cZ cJ : ClassId} {ad : Nat → Nat} {X : va_W} {n : Nat} {q1 : Nat} (G : cx p s m args meth c cX4_startFans 6 wsX4_startFans RX4 D (ty5 cI cS cF cZ cJ) A (some .boolean)) (hn : n ≤ 24) (hq1 : kC n q1 = 3) : ∀ (fuel : Nat) (v : Mem) (l2 : Int32) (l3 : Int32) (l4 : Int32), sk p l e rmX4_startFans s m args below meth c D A 6 0 0 (fun res => MQ below (qi D A (ty5 cI cS cF cZ cJ) (Wc cI cS cF ad n X) res) args s 0 0 A) (Wc cI cS cF ad n X v) 30 [(0, .ref (ad 0)), (1, .ref (ad q1)), (2, .int l2), (3, .int l3), (4, .int l4)] [] (fX4_startFans_30 q1 fuel v l2 l3 l4) := by
  obtain ⟨F, hK, hA, hZ, hr, hlocks⟩ := G
  intro fuel
  induction fuel with
  | zero => intro v l2 l3 l4; exact sk_none
  | succ fuel ih =>
    intro v l2 l3 l4
    refine sk_eq (K' := if l3 ≤ l4 then some (1, v) else bd (fX3_leastRunReady q1 (v 0 1) (v 0 6) v) fun x11 v10 => if x11 = (-1) then some (1, v10) else gd (inb x11 12) (bd (fX4_mayStart (q1 + 5 + x11.toNatClampNeg) v10) fun x16 v15 => if x16 = 0 then some (0, v15) else gd (inb x11 12) ((fX4_startFan (q1 + 5 + x11.toNatClampNeg) l2 v15).bind fun v20 => fX4_startFans_30 q1 fuel v20 l2 l3 (l4 + 1)))) rfl ?_
    refine sk_iload F dX4_startFans_30 4 rfl ?_
    refine sk_iload_n F dX4_startFans_32 rfl 3 rfl ?_
    refine sk_icmp_ge F 92 dX4_startFans_33 (by decide) (fun h8 => ?_) (fun h8 => ?_)
    · refine sk_iconst (x := 1) F dX4_startFans_92 (by decide) ?_
      exact sk_zretc F hK hr hlocks (by decide) dX4_startFans_93
    · refine sk_aload_n F dX4_startFans_36 rfl 1 rfl ?_
      refine sk_aload_n F dX4_startFans_37 rfl 0 rfl ?_
      refine sk_g4 (ref := "TunnelWatch") F hK (kC_0 n) iX4_startFans_4 1 (by decide) (by decide +kernel) (fun _ h9 => h9) rfl dX4_startFans_38 ?_
      refine sk_aload_n F dX4_startFans_41 rfl 0 rfl ?_
      refine sk_g4 (ref := "TunnelWatch") F hK (kC_0 n) iX4_startFans_4 6 (by decide) (by decide +kernel) (fun _ h9 => h9) rfl dX4_startFans_42 ?_
      refine sk_callVi (As := [.int (v 0 1), .int (v 0 6)]) (rest := []) F hK hA hZ _ (tX3_leastRunReady hn hq1 _) (cwV 2 F.2.2.2.2 gX4_startFans_X3_leastRunReady rfl rfl rfl (by decide +kernel) ⟨Nat.le_of_ble_eq_true rfl, Nat.le_of_ble_eq_true rfl⟩) (rc3 hK hq1) rfl rfl (Nat.le_of_ble_eq_true rfl) (by decide) dX4_startFans_45 (fun x11 v10 c9 => ?_)
      refine sk_istore F dX4_startFans_48 (by decide) rfl ?_
      refine sk_iload F dX4_startFans_50 0 rfl ?_
      refine sk_iconst (x := (-1)) F dX4_startFans_52 (by decide) ?_
      refine sk_icmp_ne F 58 dX4_startFans_53 (by decide) (fun h12 => ?_) (fun h12 => ?_)
      · refine sk_aload_n F dX4_startFans_58 rfl 1 rfl ?_
        refine sk_aload_n F dX4_startFans_59 rfl 2 rfl ?_
        refine sk_g3 (ref := "TunnelWatch$Tube") F hK hq1 iX4_startFans_3 3 (by decide) (by decide +kernel) (fun _ h9 => h9) rfl dX4_startFans_60 ?_
        refine sk_iload F dX4_startFans_63 0 rfl ?_
        refine sk_aldF F hK hq1 dX4_startFans_65 (fun h13 => ?_)
        refine sk_callVi (As := [.ref (ad (q1 + 5 + x11.toNatClampNeg))]) (rest := []) F hK hA hZ _ (tX4_mayStart hn (kC_f hq1 (inb_lt h13)) _) (cwV 1 F.2.2.2.2 gX4_startFans_X4_mayStart rfl rfl rfl (by decide +kernel) ⟨Nat.le_of_ble_eq_true rfl, Nat.le_of_ble_eq_true rfl⟩) (rc4 hK (kC_0 n)) rfl rfl (Nat.le_of_ble_eq_true rfl) (by decide) dX4_startFans_66 (fun x16 v15 c14 => ?_)
        refine sk_if_ne F 74 dX4_startFans_69 (by decide) (fun h17 => ?_) (fun h17 => ?_)
        · refine sk_aload_n F dX4_startFans_74 rfl 1 rfl ?_
          refine sk_aload_n F dX4_startFans_75 rfl 2 rfl ?_
          refine sk_g3 (ref := "TunnelWatch$Tube") F hK hq1 iX4_startFans_3 3 (by decide) (by decide +kernel) (fun _ h9 => h9) rfl dX4_startFans_76 ?_
          refine sk_iload F dX4_startFans_79 0 rfl ?_
          refine sk_aldF F hK hq1 dX4_startFans_81 (fun h18 => ?_)
          refine sk_iload_n F dX4_startFans_82 rfl 3 rfl ?_
          refine sk_callVv (As := [.ref (ad (q1 + 5 + x11.toNatClampNeg)), .int l2]) (rest := []) F hK hA hZ _ (tX4_startFan hn (kC_f hq1 (inb_lt h18)) _) (cwV 2 F.2.2.2.2 gX4_startFans_X4_startFan rfl rfl rfl (by decide +kernel) ⟨Nat.le_of_ble_eq_true rfl, Nat.le_of_ble_eq_true rfl⟩) (rc4 hK (kC_0 n)) rfl rfl (Nat.le_of_ble_eq_true rfl) (by decide) dX4_startFans_83 (fun v20 c19 => ?_)
          refine sk_iinc (y := l4 + 1) F dX4_startFans_86 5 rfl rfl (by decide) rfl ?_
          refine sk_goto F 30 dX4_startFans_89 (by decide) ?_
          exact sk_lv [2, 3, 4, 5, 0] rfl (ih v20 l2 l3 (l4 + 1))
        · refine sk_iconst (x := 0) F dX4_startFans_72 (by decide) ?_
          exact sk_zretc F hK hr hlocks (by decide) dX4_startFans_73
      · refine sk_iconst (x := 1) F dX4_startFans_56 (by decide) ?_
        exact sk_zretc F hK hr hlocks (by decide) dX4_startFans_57
def fX4_startFans (q1 : Nat) (v : Mem) : Option (Int32 × Mem) := bd (fX3_countBlowing q1 (-(v q1 8)) v) fun x3 v2 => if x3 ≤ 0 then bd (fX3_countBlowing q1 (v q1 8) v2) fun x7 v6 => fX4_startFans_30 q1 1000 v6 (v q1 8) ((v2 q1 9) - x7) 0 else some (1, v2)
set_option maxRecDepth 100000 in
set_option maxHeartbeats 4000000 in
theorem kX4_startFans_0 {p : Program} {l : Launch} {e : Env} {s : State} {m : MethodId} {args : Array Value} {below : List Frame} {meth : Method} {c : Code} {D : va_G} {A : Nat → Prop} {cI cS cF cZ cJ : ClassId} {ad : Nat → Nat} {X : va_W} {n : Nat} {q1 : Nat} (G : cx p s m args meth c cX4_startFans 6 wsX4_startFans RX4 D (ty5 cI cS cF cZ cJ) A (some .boolean)) (hn : n ≤ 24) (hq1 : kC n q1 = 3) (v : Mem) : sk p l e rmX4_startFans s m args below meth c D A 6 0 0 (fun res => MQ below (qi D A (ty5 cI cS cF cZ cJ) (Wc cI cS cF ad n X) res) args s 0 0 A) (Wc cI cS cF ad n X v) 0 [(0, .ref (ad 0)), (1, .ref (ad q1))] [] (fX4_startFans q1 v) := by
  obtain ⟨F, hK, hA, hZ, hr, hlocks⟩ := G
  refine sk_eq (K' := bd (fX3_countBlowing q1 (-(v q1 8)) v) fun x3 v2 => if x3 ≤ 0 then bd (fX3_countBlowing q1 (v q1 8) v2) fun x7 v6 => fX4_startFans_30 q1 1000 v6 (v q1 8) ((v2 q1 9) - x7) 0 else some (1, v2)) rfl ?_
  refine sk_aload_n F dX4_startFans_0 rfl 1 rfl ?_
  refine sk_g3 (ref := "TunnelWatch$Tube") F hK hq1 iX4_startFans_3 8 (by decide) (by decide +kernel) (fun _ h9 => h9) rfl dX4_startFans_1 ?_
  refine sk_istore_n F dX4_startFans_4 rfl (by decide) rfl ?_
  refine sk_aload_n F dX4_startFans_5 rfl 2 rfl ?_
  refine sk_iload_n F dX4_startFans_6 rfl 0 rfl ?_
  refine sk_ineg F dX4_startFans_7 ?_
  refine sk_callVi (As := [.int (-(v q1 8))]) (rest := []) F hK hA hZ _ (tX3_countBlowing hn hq1 _) (cwV 1 F.2.2.2.2 gX4_startFans_X3_countBlowing rfl rfl rfl (by decide +kernel) ⟨Nat.le_of_ble_eq_true rfl, Nat.le_of_ble_eq_true rfl⟩) (rc3 hK hq1) rfl rfl (Nat.le_of_ble_eq_true rfl) (by decide) dX4_startFans_8 (fun x3 v2 c1 => ?_)
  refine sk_if_le F 16 dX4_startFans_11 (by decide) (fun h4 => ?_) (fun h4 => ?_)
  · refine sk_aload_n F dX4_startFans_16 rfl 2 rfl ?_
    refine sk_g3 (ref := "TunnelWatch$Tube") F hK hq1 iX4_startFans_3 9 (by decide) (by decide +kernel) (fun _ h9 => h9) rfl dX4_startFans_17 ?_
    refine sk_aload_n F dX4_startFans_20 rfl 2 rfl ?_
    refine sk_iload_n F dX4_startFans_21 rfl 0 rfl ?_
    refine sk_callVi (As := [.int (v q1 8)]) (rest := [.int (v2 q1 9)]) F hK hA hZ _ (tX3_countBlowing hn hq1 _) (cwV 1 F.2.2.2.2 gX4_startFans_X3_countBlowing rfl rfl rfl (by decide +kernel) ⟨Nat.le_of_ble_eq_true rfl, Nat.le_of_ble_eq_true rfl⟩) (rc3 hK hq1) rfl rfl (Nat.le_of_ble_eq_true rfl) (by decide) dX4_startFans_22 (fun x7 v6 c5 => ?_)
    refine sk_isub F dX4_startFans_25 ?_
    refine sk_istore_n F dX4_startFans_26 rfl (by decide) rfl ?_
    refine sk_iconst (x := 0) F dX4_startFans_27 (by decide) ?_
    refine sk_istore F dX4_startFans_28 (by decide) rfl ?_
    exact sk_lv [3, 4, 2, 1, 0] rfl (kX4_startFans_30 ⟨F, hK, hA, hZ, hr, hlocks⟩ hn hq1 1000 v6 (v q1 8) ((v2 q1 9) - x7) 0)
  · refine sk_iconst (x := 1) F dX4_startFans_14 (by decide) ?_
    exact sk_zretc F hK hr hlocks (by decide) dX4_startFans_15
theorem tX4_startFans {l : Launch} {D : va_G} {A : Nat → Prop} {cI cS cF cZ cJ : ClassId} {ad : Nat → Nat} {X : va_W} {n : Nat} (hn : n ≤ 24) {q1 : Nat} (hq1 : kC n q1 = 3) (v : Mem) : CI l yX4_startFans wsX4_startFans rmX4_startFans D A (ty5 cI cS cF cZ cJ) (Wc cI cS cF ad n X) [.ref (ad 0), .ref (ad q1)] v (fX4_startFans q1 v) :=
  CI_of (cc := cX4_startFans) (maxL := 6) (ret := (some .boolean)) (by decide) rfl (Nat.le_of_ble_eq_true rfl) (fun p e s m below meth c G => kX4_startFans_0 G hn hq1 v)
def rmX4_isBroken : Room := { frames := 3, cells := 0, slots := 0, locals := 64 }
theorem iX4_isBroken_4 : ∀ w ∈ wsX40, w ∈ wsX4_isBroken := by decide +kernel
def fX4_isBroken (v : Mem) : Option (Int32 × Mem) := bd (fX4_load v) fun x3 v2 => if (v2 0 5) < x3 then some (1, v2) else bd (fX4_starts v2) fun x7 v6 => if 3 < x7 then some (1, v6) else if (v6 0 7) = 0 then bd (fX3_isUnsafe 2 (v6 0 6) v6) fun x12 v11 => if x12 = 0 then bd (fX3_isUnsafe 43 (v11 0 6) v11) fun x16 v15 => if x16 = 0 then some (0, v15) else some (1, v15) else some (1, v11) else some (1, v6)
set_option maxRecDepth 100000 in
set_option maxHeartbeats 4000000 in
theorem kX4_isBroken_0 {p : Program} {l : Launch} {e : Env} {s : State} {m : MethodId} {args : Array Value} {below : List Frame} {meth : Method} {c : Code} {D : va_G} {A : Nat → Prop} {cI cS cF cZ cJ : ClassId} {ad : Nat → Nat} {X : va_W} {n : Nat} (G : cx p s m args meth c cX4_isBroken 1 wsX4_isBroken RX4 D (ty5 cI cS cF cZ cJ) A (some .boolean)) (hn : n ≤ 24) (v : Mem) : sk p l e rmX4_isBroken s m args below meth c D A 1 0 0 (fun res => MQ below (qi D A (ty5 cI cS cF cZ cJ) (Wc cI cS cF ad n X) res) args s 0 0 A) (Wc cI cS cF ad n X v) 0 [(0, .ref (ad 0))] [] (fX4_isBroken v) := by
  obtain ⟨F, hK, hA, hZ, hr, hlocks⟩ := G
  refine sk_eq (K' := bd (fX4_load v) fun x3 v2 => if (v2 0 5) < x3 then some (1, v2) else bd (fX4_starts v2) fun x7 v6 => if 3 < x7 then some (1, v6) else if (v6 0 7) = 0 then bd (fX3_isUnsafe 2 (v6 0 6) v6) fun x12 v11 => if x12 = 0 then bd (fX3_isUnsafe 43 (v11 0 6) v11) fun x16 v15 => if x16 = 0 then some (0, v15) else some (1, v15) else some (1, v11) else some (1, v6)) rfl ?_
  refine sk_aload_n F dX4_isBroken_0 rfl 0 rfl ?_
  refine sk_callVi (As := []) (rest := []) F hK hA hZ _ (tX4_load hn _) (cwV 0 F.2.2.2.2 gX4_isBroken_X4_load rfl rfl rfl (by decide +kernel) ⟨Nat.le_of_ble_eq_true rfl, Nat.le_of_ble_eq_true rfl⟩) (rc4 hK (kC_0 n)) rfl rfl (Nat.le_of_ble_eq_true rfl) (by decide) dX4_isBroken_1 (fun x3 v2 c1 => ?_)
  refine sk_aload_n F dX4_isBroken_4 rfl 0 rfl ?_
  refine sk_g4 (ref := "TunnelWatch") F hK (kC_0 n) iX4_isBroken_4 5 (by decide) (by decide +kernel) (fun _ h9 => h9) rfl dX4_isBroken_5 ?_
  refine sk_icmp_gt F 54 dX4_isBroken_8 (by decide) (fun h4 => ?_) (fun h4 => ?_)
  · refine sk_iconst (x := 1) F dX4_isBroken_54 (by decide) ?_
    refine sk_goto F 59 dX4_isBroken_55 (by decide) ?_
    exact sk_zretc F hK hr hlocks (by decide) dX4_isBroken_59
  · refine sk_aload_n F dX4_isBroken_11 rfl 0 rfl ?_
    refine sk_callVi (As := []) (rest := []) F hK hA hZ _ (tX4_starts hn _) (cwV 0 F.2.2.2.2 gX4_isBroken_X4_starts rfl rfl rfl (by decide +kernel) ⟨Nat.le_of_ble_eq_true rfl, Nat.le_of_ble_eq_true rfl⟩) (rc4 hK (kC_0 n)) rfl rfl (Nat.le_of_ble_eq_true rfl) (by decide) dX4_isBroken_12 (fun x7 v6 c5 => ?_)
    refine sk_iconst (x := 3) F dX4_isBroken_15 (by decide) ?_
    refine sk_icmp_gt F 54 dX4_isBroken_16 (by decide) (fun h8 => ?_) (fun h8 => ?_)
    · refine sk_iconst (x := 1) F dX4_isBroken_54 (by decide) ?_
      refine sk_goto F 59 dX4_isBroken_55 (by decide) ?_
      exact sk_zretc F hK hr hlocks (by decide) dX4_isBroken_59
    · refine sk_aload_n F dX4_isBroken_19 rfl 0 rfl ?_
      refine sk_g4 (ref := "TunnelWatch") F hK (kC_0 n) iX4_isBroken_4 7 (by decide) (by decide +kernel) (fun _ h9 => h9) rfl dX4_isBroken_20 ?_
      refine sk_if_ne F 54 dX4_isBroken_23 (by decide) (fun h9 => ?_) (fun h9 => ?_)
      · refine sk_iconst (x := 1) F dX4_isBroken_54 (by decide) ?_
        refine sk_goto F 59 dX4_isBroken_55 (by decide) ?_
        exact sk_zretc F hK hr hlocks (by decide) dX4_isBroken_59
      · refine sk_aload_n F dX4_isBroken_26 rfl 0 rfl ?_
        refine sk_g4 (ref := "TunnelWatch") F hK (kC_0 n) iX4_isBroken_4 2 (by decide) (by decide +kernel) (fun _ h9 => h9) rfl dX4_isBroken_27 ?_
        refine sk_aload_n F dX4_isBroken_30 rfl 0 rfl ?_
        refine sk_g4 (ref := "TunnelWatch") F hK (kC_0 n) iX4_isBroken_4 6 (by decide) (by decide +kernel) (fun _ h9 => h9) rfl dX4_isBroken_31 ?_
        refine sk_callVi (As := [.int (v6 0 6)]) (rest := []) F hK hA hZ _ (tX3_isUnsafe hn (kC_2 n) _) (cwV 1 F.2.2.2.2 gX4_isBroken_X3_isUnsafe rfl rfl rfl (by decide +kernel) ⟨Nat.le_of_ble_eq_true rfl, Nat.le_of_ble_eq_true rfl⟩) (rc3 hK (kC_2 n)) rfl rfl (Nat.le_of_ble_eq_true rfl) (by decide) dX4_isBroken_34 (fun x12 v11 c10 => ?_)
        refine sk_if_ne F 54 dX4_isBroken_37 (by decide) (fun h13 => ?_) (fun h13 => ?_)
        · refine sk_iconst (x := 1) F dX4_isBroken_54 (by decide) ?_
          refine sk_goto F 59 dX4_isBroken_55 (by decide) ?_
          exact sk_zretc F hK hr hlocks (by decide) dX4_isBroken_59
        · refine sk_aload_n F dX4_isBroken_40 rfl 0 rfl ?_
          refine sk_g4 (ref := "TunnelWatch") F hK (kC_0 n) iX4_isBroken_4 3 (by decide) (by decide +kernel) (fun _ h9 => h9) rfl dX4_isBroken_41 ?_
          refine sk_aload_n F dX4_isBroken_44 rfl 0 rfl ?_
          refine sk_g4 (ref := "TunnelWatch") F hK (kC_0 n) iX4_isBroken_4 6 (by decide) (by decide +kernel) (fun _ h9 => h9) rfl dX4_isBroken_45 ?_
          refine sk_callVi (As := [.int (v11 0 6)]) (rest := []) F hK hA hZ _ (tX3_isUnsafe hn (kC_43 n) _) (cwV 1 F.2.2.2.2 gX4_isBroken_X3_isUnsafe rfl rfl rfl (by decide +kernel) ⟨Nat.le_of_ble_eq_true rfl, Nat.le_of_ble_eq_true rfl⟩) (rc3 hK (kC_43 n)) rfl rfl (Nat.le_of_ble_eq_true rfl) (by decide) dX4_isBroken_48 (fun x16 v15 c14 => ?_)
          refine sk_if_eq F 58 dX4_isBroken_51 (by decide) (fun h17 => ?_) (fun h17 => ?_)
          · refine sk_iconst (x := 0) F dX4_isBroken_58 (by decide) ?_
            exact sk_zretc F hK hr hlocks (by decide) dX4_isBroken_59
          · refine sk_iconst (x := 1) F dX4_isBroken_54 (by decide) ?_
            refine sk_goto F 59 dX4_isBroken_55 (by decide) ?_
            exact sk_zretc F hK hr hlocks (by decide) dX4_isBroken_59
theorem tX4_isBroken {l : Launch} {D : va_G} {A : Nat → Prop} {cI cS cF cZ cJ : ClassId} {ad : Nat → Nat} {X : va_W} {n : Nat} (hn : n ≤ 24) (v : Mem) : CI l yX4_isBroken wsX4_isBroken rmX4_isBroken D A (ty5 cI cS cF cZ cJ) (Wc cI cS cF ad n X) [.ref (ad 0)] v (fX4_isBroken v) :=
  CI_of (cc := cX4_isBroken) (maxL := 1) (ret := (some .boolean)) (by decide) rfl (Nat.le_of_ble_eq_true rfl) (fun p e s m below meth c G => kX4_isBroken_0 G hn v)
def rmX4_tellFan : Room := { frames := 1, cells := 0, slots := 0, locals := 23 }
theorem iX4_tellFan_1 : ∀ w ∈ wsX10, w ∈ wsX4_tellFan := by decide +kernel
theorem iX4_tellFan_4 : ∀ w ∈ wsX40, w ∈ wsX4_tellFan := by decide +kernel
def fX4_tellFan (q1 : Nat) (p2 : Int32) (v : Mem) : Option (Int32 × Mem) := if p2 = 4 then some (v q1 7, v) else bd (fX1_restLeft q1 (v 0 1) (v 0 6) v) fun x4 v3 => some (x4, v3)
set_option maxRecDepth 100000 in
set_option maxHeartbeats 4000000 in
theorem kX4_tellFan_0 {p : Program} {l : Launch} {e : Env} {s : State} {m : MethodId} {args : Array Value} {below : List Frame} {meth : Method} {c : Code} {D : va_G} {A : Nat → Prop} {cI cS cF cZ cJ : ClassId} {ad : Nat → Nat} {X : va_W} {n : Nat} {q1 : Nat} {p2 : Int32} (G : cx p s m args meth c cX4_tellFan 3 wsX4_tellFan RX4 D (ty5 cI cS cF cZ cJ) A (some .int)) (hn : n ≤ 24) (hq1 : kC n q1 = 1) (v : Mem) : sk p l e rmX4_tellFan s m args below meth c D A 3 0 0 (fun res => MQ below (qi D A (ty5 cI cS cF cZ cJ) (Wc cI cS cF ad n X) res) args s 0 0 A) (Wc cI cS cF ad n X v) 0 [(0, .ref (ad 0)), (1, .ref (ad q1)), (2, .int p2)] [] (fX4_tellFan q1 p2 v) := by
  obtain ⟨F, hK, hA, hZ, hr, hlocks⟩ := G
  refine sk_eq (K' := if p2 = 4 then some (v q1 7, v) else bd (fX1_restLeft q1 (v 0 1) (v 0 6) v) fun x4 v3 => some (x4, v3)) rfl ?_
  refine sk_iload_n F dX4_tellFan_0 rfl 2 rfl ?_
  refine sk_iconst (x := 4) F dX4_tellFan_1 (by decide) ?_
  refine sk_icmp_ne F 12 dX4_tellFan_2 (by decide) (fun h1 => ?_) (fun h1 => ?_)
  · refine sk_aload_n F dX4_tellFan_12 rfl 1 rfl ?_
    refine sk_aload_n F dX4_tellFan_13 rfl 0 rfl ?_
    refine sk_g4 (ref := "TunnelWatch") F hK (kC_0 n) iX4_tellFan_4 1 (by decide) (by decide +kernel) (fun _ h9 => h9) rfl dX4_tellFan_14 ?_
    refine sk_aload_n F dX4_tellFan_17 rfl 0 rfl ?_
    refine sk_g4 (ref := "TunnelWatch") F hK (kC_0 n) iX4_tellFan_4 6 (by decide) (by decide +kernel) (fun _ h9 => h9) rfl dX4_tellFan_18 ?_
    refine sk_callVi (As := [.int (v 0 1), .int (v 0 6)]) (rest := []) F hK hA hZ _ (tX1_restLeft hn hq1 _) (cwV 2 F.2.2.2.2 gX4_tellFan_X1_restLeft rfl rfl rfl (by decide +kernel) ⟨Nat.le_of_ble_eq_true rfl, Nat.le_of_ble_eq_true rfl⟩) (rc1 hK hq1) rfl rfl (Nat.le_of_ble_eq_true rfl) (by decide) dX4_tellFan_21 (fun x4 v3 c2 => ?_)
    exact sk_iret F hK hr hlocks dX4_tellFan_24
  · refine sk_aload_n F dX4_tellFan_5 rfl 1 rfl ?_
    refine sk_g1 (ref := "TunnelWatch$Fan") F hK hq1 iX4_tellFan_1 7 (by decide) (by decide +kernel) (fun _ h9 => h9) rfl dX4_tellFan_6 ?_
    refine sk_goto F 24 dX4_tellFan_9 (by decide) ?_
    exact sk_iret F hK hr hlocks dX4_tellFan_24
theorem tX4_tellFan {l : Launch} {D : va_G} {A : Nat → Prop} {cI cS cF cZ cJ : ClassId} {ad : Nat → Nat} {X : va_W} {n : Nat} (hn : n ≤ 24) {q1 : Nat} {p2 : Int32} (hq1 : kC n q1 = 1) (v : Mem) : CI l yX4_tellFan wsX4_tellFan rmX4_tellFan D A (ty5 cI cS cF cZ cJ) (Wc cI cS cF ad n X) [.ref (ad 0), .ref (ad q1), .int p2] v (fX4_tellFan q1 p2 v) :=
  CI_of (cc := cX4_tellFan) (maxL := 3) (ret := (some .int)) (by decide) rfl (Nat.le_of_ble_eq_true rfl) (fun p e s m below meth c G => kX4_tellFan_0 G hn hq1 v)
def rmX4_tick : Room := { frames := 5, cells := 0, slots := 0, locals := 118 }
theorem iX4_tick_4 : ∀ w ∈ wsX40, w ∈ wsX4_tick := by decide +kernel
def fX4_tick_192 (n : Nat) (v : Mem) : Option (Mem) := (fX3_countRun 2 v).bind fun v46 => (fX3_countRun 43 v46).bind fun v49 => bd (fX4_isBroken v49) fun x53 v52 => if x53 = 0 then some v52 else some (up2 v52 0 8 ((v52 0 8) + 1))
set_option maxRecDepth 100000 in
set_option maxHeartbeats 4000000 in
theorem kX4_tick_192 {p : Program} {l : Launch} {e : Env} {s : State} {m : MethodId} {args : Array Value} {below : List Frame} {meth : Method} {c : Code} {D : va_G} {A : Nat → Prop} {cI cS cF cZ cJ : ClassId} {ad : Nat → Nat} {X : va_W} {n : Nat} (G : cx p s m args meth c cX4_tick 5 wsX4_tick RX4 D (ty5 cI cS cF cZ cJ) A none) (hn : n ≤ 24) (v : Mem) : sk p l e rmX4_tick s m args below meth c D A 5 0 0 (fun res => MQ below (qv D A (ty5 cI cS cF cZ cJ) (Wc cI cS cF ad n X) res) args s 0 0 A) (Wc cI cS cF ad n X v) 192 [(0, .ref (ad 0))] [] (fX4_tick_192 n v) := by
  obtain ⟨F, hK, hA, hZ, hr, hlocks⟩ := G
  refine sk_eq (K' := (fX3_countRun 2 v).bind fun v46 => (fX3_countRun 43 v46).bind fun v49 => bd (fX4_isBroken v49) fun x53 v52 => if x53 = 0 then some v52 else some (up2 v52 0 8 ((v52 0 8) + 1))) rfl ?_
  refine sk_aload_n F dX4_tick_192 rfl 0 rfl ?_
  refine sk_g4 (ref := "TunnelWatch") F hK (kC_0 n) iX4_tick_4 2 (by decide) (by decide +kernel) (fun _ h9 => h9) rfl dX4_tick_193 ?_
  refine sk_callVv (As := []) (rest := []) F hK hA hZ _ (tX3_countRun hn (kC_2 n) _) (cwV 0 F.2.2.2.2 gX4_tick_X3_countRun rfl rfl rfl (by decide +kernel) ⟨Nat.le_of_ble_eq_true rfl, Nat.le_of_ble_eq_true rfl⟩) (rc3 hK (kC_2 n)) rfl rfl (Nat.le_of_ble_eq_true rfl) (by decide) dX4_tick_196 (fun v46 c45 => ?_)
  refine sk_aload_n F dX4_tick_199 rfl 0 rfl ?_
  refine sk_g4 (ref := "TunnelWatch") F hK (kC_0 n) iX4_tick_4 3 (by decide) (by decide +kernel) (fun _ h9 => h9) rfl dX4_tick_200 ?_
  refine sk_callVv (As := []) (rest := []) F hK hA hZ _ (tX3_countRun hn (kC_43 n) _) (cwV 0 F.2.2.2.2 gX4_tick_X3_countRun rfl rfl rfl (by decide +kernel) ⟨Nat.le_of_ble_eq_true rfl, Nat.le_of_ble_eq_true rfl⟩) (rc3 hK (kC_43 n)) rfl rfl (Nat.le_of_ble_eq_true rfl) (by decide) dX4_tick_203 (fun v49 c48 => ?_)
  refine sk_aload_n F dX4_tick_206 rfl 0 rfl ?_
  refine sk_callVi (As := []) (rest := []) F hK hA hZ _ (tX4_isBroken hn _) (cwV 0 F.2.2.2.2 gX4_tick_X4_isBroken rfl rfl rfl (by decide +kernel) ⟨Nat.le_of_ble_eq_true rfl, Nat.le_of_ble_eq_true rfl⟩) (rc4 hK (kC_0 n)) rfl rfl (Nat.le_of_ble_eq_true rfl) (by decide) dX4_tick_207 (fun x53 v52 c51 => ?_)
  refine sk_if_eq F 223 dX4_tick_210 (by decide) (fun h54 => ?_) (fun h54 => ?_)
  · exact sk_vret F hK hr hlocks dX4_tick_223
  · refine sk_aload_n F dX4_tick_213 rfl 0 rfl ?_
    refine sk_dup F dX4_tick_214 rfl ?_
    refine sk_g4 (ref := "TunnelWatch") F hK (kC_0 n) iX4_tick_4 8 (by decide) (by decide +kernel) (fun _ h9 => h9) rfl dX4_tick_215 ?_
    refine sk_iconst (x := 1) F dX4_tick_218 (by decide) ?_
    refine sk_iadd F dX4_tick_219 ?_
    refine sk_p4 (ref := "TunnelWatch") (ty := .int) F hK (kC_0 n) iX4_tick_4 8 (by decide) (by decide +kernel) (fun _ h9 => h9) rfl (by decide +kernel) rfl rfl rfl dX4_tick_220 ?_
    exact sk_vret F hK hr hlocks dX4_tick_223
def fX4_tick_113 (n : Nat) (v : Mem) (l2 : Int32) (r3 : Nat) (s0 : Nat) : Option (Mem) := (fX4_wantFans n l2 r3 s0 v).bind fun v21 => (fX3_commandTraffic 2 l2 (v21 0 6) v21).bind fun v24 => (fX3_commandTraffic 43 l2 (v24 0 6) v24).bind fun v27 => (fX3_stopFans 2 l2 (v27 0 6) v27).bind fun v30 => (fX3_stopFans 43 l2 (v30 0 6) v30).bind fun v33 => (fX4_shedLoad r3 s0 v33).bind fun v36 => bd (fX4_startFans r3 v36) fun x40 v39 => if x40 = 0 then fX4_tick_192 n v39 else bd (fX4_startFans s0 v39) fun x44 v43 => fX4_tick_192 n v43
set_option maxRecDepth 100000 in
set_option maxHeartbeats 4000000 in
theorem kX4_tick_113 {p : Program} {l : Launch} {e : Env} {s : State} {m : MethodId} {args : Array Value} {below : List Frame} {meth : Method} {c : Code} {D : va_G} {A : Nat → Prop} {cI cS cF cZ cJ : ClassId} {ad : Nat → Nat} {X : va_W} {n : Nat} (G : cx p s m args meth c cX4_tick 5 wsX4_tick RX4 D (ty5 cI cS cF cZ cJ) A none) (hn : n ≤ 24) (v : Mem) (l2 : Int32) (r3 : Nat) (s0 : Nat) (hr3 : kC n r3 = 3) (hs0 : kC n s0 = 3) : sk p l e rmX4_tick s m args below meth c D A 5 0 0 (fun res => MQ below (qv D A (ty5 cI cS cF cZ cJ) (Wc cI cS cF ad n X) res) args s 0 0 A) (Wc cI cS cF ad n X v) 113 [(0, .ref (ad 0)), (2, .int l2), (3, .ref (ad r3))] [.ref (ad s0)] (fX4_tick_113 n v l2 r3 s0) := by
  obtain ⟨F, hK, hA, hZ, hr, hlocks⟩ := G
  refine sk_eq (K' := (fX4_wantFans n l2 r3 s0 v).bind fun v21 => (fX3_commandTraffic 2 l2 (v21 0 6) v21).bind fun v24 => (fX3_commandTraffic 43 l2 (v24 0 6) v24).bind fun v27 => (fX3_stopFans 2 l2 (v27 0 6) v27).bind fun v30 => (fX3_stopFans 43 l2 (v30 0 6) v30).bind fun v33 => (fX4_shedLoad r3 s0 v33).bind fun v36 => bd (fX4_startFans r3 v36) fun x40 v39 => if x40 = 0 then fX4_tick_192 n v39 else bd (fX4_startFans s0 v39) fun x44 v43 => fX4_tick_192 n v43) rfl ?_
  refine sk_astore F dX4_tick_113 (by decide) rfl ?_
  refine sk_iload_n F dX4_tick_115 rfl 2 rfl ?_
  refine sk_aload_n F dX4_tick_116 rfl 3 rfl ?_
  refine sk_aload F dX4_tick_117 0 rfl ?_
  refine sk_callSv (As := [.int l2, .ref (ad r3), .ref (ad s0)]) (rest := []) F hK hA hZ _ (tX4_wantFans hn hr3 hs0 _) (va_cwS 3 F.2.2.2.2 gX4_tick_X4_wantFans rfl rfl rfl (by decide +kernel) ⟨Nat.le_of_ble_eq_true rfl, Nat.le_of_ble_eq_true rfl⟩) rfl rfl (Nat.le_of_ble_eq_true rfl) (by decide) dX4_tick_119 (fun v21 c20 => ?_)
  refine sk_aload_n F dX4_tick_122 rfl 1 rfl ?_
  refine sk_g4 (ref := "TunnelWatch") F hK (kC_0 n) iX4_tick_4 2 (by decide) (by decide +kernel) (fun _ h9 => h9) rfl dX4_tick_123 ?_
  refine sk_iload_n F dX4_tick_126 rfl 2 rfl ?_
  refine sk_aload_n F dX4_tick_127 rfl 1 rfl ?_
  refine sk_g4 (ref := "TunnelWatch") F hK (kC_0 n) iX4_tick_4 6 (by decide) (by decide +kernel) (fun _ h9 => h9) rfl dX4_tick_128 ?_
  refine sk_callVv (As := [.int l2, .int (v21 0 6)]) (rest := []) F hK hA hZ _ (tX3_commandTraffic hn (kC_2 n) _) (cwV 2 F.2.2.2.2 gX4_tick_X3_commandTraffic rfl rfl rfl (by decide +kernel) ⟨Nat.le_of_ble_eq_true rfl, Nat.le_of_ble_eq_true rfl⟩) (rc3 hK (kC_2 n)) rfl rfl (Nat.le_of_ble_eq_true rfl) (by decide) dX4_tick_131 (fun v24 c23 => ?_)
  refine sk_aload_n F dX4_tick_134 rfl 1 rfl ?_
  refine sk_g4 (ref := "TunnelWatch") F hK (kC_0 n) iX4_tick_4 3 (by decide) (by decide +kernel) (fun _ h9 => h9) rfl dX4_tick_135 ?_
  refine sk_iload_n F dX4_tick_138 rfl 2 rfl ?_
  refine sk_aload_n F dX4_tick_139 rfl 1 rfl ?_
  refine sk_g4 (ref := "TunnelWatch") F hK (kC_0 n) iX4_tick_4 6 (by decide) (by decide +kernel) (fun _ h9 => h9) rfl dX4_tick_140 ?_
  refine sk_callVv (As := [.int l2, .int (v24 0 6)]) (rest := []) F hK hA hZ _ (tX3_commandTraffic hn (kC_43 n) _) (cwV 2 F.2.2.2.2 gX4_tick_X3_commandTraffic rfl rfl rfl (by decide +kernel) ⟨Nat.le_of_ble_eq_true rfl, Nat.le_of_ble_eq_true rfl⟩) (rc3 hK (kC_43 n)) rfl rfl (Nat.le_of_ble_eq_true rfl) (by decide) dX4_tick_143 (fun v27 c26 => ?_)
  refine sk_aload_n F dX4_tick_146 rfl 1 rfl ?_
  refine sk_g4 (ref := "TunnelWatch") F hK (kC_0 n) iX4_tick_4 2 (by decide) (by decide +kernel) (fun _ h9 => h9) rfl dX4_tick_147 ?_
  refine sk_iload_n F dX4_tick_150 rfl 2 rfl ?_
  refine sk_aload_n F dX4_tick_151 rfl 1 rfl ?_
  refine sk_g4 (ref := "TunnelWatch") F hK (kC_0 n) iX4_tick_4 6 (by decide) (by decide +kernel) (fun _ h9 => h9) rfl dX4_tick_152 ?_
  refine sk_callVv (As := [.int l2, .int (v27 0 6)]) (rest := []) F hK hA hZ _ (tX3_stopFans hn (kC_2 n) _) (cwV 2 F.2.2.2.2 gX4_tick_X3_stopFans rfl rfl rfl (by decide +kernel) ⟨Nat.le_of_ble_eq_true rfl, Nat.le_of_ble_eq_true rfl⟩) (rc3 hK (kC_2 n)) rfl rfl (Nat.le_of_ble_eq_true rfl) (by decide) dX4_tick_155 (fun v30 c29 => ?_)
  refine sk_aload_n F dX4_tick_158 rfl 1 rfl ?_
  refine sk_g4 (ref := "TunnelWatch") F hK (kC_0 n) iX4_tick_4 3 (by decide) (by decide +kernel) (fun _ h9 => h9) rfl dX4_tick_159 ?_
  refine sk_iload_n F dX4_tick_162 rfl 2 rfl ?_
  refine sk_aload_n F dX4_tick_163 rfl 1 rfl ?_
  refine sk_g4 (ref := "TunnelWatch") F hK (kC_0 n) iX4_tick_4 6 (by decide) (by decide +kernel) (fun _ h9 => h9) rfl dX4_tick_164 ?_
  refine sk_callVv (As := [.int l2, .int (v30 0 6)]) (rest := []) F hK hA hZ _ (tX3_stopFans hn (kC_43 n) _) (cwV 2 F.2.2.2.2 gX4_tick_X3_stopFans rfl rfl rfl (by decide +kernel) ⟨Nat.le_of_ble_eq_true rfl, Nat.le_of_ble_eq_true rfl⟩) (rc3 hK (kC_43 n)) rfl rfl (Nat.le_of_ble_eq_true rfl) (by decide) dX4_tick_167 (fun v33 c32 => ?_)
  refine sk_aload_n F dX4_tick_170 rfl 1 rfl ?_
  refine sk_aload_n F dX4_tick_171 rfl 3 rfl ?_
  refine sk_aload F dX4_tick_172 0 rfl ?_
  refine sk_callVv (As := [.ref (ad r3), .ref (ad s0)]) (rest := []) F hK hA hZ _ (tX4_shedLoad hn hr3 hs0 _) (cwV 2 F.2.2.2.2 gX4_tick_X4_shedLoad rfl rfl rfl (by decide +kernel) ⟨Nat.le_of_ble_eq_true rfl, Nat.le_of_ble_eq_true rfl⟩) (rc4 hK (kC_0 n)) rfl rfl (Nat.le_of_ble_eq_true rfl) (by decide) dX4_tick_174 (fun v36 c35 => ?_)
  refine sk_aload_n F dX4_tick_177 rfl 1 rfl ?_
  refine sk_aload_n F dX4_tick_178 rfl 3 rfl ?_
  refine sk_callVi (As := [.ref (ad r3)]) (rest := []) F hK hA hZ _ (tX4_startFans hn hr3 _) (cwV 1 F.2.2.2.2 gX4_tick_X4_startFans rfl rfl rfl (by decide +kernel) ⟨Nat.le_of_ble_eq_true rfl, Nat.le_of_ble_eq_true rfl⟩) (rc4 hK (kC_0 n)) rfl rfl (Nat.le_of_ble_eq_true rfl) (by decide) dX4_tick_179 (fun x40 v39 c38 => ?_)
  refine sk_if_eq F 192 dX4_tick_182 (by decide) (fun h41 => ?_) (fun h41 => ?_)
  · exact sk_lv [1] rfl (kX4_tick_192 ⟨F, hK, hA, hZ, hr, hlocks⟩ hn v39)
  · refine sk_aload_n F dX4_tick_185 rfl 1 rfl ?_
    refine sk_aload F dX4_tick_186 0 rfl ?_
    refine sk_callVi (As := [.ref (ad s0)]) (rest := []) F hK hA hZ _ (tX4_startFans hn hs0 _) (cwV 1 F.2.2.2.2 gX4_tick_X4_startFans rfl rfl rfl (by decide +kernel) ⟨Nat.le_of_ble_eq_true rfl, Nat.le_of_ble_eq_true rfl⟩) (rc4 hK (kC_0 n)) rfl rfl (Nat.le_of_ble_eq_true rfl) (by decide) dX4_tick_188 (fun x44 v43 c42 => ?_)
    refine sk_pop F dX4_tick_191 rfl ?_
    exact sk_lv [1] rfl (kX4_tick_192 ⟨F, hK, hA, hZ, hr, hlocks⟩ hn v43)
def fX4_tick_96 (n : Nat) (v : Mem) (l1 : Int32) (l2 : Int32) (s0 : Nat) : Option (Mem) := if l1 = 1 then fX4_tick_113 n v l2 s0 2 else fX4_tick_113 n v l2 s0 43
set_option maxRecDepth 100000 in
set_option maxHeartbeats 4000000 in
theorem kX4_tick_96 {p : Program} {l : Launch} {e : Env} {s : State} {m : MethodId} {args : Array Value} {below : List Frame} {meth : Method} {c : Code} {D : va_G} {A : Nat → Prop} {cI cS cF cZ cJ : ClassId} {ad : Nat → Nat} {X : va_W} {n : Nat} (G : cx p s m args meth c cX4_tick 5 wsX4_tick RX4 D (ty5 cI cS cF cZ cJ) A none) (hn : n ≤ 24) (v : Mem) (l1 : Int32) (l2 : Int32) (s0 : Nat) (hs0 : kC n s0 = 3) : sk p l e rmX4_tick s m args below meth c D A 5 0 0 (fun res => MQ below (qv D A (ty5 cI cS cF cZ cJ) (Wc cI cS cF ad n X) res) args s 0 0 A) (Wc cI cS cF ad n X v) 96 [(0, .ref (ad 0)), (1, .int l1), (2, .int l2)] [.ref (ad s0)] (fX4_tick_96 n v l1 l2 s0) := by
  obtain ⟨F, hK, hA, hZ, hr, hlocks⟩ := G
  refine sk_eq (K' := if l1 = 1 then fX4_tick_113 n v l2 s0 2 else fX4_tick_113 n v l2 s0 43) rfl ?_
  refine sk_astore_n F dX4_tick_96 rfl (by decide) rfl ?_
  refine sk_iload_n F dX4_tick_97 rfl 2 rfl ?_
  refine sk_iconst (x := 1) F dX4_tick_98 (by decide) ?_
  refine sk_icmp_ne F 109 dX4_tick_99 (by decide) (fun h19 => ?_) (fun h19 => ?_)
  · refine sk_aload_n F dX4_tick_109 rfl 1 rfl ?_
    refine sk_g4 (ref := "TunnelWatch") F hK (kC_0 n) iX4_tick_4 3 (by decide) (by decide +kernel) (fun _ h9 => h9) rfl dX4_tick_110 ?_
    exact sk_lv [1, 3, 0] rfl (kX4_tick_113 ⟨F, hK, hA, hZ, hr, hlocks⟩ hn v l2 s0 43 hs0 (kC_43 n))
  · refine sk_aload_n F dX4_tick_102 rfl 1 rfl ?_
    refine sk_g4 (ref := "TunnelWatch") F hK (kC_0 n) iX4_tick_4 2 (by decide) (by decide +kernel) (fun _ h9 => h9) rfl dX4_tick_103 ?_
    refine sk_goto F 113 dX4_tick_106 (by decide) ?_
    exact sk_lv [1, 3, 0] rfl (kX4_tick_113 ⟨F, hK, hA, hZ, hr, hlocks⟩ hn v l2 s0 2 hs0 (kC_2 n))
def fX4_tick_79 (n : Nat) (v : Mem) (l1 : Int32) (s0 : Int32) : Option (Mem) := if l1 = 1 then fX4_tick_96 n v l1 s0 43 else fX4_tick_96 n v l1 s0 2
set_option maxRecDepth 100000 in
set_option maxHeartbeats 4000000 in
theorem kX4_tick_79 {p : Program} {l : Launch} {e : Env} {s : State} {m : MethodId} {args : Array Value} {below : List Frame} {meth : Method} {c : Code} {D : va_G} {A : Nat → Prop} {cI cS cF cZ cJ : ClassId} {ad : Nat → Nat} {X : va_W} {n : Nat} (G : cx p s m args meth c cX4_tick 5 wsX4_tick RX4 D (ty5 cI cS cF cZ cJ) A none) (hn : n ≤ 24) (v : Mem) (l1 : Int32) (s0 : Int32) : sk p l e rmX4_tick s m args below meth c D A 5 0 0 (fun res => MQ below (qv D A (ty5 cI cS cF cZ cJ) (Wc cI cS cF ad n X) res) args s 0 0 A) (Wc cI cS cF ad n X v) 79 [(0, .ref (ad 0)), (1, .int l1)] [.int s0] (fX4_tick_79 n v l1 s0) := by
  obtain ⟨F, hK, hA, hZ, hr, hlocks⟩ := G
  refine sk_eq (K' := if l1 = 1 then fX4_tick_96 n v l1 s0 43 else fX4_tick_96 n v l1 s0 2) rfl ?_
  refine sk_istore_n F dX4_tick_79 rfl (by decide) rfl ?_
  refine sk_iload_n F dX4_tick_80 rfl 2 rfl ?_
  refine sk_iconst (x := 1) F dX4_tick_81 (by decide) ?_
  refine sk_icmp_ne F 92 dX4_tick_82 (by decide) (fun h18 => ?_) (fun h18 => ?_)
  · refine sk_aload_n F dX4_tick_92 rfl 1 rfl ?_
    refine sk_g4 (ref := "TunnelWatch") F hK (kC_0 n) iX4_tick_4 2 (by decide) (by decide +kernel) (fun _ h9 => h9) rfl dX4_tick_93 ?_
    exact sk_lv [1, 2, 0] rfl (kX4_tick_96 ⟨F, hK, hA, hZ, hr, hlocks⟩ hn v l1 s0 2 (kC_2 n))
  · refine sk_aload_n F dX4_tick_85 rfl 1 rfl ?_
    refine sk_g4 (ref := "TunnelWatch") F hK (kC_0 n) iX4_tick_4 3 (by decide) (by decide +kernel) (fun _ h9 => h9) rfl dX4_tick_86 ?_
    refine sk_goto F 96 dX4_tick_89 (by decide) ?_
    exact sk_lv [1, 2, 0] rfl (kX4_tick_96 ⟨F, hK, hA, hZ, hr, hlocks⟩ hn v l1 s0 43 (kC_43 n))
def fX4_tick (n : Nat) (v : Mem) : Option (Mem) := gd (inb (((up2 v 0 6 ((v 0 6) + 1)) 0 6) - ((up2 v 0 6 ((v 0 6) + 1)) 0 6) / 10 * 10) 10) ((fX3_settleDevices 2 ((up2 (up2 (up2 v 0 6 ((v 0 6) + 1)) 1 (((up2 v 0 6 ((v 0 6) + 1)) 0 6) - ((up2 v 0 6 ((v 0 6) + 1)) 0 6) / 10 * 10).toNatClampNeg 0) 0 7 0) 0 6) (up2 (up2 (up2 v 0 6 ((v 0 6) + 1)) 1 (((up2 v 0 6 ((v 0 6) + 1)) 0 6) - ((up2 v 0 6 ((v 0 6) + 1)) 0 6) / 10 * 10).toNatClampNeg 0) 0 7 0)).bind fun v3 => (fX3_settleDevices 43 (v3 0 6) v3).bind fun v6 => (fX3_judgeFire n 2 v6).bind fun v9 => (fX3_judgeFire n 43 v9).bind fun v12 => bd (fX4_tubeThatCounts n v12) fun x16 v15 => if x16 = (-1) then fX4_tick_79 n v15 x16 0 else fX4_tick_79 n v15 x16 1)
set_option maxRecDepth 100000 in
set_option maxHeartbeats 4000000 in
theorem kX4_tick_0 {p : Program} {l : Launch} {e : Env} {s : State} {m : MethodId} {args : Array Value} {below : List Frame} {meth : Method} {c : Code} {D : va_G} {A : Nat → Prop} {cI cS cF cZ cJ : ClassId} {ad : Nat → Nat} {X : va_W} {n : Nat} (G : cx p s m args meth c cX4_tick 5 wsX4_tick RX4 D (ty5 cI cS cF cZ cJ) A none) (hn : n ≤ 24) (v : Mem) : sk p l e rmX4_tick s m args below meth c D A 5 0 0 (fun res => MQ below (qv D A (ty5 cI cS cF cZ cJ) (Wc cI cS cF ad n X) res) args s 0 0 A) (Wc cI cS cF ad n X v) 0 [(0, .ref (ad 0))] [] (fX4_tick n v) := by
  obtain ⟨F, hK, hA, hZ, hr, hlocks⟩ := G
  refine sk_eq (K' := gd (inb (((up2 v 0 6 ((v 0 6) + 1)) 0 6) - ((up2 v 0 6 ((v 0 6) + 1)) 0 6) / 10 * 10) 10) ((fX3_settleDevices 2 ((up2 (up2 (up2 v 0 6 ((v 0 6) + 1)) 1 (((up2 v 0 6 ((v 0 6) + 1)) 0 6) - ((up2 v 0 6 ((v 0 6) + 1)) 0 6) / 10 * 10).toNatClampNeg 0) 0 7 0) 0 6) (up2 (up2 (up2 v 0 6 ((v 0 6) + 1)) 1 (((up2 v 0 6 ((v 0 6) + 1)) 0 6) - ((up2 v 0 6 ((v 0 6) + 1)) 0 6) / 10 * 10).toNatClampNeg 0) 0 7 0)).bind fun v3 => (fX3_settleDevices 43 (v3 0 6) v3).bind fun v6 => (fX3_judgeFire n 2 v6).bind fun v9 => (fX3_judgeFire n 43 v9).bind fun v12 => bd (fX4_tubeThatCounts n v12) fun x16 v15 => if x16 = (-1) then fX4_tick_79 n v15 x16 0 else fX4_tick_79 n v15 x16 1)) rfl ?_
  refine sk_aload_n F dX4_tick_0 rfl 0 rfl ?_
  refine sk_dup F dX4_tick_1 rfl ?_
  refine sk_g4 (ref := "TunnelWatch") F hK (kC_0 n) iX4_tick_4 6 (by decide) (by decide +kernel) (fun _ h9 => h9) rfl dX4_tick_2 ?_
  refine sk_iconst (x := 1) F dX4_tick_5 (by decide) ?_
  refine sk_iadd F dX4_tick_6 ?_
  refine sk_p4 (ref := "TunnelWatch") (ty := .int) F hK (kC_0 n) iX4_tick_4 6 (by decide) (by decide +kernel) (fun _ h9 => h9) rfl (by decide +kernel) rfl rfl rfl dX4_tick_7 ?_
  refine sk_aload_n F dX4_tick_10 rfl 0 rfl ?_
  refine sk_g4 (ref := "TunnelWatch") F hK (kC_0 n) iX4_tick_4 4 (by decide) (by decide +kernel) (fun _ h9 => h9) rfl dX4_tick_11 ?_
  refine sk_aload_n F dX4_tick_14 rfl 0 rfl ?_
  refine sk_g4 (ref := "TunnelWatch") F hK (kC_0 n) iX4_tick_4 6 (by decide) (by decide +kernel) (fun _ h9 => h9) rfl dX4_tick_15 ?_
  refine sk_bipush (x := 10) F dX4_tick_18 (by decide) ?_
  refine sk_irem F dX4_tick_20 (by decide) ?_
  refine sk_iconst (x := 0) F dX4_tick_21 (by decide) ?_
  refine sk_astC F hK dX4_tick_22 (fun h1 => ?_)
  refine sk_aload_n F dX4_tick_23 rfl 0 rfl ?_
  refine sk_iconst (x := 0) F dX4_tick_24 (by decide) ?_
  refine sk_p4 (ref := "TunnelWatch") (ty := .boolean) F hK (kC_0 n) iX4_tick_4 7 (by decide) (by decide +kernel) (fun _ h9 => h9) rfl (by decide +kernel) rfl rfl rfl dX4_tick_25 ?_
  refine sk_aload_n F dX4_tick_28 rfl 0 rfl ?_
  refine sk_g4 (ref := "TunnelWatch") F hK (kC_0 n) iX4_tick_4 2 (by decide) (by decide +kernel) (fun _ h9 => h9) rfl dX4_tick_29 ?_
  refine sk_aload_n F dX4_tick_32 rfl 0 rfl ?_
  refine sk_g4 (ref := "TunnelWatch") F hK (kC_0 n) iX4_tick_4 6 (by decide) (by decide +kernel) (fun _ h9 => h9) rfl dX4_tick_33 ?_
  refine sk_callVv (As := [.int ((up2 (up2 (up2 v 0 6 ((v 0 6) + 1)) 1 (((up2 v 0 6 ((v 0 6) + 1)) 0 6) - ((up2 v 0 6 ((v 0 6) + 1)) 0 6) / 10 * 10).toNatClampNeg 0) 0 7 0) 0 6)]) (rest := []) F hK hA hZ _ (tX3_settleDevices hn (kC_2 n) _) (cwV 1 F.2.2.2.2 gX4_tick_X3_settleDevices rfl rfl rfl (by decide +kernel) ⟨Nat.le_of_ble_eq_true rfl, Nat.le_of_ble_eq_true rfl⟩) (rc3 hK (kC_2 n)) rfl rfl (Nat.le_of_ble_eq_true rfl) (by decide) dX4_tick_36 (fun v3 c2 => ?_)
  refine sk_aload_n F dX4_tick_39 rfl 0 rfl ?_
  refine sk_g4 (ref := "TunnelWatch") F hK (kC_0 n) iX4_tick_4 3 (by decide) (by decide +kernel) (fun _ h9 => h9) rfl dX4_tick_40 ?_
  refine sk_aload_n F dX4_tick_43 rfl 0 rfl ?_
  refine sk_g4 (ref := "TunnelWatch") F hK (kC_0 n) iX4_tick_4 6 (by decide) (by decide +kernel) (fun _ h9 => h9) rfl dX4_tick_44 ?_
  refine sk_callVv (As := [.int (v3 0 6)]) (rest := []) F hK hA hZ _ (tX3_settleDevices hn (kC_43 n) _) (cwV 1 F.2.2.2.2 gX4_tick_X3_settleDevices rfl rfl rfl (by decide +kernel) ⟨Nat.le_of_ble_eq_true rfl, Nat.le_of_ble_eq_true rfl⟩) (rc3 hK (kC_43 n)) rfl rfl (Nat.le_of_ble_eq_true rfl) (by decide) dX4_tick_47 (fun v6 c5 => ?_)
  refine sk_aload_n F dX4_tick_50 rfl 0 rfl ?_
  refine sk_g4 (ref := "TunnelWatch") F hK (kC_0 n) iX4_tick_4 2 (by decide) (by decide +kernel) (fun _ h9 => h9) rfl dX4_tick_51 ?_
  refine sk_callVv (As := []) (rest := []) F hK hA hZ _ (tX3_judgeFire hn (kC_2 n) _) (cwV 0 F.2.2.2.2 gX4_tick_X3_judgeFire rfl rfl rfl (by decide +kernel) ⟨Nat.le_of_ble_eq_true rfl, Nat.le_of_ble_eq_true rfl⟩) (rc3 hK (kC_2 n)) rfl rfl (Nat.le_of_ble_eq_true rfl) (by decide) dX4_tick_54 (fun v9 c8 => ?_)
  refine sk_aload_n F dX4_tick_57 rfl 0 rfl ?_
  refine sk_g4 (ref := "TunnelWatch") F hK (kC_0 n) iX4_tick_4 3 (by decide) (by decide +kernel) (fun _ h9 => h9) rfl dX4_tick_58 ?_
  refine sk_callVv (As := []) (rest := []) F hK hA hZ _ (tX3_judgeFire hn (kC_43 n) _) (cwV 0 F.2.2.2.2 gX4_tick_X3_judgeFire rfl rfl rfl (by decide +kernel) ⟨Nat.le_of_ble_eq_true rfl, Nat.le_of_ble_eq_true rfl⟩) (rc3 hK (kC_43 n)) rfl rfl (Nat.le_of_ble_eq_true rfl) (by decide) dX4_tick_61 (fun v12 c11 => ?_)
  refine sk_aload_n F dX4_tick_64 rfl 0 rfl ?_
  refine sk_callVi (As := []) (rest := []) F hK hA hZ _ (tX4_tubeThatCounts hn _) (cwV 0 F.2.2.2.2 gX4_tick_X4_tubeThatCounts rfl rfl rfl (by decide +kernel) ⟨Nat.le_of_ble_eq_true rfl, Nat.le_of_ble_eq_true rfl⟩) (rc4 hK (kC_0 n)) rfl rfl (Nat.le_of_ble_eq_true rfl) (by decide) dX4_tick_65 (fun x16 v15 c14 => ?_)
  refine sk_istore_n F dX4_tick_68 rfl (by decide) rfl ?_
  refine sk_iload_n F dX4_tick_69 rfl 0 rfl ?_
  refine sk_iconst (x := (-1)) F dX4_tick_70 (by decide) ?_
  refine sk_icmp_eq F 78 dX4_tick_71 (by decide) (fun h17 => ?_) (fun h17 => ?_)
  · refine sk_iconst (x := 0) F dX4_tick_78 (by decide) ?_
    exact sk_lv [1, 0] rfl (kX4_tick_79 ⟨F, hK, hA, hZ, hr, hlocks⟩ hn v15 x16 0)
  · refine sk_iconst (x := 1) F dX4_tick_74 (by decide) ?_
    refine sk_goto F 79 dX4_tick_75 (by decide) ?_
    exact sk_lv [1, 0] rfl (kX4_tick_79 ⟨F, hK, hA, hZ, hr, hlocks⟩ hn v15 x16 1)
theorem tX4_tick {l : Launch} {D : va_G} {A : Nat → Prop} {cI cS cF cZ cJ : ClassId} {ad : Nat → Nat} {X : va_W} {n : Nat} (hn : n ≤ 24) (v : Mem) : CV l yX4_tick wsX4_tick rmX4_tick D A (ty5 cI cS cF cZ cJ) (Wc cI cS cF ad n X) [.ref (ad 0)] v (fX4_tick n v) :=
  CV_of (cc := cX4_tick) (maxL := 5) (ret := none) (by decide) rfl (Nat.le_of_ble_eq_true rfl) (fun p e s m below meth c G => kX4_tick_0 G hn v)
