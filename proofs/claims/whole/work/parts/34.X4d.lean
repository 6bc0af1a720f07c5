def rmX4_order : Room := { frames := 8, cells := 1, slots := 6, locals := 129 }
theorem iX4_order_3 : ∀ w ∈ wsX30, w ∈ wsX4_order := by decide +kernel
def fX4_order (p1 : Int32) (p2 : Int32) (v : Mem) : Option ((Int32 ⊕ String) × Mem) := xd (fX4_needTube p1 v) fun _ v2 => bd (fX4_tubeAt p1 v2) fun x6 v5 => gd (bo p2) (gd (bo (v5 x6 5)) (some (.inl (v5 x6 5), up2 v5 x6 5 p2)))
set_option maxRecDepth 100000 in
set_option maxHeartbeats 4000000 in
theorem kX4_order_0 {p : Program} {l : Launch} {e : Env} {s : State} {m : MethodId} {args : Array Value} {below : List Frame} {meth : Method} {c : Code} {D : va_G} {A : Nat → Prop} {cI cS cF cZ cJ : ClassId} {ad : Nat → Nat} {X : va_W} {n : Nat} {p1 : Int32} {p2 : Int32} (G : cxx p s m args meth c cX4_order 5 wsX4_order RX4 D (ty5 cI cS cF cZ cJ) A (some .boolean)) (hn : n ≤ 24) (hl : l.stackTraces = false) (v : Mem) : sk p l e rmX4_order s m args below meth c D A 5 0 0 (fun res => vx_MQ below (xi D A (ty5 cI cS cF cZ cJ) (Wc cI cS cF ad n X) res) (xc D A (ty5 cI cS cF cZ cJ) (Wc cI cS cF ad n X) res) args s 1 6 A) (Wc cI cS cF ad n X v) 0 [(0, .ref (ad 0)), (1, .int p1), (2, .int p2)] [] (fX4_order p1 p2 v) := by
  obtain ⟨F, hK, hA, hZ, hr, hlocks, hno⟩ := G
  refine sk_eq (K' := xd (fX4_needTube p1 v) fun _ v2 => bd (fX4_tubeAt p1 v2) fun x6 v5 => gd (bo p2) (gd (bo (v5 x6 5)) (some (.inl (v5 x6 5), up2 v5 x6 5 p2)))) rfl ?_
  refine sk_iload_n F dX4_order_0 rfl 1 rfl ?_
  refine sk_xSv (As := [.int p1]) (rest := []) F hK hA hZ hlocks hno _ (tX4_needTube hn hl _) (va_cwS 1 F.2.2.2.2 gX4_order_X4_needTube rfl rfl rfl (by decide +kernel) ⟨Nat.le_of_ble_eq_true rfl, Nat.le_of_ble_eq_true rfl⟩) rfl rfl (Nat.le_of_ble_eq_true rfl) (by decide) (by decide) (by decide) dX4_order_1 (fun v2 c1 => ?_)
  refine sk_aload_n F dX4_order_4 rfl 0 rfl ?_
  refine sk_iload_n F dX4_order_5 rfl 1 rfl ?_
  refine sk_callVr (As := [.int p1]) (rest := []) F hK hA hZ _ (tX4_tubeAt hn _) (cwV 1 F.2.2.2.2 gX4_order_X4_tubeAt rfl rfl rfl (by decide +kernel) ⟨Nat.le_of_ble_eq_true rfl, Nat.le_of_ble_eq_true rfl⟩) (rc4 hK (kC_0 n)) rfl rfl (Nat.le_of_ble_eq_true rfl) (by decide) dX4_order_6 (fun x6 v5 c4 => ?_)
  refine sk_astore_n F dX4_order_9 rfl (by decide) rfl ?_
  refine sk_aload_n F dX4_order_10 rfl 0 rfl ?_
  refine sk_g3 (ref := "TunnelWatch$Tube") F hK (aX4_tubeAt c4) iX4_order_3 5 (by decide) (by decide +kernel) (fun _ h9 => h9) rfl dX4_order_11 ?_
  refine sk_istore F dX4_order_14 (by decide) rfl ?_
  refine sk_aload_n F dX4_order_16 rfl 1 rfl ?_
  refine sk_iload_n F dX4_order_17 rfl 4 rfl ?_
  refine sk_gd (fun h7 => ?_)
  refine sk_p3 (ref := "TunnelWatch$Tube") (ty := .boolean) F hK (aX4_tubeAt c4) iX4_order_3 5 (by decide) (by decide +kernel) (fun _ h9 => h9) rfl (by decide +kernel) (bo_n h7) (bo_f h7) rfl dX4_order_18 ?_
  refine sk_iload F dX4_order_21 0 rfl ?_
  exact sk_xzret F hK hr hlocks (by decide) (by decide) dX4_order_23
theorem tX4_order {l : Launch} {D : va_G} {A : Nat → Prop} {cI cS cF cZ cJ : ClassId} {ad : Nat → Nat} {X : va_W} {n : Nat} (hn : n ≤ 24) (hl : l.stackTraces = false) {p1 : Int32} {p2 : Int32} (v : Mem) : XI l yX4_order wsX4_order rmX4_order 1 6 D A (ty5 cI cS cF cZ cJ) (Wc cI cS cF ad n X) [.ref (ad 0), .int p1, .int p2] v (fX4_order p1 p2 v) :=
  XI_of (cc := cX4_order) (maxL := 5) (ret := (some .boolean)) (by decide) rfl (Nat.le_of_ble_eq_true rfl) (fun p e s m below meth c G => kX4_order_0 G hn hl v)
def rmX4_limit : Room := { frames := 7, cells := 1, slots := 6, locals := 109 }
theorem iX4_limit_4 : ∀ w ∈ wsX40, w ∈ wsX4_limit := by decide +kernel
def fX4_limit (p1 : Int32) (v : Mem) : Option ((Int32 ⊕ String) × Mem) := bd (fX4_isWithin p1 0 100000 v) fun x3 v2 => xd (fX4_need x3 v2) fun _ v5 => some (.inl (v5 0 5), up2 v5 0 5 p1)
set_option maxRecDepth 100000 in
set_option maxHeartbeats 4000000 in
theorem kX4_limit_0 {p : Program} {l : Launch} {e : Env} {s : State} {m : MethodId} {args : Array Value} {below : List Frame} {meth : Method} {c : Code} {D : va_G} {A : Nat → Prop} {cI cS cF cZ cJ : ClassId} {ad : Nat → Nat} {X : va_W} {n : Nat} {p1 : Int32} (G : cxx p s m args meth c cX4_limit 3 wsX4_limit RX4 D (ty5 cI cS cF cZ cJ) A (some .int)) (hn : n ≤ 24) (hl : l.stackTraces = false) (v : Mem) : sk p l e rmX4_limit s m args below meth c D A 3 0 0 (fun res => vx_MQ below (xi D A (ty5 cI cS cF cZ cJ) (Wc cI cS cF ad n X) res) (xc D A (ty5 cI cS cF cZ cJ) (Wc cI cS cF ad n X) res) args s 1 6 A) (Wc cI cS cF ad n X v) 0 [(0, .ref (ad 0)), (1, .int p1)] [] (fX4_limit p1 v) := by
  obtain ⟨F, hK, hA, hZ, hr, hlocks, hno⟩ := G
  refine sk_eq (K' := bd (fX4_isWithin p1 0 100000 v) fun x3 v2 => xd (fX4_need x3 v2) fun _ v5 => some (.inl (v5 0 5), up2 v5 0 5 p1)) rfl ?_
  refine sk_iload_n F dX4_limit_0 rfl 1 rfl ?_
  refine sk_iconst (x := 0) F dX4_limit_1 (by decide) ?_
  refine sk_ldc (x := 100000) F dX4_limit_2 (F.2.2.2.2 _ (by decide +kernel)) ?_
  refine sk_callSi (As := [.int p1, .int 0, .int 100000]) (rest := []) F hK hA hZ _ (tX4_isWithin hn _) (va_cwS 3 F.2.2.2.2 gX4_limit_X4_isWithin rfl rfl rfl (by decide +kernel) ⟨Nat.le_of_ble_eq_true rfl, Nat.le_of_ble_eq_true rfl⟩) rfl rfl (Nat.le_of_ble_eq_true rfl) (by decide) dX4_limit_4 (fun x3 v2 c1 => ?_)
  refine sk_xSv (As := [.int x3]) (rest := []) F hK hA hZ hlocks hno _ (tX4_need hn hl _) (va_cwS 1 F.2.2.2.2 gX4_limit_X4_need rfl rfl rfl (by decide +kernel) ⟨Nat.le_of_ble_eq_true rfl, Nat.le_of_ble_eq_true rfl⟩) rfl rfl (Nat.le_of_ble_eq_true rfl) (by decide) (by decide) (by decide) dX4_limit_7 (fun v5 c4 => ?_)
  refine sk_aload_n F dX4_limit_10 rfl 0 rfl ?_
  refine sk_g4 (ref := "TunnelWatch") F hK (kC_0 n) iX4_limit_4 5 (by decide) (by decide +kernel) (fun _ h9 => h9) rfl dX4_limit_11 ?_
  refine sk_istore_n F dX4_limit_14 rfl (by decide) rfl ?_
  refine sk_aload_n F dX4_limit_15 rfl 1 rfl ?_
  refine sk_iload_n F dX4_limit_16 rfl 2 rfl ?_
  refine sk_p4 (ref := "TunnelWatch") (ty := .int) F hK (kC_0 n) iX4_limit_4 5 (by decide) (by decide +kernel) (fun _ h9 => h9) rfl (by decide +kernel) rfl rfl rfl dX4_limit_17 ?_
  refine sk_iload_n F dX4_limit_20 rfl 0 rfl ?_
  exact sk_xiret F hK hr hlocks (by decide) (by decide) dX4_limit_21
theorem tX4_limit {l : Launch} {D : va_G} {A : Nat → Prop} {cI cS cF cZ cJ : ClassId} {ad : Nat → Nat} {X : va_W} {n : Nat} (hn : n ≤ 24) (hl : l.stackTraces = false) {p1 : Int32} (v : Mem) : XI l yX4_limit wsX4_limit rmX4_limit 1 6 D A (ty5 cI cS cF cZ cJ) (Wc cI cS cF ad n X) [.ref (ad 0), .int p1] v (fX4_limit p1 v) :=
  XI_of (cc := cX4_limit) (maxL := 3) (ret := (some .int)) (by decide) rfl (Nat.le_of_ble_eq_true rfl) (fun p e s m below meth c G => kX4_limit_0 G hn hl v)
def rmX4_fail : Room := { frames := 9, cells := 2, slots := 12, locals := 151 }
theorem iX4_fail_0 : ∀ w ∈ wsX00, w ∈ wsX4_fail := by decide +kernel
theorem iX4_fail_1 : ∀ w ∈ wsX10, w ∈ wsX4_fail := by decide +kernel
def fX4_fail_28 (p1 : Int32) (p2 : Int32) (v : Mem) (r3 : Nat) (s0 : Int32) : Option ((Int32 ⊕ String) × Mem) := gd (bo s0) (some (.inl s0, up2 v r3 4 1))
set_option maxRecDepth 100000 in
set_option maxHeartbeats 4000000 in
theorem kX4_fail_28 {p : Program} {l : Launch} {e : Env} {s : State} {m : MethodId} {args : Array Value} {below : List Frame} {meth : Method} {c : Code} {D : va_G} {A : Nat → Prop} {cI cS cF cZ cJ : ClassId} {ad : Nat → Nat} {X : va_W} {n : Nat} {p1 : Int32} {p2 : Int32} (G : cxx p s m args meth c cX4_fail 5 wsX4_fail RX4 D (ty5 cI cS cF cZ cJ) A (some .boolean)) (hn : n ≤ 24) (hl : l.stackTraces = false) (v : Mem) (r3 : Nat) (s0 : Int32) (hr3 : kC n r3 = 0 ∨ kC n r3 = 1) : sk p l e rmX4_fail s m args below meth c D A 5 2 12 (fun res => vx_MQ below (xi D A (ty5 cI cS cF cZ cJ) (Wc cI cS cF ad n X) res) (xc D A (ty5 cI cS cF cZ cJ) (Wc cI cS cF ad n X) res) args s 2 12 A) (Wc cI cS cF ad n X v) 28 [(3, .ref (ad r3))] [.int s0] (fX4_fail_28 p1 p2 v r3 s0) := by
  obtain ⟨F, hK, hA, hZ, hr, hlocks, hno⟩ := G
  refine sk_eq (K' := gd (bo s0) (some (.inl s0, up2 v r3 4 1))) rfl ?_
  refine sk_istore F dX4_fail_28 (by decide) rfl ?_
  refine sk_aload_n F dX4_fail_30 rfl 1 rfl ?_
  refine sk_iconst (x := 1) F dX4_fail_31 (by decide) ?_
  refine sk_pD (ty := .boolean) F hK hr3 iX4_fail_0 iX4_fail_1 4 (by decide) (by decide +kernel) rfl (by decide +kernel) rfl rfl rfl rfl rfl rfl dX4_fail_32 ?_
  refine sk_iload F dX4_fail_35 0 rfl ?_
  exact sk_xzret F hK hr hlocks (by decide) (by decide) dX4_fail_37
def fX4_fail (p1 : Int32) (p2 : Int32) (v : Mem) : Option ((Int32 ⊕ String) × Mem) := xd (fX4_needDevice p1 p2 v) fun _ v2 => bd (fX4_tubeAt p1 v2) fun x6 v5 => bd (fX3_deviceAt x6 p2 v5) fun x9 v8 => if (v8 x9 4) = 0 then fX4_fail_28 p1 p2 v8 x9 1 else fX4_fail_28 p1 p2 v8 x9 0
set_option maxRecDepth 100000 in
set_option maxHeartbeats 4000000 in
theorem kX4_fail_0 {p : Program} {l : Launch} {e : Env} {s : State} {m : MethodId} {args : Array Value} {below : List Frame} {meth : Method} {c : Code} {D : va_G} {A : Nat → Prop} {cI cS cF cZ cJ : ClassId} {ad : Nat → Nat} {X : va_W} {n : Nat} {p1 : Int32} {p2 : Int32} (G : cxx p s m args meth c cX4_fail 5 wsX4_fail RX4 D (ty5 cI cS cF cZ cJ) A (some .boolean)) (hn : n ≤ 24) (hl : l.stackTraces = false) (v : Mem) : sk p l e rmX4_fail s m args below meth c D A 5 0 0 (fun res => vx_MQ below (xi D A (ty5 cI cS cF cZ cJ) (Wc cI cS cF ad n X) res) (xc D A (ty5 cI cS cF cZ cJ) (Wc cI cS cF ad n X) res) args s 2 12 A) (Wc cI cS cF ad n X v) 0 [(0, .ref (ad 0)), (1, .int p1), (2, .int p2)] [] (fX4_fail p1 p2 v) := by
  obtain ⟨F, hK, hA, hZ, hr, hlocks, hno⟩ := G
  refine sk_eq (K' := xd (fX4_needDevice p1 p2 v) fun _ v2 => bd (fX4_tubeAt p1 v2) fun x6 v5 => bd (fX3_deviceAt x6 p2 v5) fun x9 v8 => if (v8 x9 4) = 0 then fX4_fail_28 p1 p2 v8 x9 1 else fX4_fail_28 p1 p2 v8 x9 0) rfl ?_
  refine sk_aload_n F dX4_fail_0 rfl 0 rfl ?_
  refine sk_iload_n F dX4_fail_1 rfl 1 rfl ?_
  refine sk_iload_n F dX4_fail_2 rfl 2 rfl ?_
  refine sk_xVv (As := [.int p1, .int p2]) (rest := []) F hK hA hZ hlocks hno _ (tX4_needDevice hn hl _) (cwV 2 F.2.2.2.2 gX4_fail_X4_needDevice rfl rfl rfl (by decide +kernel) ⟨Nat.le_of_ble_eq_true rfl, Nat.le_of_ble_eq_true rfl⟩) (rc4 hK (kC_0 n)) rfl rfl (Nat.le_of_ble_eq_true rfl) (by decide) (by decide) (by decide) dX4_fail_3 (fun v2 c1 => ?_)
  refine sk_aload_n F dX4_fail_6 rfl 0 rfl ?_
  refine sk_iload_n F dX4_fail_7 rfl 1 rfl ?_
  refine sk_callVr (As := [.int p1]) (rest := []) F hK hA hZ _ (tX4_tubeAt hn _) (cwV 1 F.2.2.2.2 gX4_fail_X4_tubeAt rfl rfl rfl (by decide +kernel) ⟨Nat.le_of_ble_eq_true rfl, Nat.le_of_ble_eq_true rfl⟩) (rc4 hK (kC_0 n)) rfl rfl (Nat.le_of_ble_eq_true rfl) (by decide) dX4_fail_8 (fun x6 v5 c4 => ?_)
  refine sk_iload_n F dX4_fail_11 rfl 2 rfl ?_
  refine sk_callVr (As := [.int p2]) (rest := []) F hK hA hZ _ (tX3_deviceAt hn (aX4_tubeAt c4) _) (cwV 1 F.2.2.2.2 gX4_fail_X3_deviceAt rfl rfl rfl (by decide +kernel) ⟨Nat.le_of_ble_eq_true rfl, Nat.le_of_ble_eq_true rfl⟩) (rc3 hK (aX4_tubeAt c4)) rfl rfl (Nat.le_of_ble_eq_true rfl) (by decide) dX4_fail_12 (fun x9 v8 c7 => ?_)
  refine sk_astore_n F dX4_fail_15 rfl (by decide) rfl ?_
  refine sk_aload_n F dX4_fail_16 rfl 0 rfl ?_
  refine sk_gD F hK (aX3_deviceAt (aX4_tubeAt c4) c7) iX4_fail_0 iX4_fail_1 4 (by decide) (by decide +kernel) rfl rfl rfl rfl dX4_fail_17 ?_
  refine sk_if_ne F 27 dX4_fail_20 (by decide) (fun h10 => ?_) (fun h10 => ?_)
  · refine sk_iconst (x := 0) F dX4_fail_27 (by decide) ?_
    exact sk_lv [0] rfl (kX4_fail_28 ⟨F, hK, hA, hZ, hr, hlocks, hno⟩ hn hl v8 x9 0 (aX3_deviceAt (aX4_tubeAt c4) c7))
  · refine sk_iconst (x := 1) F dX4_fail_23 (by decide) ?_
    refine sk_goto F 28 dX4_fail_24 (by decide) ?_
    exact sk_lv [0] rfl (kX4_fail_28 ⟨F, hK, hA, hZ, hr, hlocks, hno⟩ hn hl v8 x9 1 (aX3_deviceAt (aX4_tubeAt c4) c7))
theorem tX4_fail {l : Launch} {D : va_G} {A : Nat → Prop} {cI cS cF cZ cJ : ClassId} {ad : Nat → Nat} {X : va_W} {n : Nat} (hn : n ≤ 24) (hl : l.stackTraces = false) {p1 : Int32} {p2 : Int32} (v : Mem) : XI l yX4_fail wsX4_fail rmX4_fail 2 12 D A (ty5 cI cS cF cZ cJ) (Wc cI cS cF ad n X) [.ref (ad 0), .int p1, .int p2] v (fX4_fail p1 p2 v) :=
  XI_of (cc := cX4_fail) (maxL := 5) (ret := (some .boolean)) (by decide) rfl (Nat.le_of_ble_eq_true rfl) (fun p e s m below meth c G => kX4_fail_0 G hn hl v)
def rmX4_mend : Room := { frames := 9, cells := 2, slots := 12, locals := 151 }
def fX4_mend (p1 : Int32) (p2 : Int32) (v : Mem) : Option ((Int32 ⊕ String) × Mem) := xd (fX4_needDevice p1 p2 v) fun _ v2 => bd (fX4_tubeAt p1 v2) fun x6 v5 => bd (fX3_deviceAt x6 p2 v5) fun x9 v8 => bd (fX0_repair x9 v8) fun x12 v11 => gd (bo x12) (some (.inl x12, v11))
set_option maxRecDepth 100000 in
set_option maxHeartbeats 4000000 in
theorem kX4_mend_0 {p : Program} {l : Launch} {e : Env} {s : State} {m : MethodId} {args : Array Value} {below : List Frame} {meth : Method} {c : Code} {D : va_G} {A : Nat → Prop} {cI cS cF cZ cJ : ClassId} {ad : Nat → Nat} {X : va_W} {n : Nat} {p1 : Int32} {p2 : Int32} (G : cxx p s m args meth c cX4_mend 3 wsX4_mend RX4 D (ty5 cI cS cF cZ cJ) A (some .boolean)) (hn : n ≤ 24) (hl : l.stackTraces = false) (v : Mem) : sk p l e rmX4_mend s m args below meth c D A 3 0 0 (fun res => vx_MQ below (xi D A (ty5 cI cS cF cZ cJ) (Wc cI cS cF ad n X) res) (xc D A (ty5 cI cS cF cZ cJ) (Wc cI cS cF ad n X) res) args s 2 12 A) (Wc cI cS cF ad n X v) 0 [(0, .ref (ad 0)), (1, .int p1), (2, .int p2)] [] (fX4_mend p1 p2 v) := by
  obtain ⟨F, hK, hA, hZ, hr, hlocks, hno⟩ := G
  refine sk_eq (K' := xd (fX4_needDevice p1 p2 v) fun _ v2 => bd (fX4_tubeAt p1 v2) fun x6 v5 => bd (fX3_deviceAt x6 p2 v5) fun x9 v8 => bd (fX0_repair x9 v8) fun x12 v11 => gd (bo x12) (some (.inl x12, v11))) rfl ?_
  refine sk_aload_n F dX4_mend_0 rfl 0 rfl ?_
  refine sk_iload_n F dX4_mend_1 rfl 1 rfl ?_
  refine sk_iload_n F dX4_mend_2 rfl 2 rfl ?_
  refine sk_xVv (As := [.int p1, .int p2]) (rest := []) F hK hA hZ hlocks hno _ (tX4_needDevice hn hl _) (cwV 2 F.2.2.2.2 gX4_mend_X4_needDevice rfl rfl rfl (by decide +kernel) ⟨Nat.le_of_ble_eq_true rfl, Nat.le_of_ble_eq_true rfl⟩) (rc4 hK (kC_0 n)) rfl rfl (Nat.le_of_ble_eq_true rfl) (by decide) (by decide) (by decide) dX4_mend_3 (fun v2 c1 => ?_)
  refine sk_aload_n F dX4_mend_6 rfl 0 rfl ?_
  refine sk_iload_n F dX4_mend_7 rfl 1 rfl ?_
  refine sk_callVr (As := [.int p1]) (rest := []) F hK hA hZ _ (tX4_tubeAt hn _) (cwV 1 F.2.2.2.2 gX4_mend_X4_tubeAt rfl rfl rfl (by decide +kernel) ⟨Nat.le_of_ble_eq_true rfl, Nat.le_of_ble_eq_true rfl⟩) (rc4 hK (kC_0 n)) rfl rfl (Nat.le_of_ble_eq_true rfl) (by decide) dX4_mend_8 (fun x6 v5 c4 => ?_)
  refine sk_iload_n F dX4_mend_11 rfl 2 rfl ?_
  refine sk_callVr (As := [.int p2]) (rest := []) F hK hA hZ _ (tX3_deviceAt hn (aX4_tubeAt c4) _) (cwV 1 F.2.2.2.2 gX4_mend_X3_deviceAt rfl rfl rfl (by decide +kernel) ⟨Nat.le_of_ble_eq_true rfl, Nat.le_of_ble_eq_true rfl⟩) (rc3 hK (aX4_tubeAt c4)) rfl rfl (Nat.le_of_ble_eq_true rfl) (by decide) dX4_mend_12 (fun x9 v8 c7 => ?_)
  refine sk_callDi (As := []) (rest := []) F hK hA hZ _ (tX0_repair hn (aX3_deviceAt (aX4_tubeAt c4) c7) _) (Or.elim (aX3_deviceAt (aX4_tubeAt c4) c7) (fun h => Or.inl ⟨cwV 0 F.2.2.2.2 gX4_mend_X0_repair rfl rfl rfl (by decide +kernel) ⟨Nat.le_of_ble_eq_true rfl, Nat.le_of_ble_eq_true rfl⟩, rc0 hK h⟩) (fun h => Or.inr ⟨va_cwU 0 F.2.2.2.2 gX4_mend_X0_repair_u137X1 rfl rfl rfl rfl (by decide +kernel) ⟨Nat.le_of_ble_eq_true rfl, Nat.le_of_ble_eq_true rfl⟩, rc1 hK h⟩)) rfl rfl (Nat.le_of_ble_eq_true rfl) (by decide) dX4_mend_15 (fun x12 v11 c10 => ?_)
  exact sk_xzret F hK hr hlocks (by decide) (by decide) dX4_mend_18
theorem tX4_mend {l : Launch} {D : va_G} {A : Nat → Prop} {cI cS cF cZ cJ : ClassId} {ad : Nat → Nat} {X : va_W} {n : Nat} (hn : n ≤ 24) (hl : l.stackTraces = false) {p1 : Int32} {p2 : Int32} (v : Mem) : XI l yX4_mend wsX4_mend rmX4_mend 2 12 D A (ty5 cI cS cF cZ cJ) (Wc cI cS cF ad n X) [.ref (ad 0), .int p1, .int p2] v (fX4_mend p1 p2 v) :=
  XI_of (cc := cX4_mend) (maxL := 3) (ret := (some .boolean)) (by decide) rfl (Nat.le_of_ble_eq_true rfl) (fun p e s m below meth c G => kX4_mend_0 G hn hl v)
def rmX4_ticks : Room := { frames := 7, cells := 2, slots := 12, locals := 142 }
theorem iX4_ticks_4 : ∀ w ∈ wsX40, w ∈ wsX4_ticks := by decide +kernel
def fX4_ticks_33 (n : Nat) (p1 : Int32) : Nat → Mem → Int32 → Option ((Int32 ⊕ String) × Mem)
  | 0, _, _ => none
  | fuel + 1, v, l2 => if p1 ≤ l2 then some (.inl (v 0 6), v) else (fX4_tick n v).bind fun v13 => fX4_ticks_33 n p1 fuel v13 (l2 + 1)
set_option maxRecDepth 100000 in
set_option maxHeartbeats 4000000 in
theorem kX4_ticks_33 {p : Program} {l : Launch} {e : Env} {s : State} {m : MethodId} {args : Array Value} {below : List Frame} {meth : Method} {c : Code} {D : va_G} {A : Nat → Prop} {cI cS cF cZ cJ : ClassId} {ad : Nat → Nat} {X : va_W} {n : Nat} {p1 : Int32} (G : cxx p s m args meth c cX4_ticks 3 wsX4_ticks RX4 D (ty5 cI cS cF cZ cJ) A (some .int)) (hn : n ≤ 24) (hl : l.stackTraces = false) : ∀ (fuel : Nat) (v : Mem) (l2 : Int32), sk p l e rmX4_ticks s m args below meth c D A 3 2 12 (fun res => vx_MQ below (xi D A (ty5 cI cS cF cZ cJ) (Wc cI cS cF ad n X) res) (xc D A (ty5 cI cS cF cZ cJ) (Wc cI cS cF ad n X) res) args s 2 12 A) (Wc cI cS cF ad n X v) 33 [(0, .ref (ad 0)), (1, .int p1), (2, .int l2)] [] (fX4_ticks_33 n p1 fuel v l2) := by
  obtain ⟨F, hK, hA, hZ, hr, hlocks, hno⟩ := G
  intro fuel
  induction fuel with
  | zero => intro v l2; exact sk_none
  | succ fuel ih =>
    intro v l2
    refine sk_eq (K' := if p1 ≤ l2 then some (.inl (v 0 6), v) else (fX4_tick n v).bind fun v13 => fX4_ticks_33 n p1 fuel v13 (l2 + 1)) rfl ?_
    refine sk_iload_n F dX4_ticks_33 rfl 2 rfl ?_
    refine sk_iload_n F dX4_ticks_34 rfl 1 rfl ?_
    refine sk_icmp_ge F 48 dX4_ticks_35 (by decide) (fun h11 => ?_) (fun h11 => ?_)
    · refine sk_aload_n F dX4_ticks_48 rfl 0 rfl ?_
      refine sk_g4 (ref := "TunnelWatch") F hK (kC_0 n) iX4_ticks_4 6 (by decide) (by decide +kernel) (fun _ h9 => h9) rfl dX4_ticks_49 ?_
      exact sk_xiret F hK hr hlocks (by decide) (by decide) dX4_ticks_52
    · refine sk_aload_n F dX4_ticks_38 rfl 0 rfl ?_
      refine sk_callVv (As := []) (rest := []) F hK hA hZ _ (tX4_tick hn _) (cwV 0 F.2.2.2.2 gX4_ticks_X4_tick rfl rfl rfl (by decide +kernel) ⟨Nat.le_of_ble_eq_true rfl, Nat.le_of_ble_eq_true rfl⟩) (rc4 hK (kC_0 n)) rfl rfl (Nat.le_of_ble_eq_true rfl) (by decide) dX4_ticks_39 (fun v13 c12 => ?_)
      refine sk_iinc (y := l2 + 1) F dX4_ticks_42 2 rfl rfl (by decide) rfl ?_
      refine sk_goto F 33 dX4_ticks_45 (by decide) ?_
      exact sk_lv [1, 2, 0] rfl (ih v13 (l2 + 1))
def fX4_ticks_28 (n : Nat) (p1 : Int32) (v : Mem) (s0 : Int32) : Option ((Int32 ⊕ String) × Mem) := xd (fX4_needState s0 v) fun _ v9 => fX4_ticks_33 n p1 1000 v9 0
set_option maxRecDepth 100000 in
set_option maxHeartbeats 4000000 in
theorem kX4_ticks_28 {p : Program} {l : Launch} {e : Env} {s : State} {m : MethodId} {args : Array Value} {below : List Frame} {meth : Method} {c : Code} {D : va_G} {A : Nat → Prop} {cI cS cF cZ cJ : ClassId} {ad : Nat → Nat} {X : va_W} {n : Nat} {p1 : Int32} (G : cxx p s m args meth c cX4_ticks 3 wsX4_ticks RX4 D (ty5 cI cS cF cZ cJ) A (some .int)) (hn : n ≤ 24) (hl : l.stackTraces = false) (v : Mem) (s0 : Int32) : sk p l e rmX4_ticks s m args below meth c D A 3 1 6 (fun res => vx_MQ below (xi D A (ty5 cI cS cF cZ cJ) (Wc cI cS cF ad n X) res) (xc D A (ty5 cI cS cF cZ cJ) (Wc cI cS cF ad n X) res) args s 2 12 A) (Wc cI cS cF ad n X v) 28 [(0, .ref (ad 0)), (1, .int p1)] [.int s0] (fX4_ticks_28 n p1 v s0) := by
  obtain ⟨F, hK, hA, hZ, hr, hlocks, hno⟩ := G
  refine sk_eq (K' := xd (fX4_needState s0 v) fun _ v9 => fX4_ticks_33 n p1 1000 v9 0) rfl ?_
  refine sk_xSv (As := [.int s0]) (rest := []) F hK hA hZ hlocks hno _ (tX4_needState hn hl _) (va_cwS 1 F.2.2.2.2 gX4_ticks_X4_needState rfl rfl rfl (by decide +kernel) ⟨Nat.le_of_ble_eq_true rfl, Nat.le_of_ble_eq_true rfl⟩) rfl rfl (Nat.le_of_ble_eq_true rfl) (by decide) (by decide) (by decide) dX4_ticks_28 (fun v9 c8 => ?_)
  refine sk_iconst (x := 0) F dX4_ticks_31 (by decide) ?_
  refine sk_istore_n F dX4_ticks_32 rfl (by decide) rfl ?_
  exact sk_lv [1, 2, 0] rfl (kX4_ticks_33 ⟨F, hK, hA, hZ, hr, hlocks, hno⟩ hn hl 1000 v9 0)
def fX4_ticks (n : Nat) (p1 : Int32) (v : Mem) : Option ((Int32 ⊕ String) × Mem) := bd (fX4_isWithin p1 1 200 v) fun x3 v2 => xd (fX4_need x3 v2) fun _ v5 => if 20000 < ((v5 0 6) + p1) then fX4_ticks_28 n p1 v5 0 else fX4_ticks_28 n p1 v5 1
set_option maxRecDepth 100000 in
set_option maxHeartbeats 4000000 in
theorem kX4_ticks_0 {p : Program} {l : Launch} {e : Env} {s : State} {m : MethodId} {args : Array Value} {below : List Frame} {meth : Method} {c : Code} {D : va_G} {A : Nat → Prop} {cI cS cF cZ cJ : ClassId} {ad : Nat → Nat} {X : va_W} {n : Nat} {p1 : Int32} (G : cxx p s m args meth c cX4_ticks 3 wsX4_ticks RX4 D (ty5 cI cS cF cZ cJ) A (some .int)) (hn : n ≤ 24) (hl : l.stackTraces = false) (v : Mem) : sk p l e rmX4_ticks s m args below meth c D A 3 0 0 (fun res => vx_MQ below (xi D A (ty5 cI cS cF cZ cJ) (Wc cI cS cF ad n X) res) (xc D A (ty5 cI cS cF cZ cJ) (Wc cI cS cF ad n X) res) args s 2 12 A) (Wc cI cS cF ad n X v) 0 [(0, .ref (ad 0)), (1, .int p1)] [] (fX4_ticks n p1 v) := by
  obtain ⟨F, hK, hA, hZ, hr, hlocks, hno⟩ := G
  refine sk_eq (K' := bd (fX4_isWithin p1 1 200 v) fun x3 v2 => xd (fX4_need x3 v2) fun _ v5 => if 20000 < ((v5 0 6) + p1) then fX4_ticks_28 n p1 v5 0 else fX4_ticks_28 n p1 v5 1) rfl ?_
  refine sk_iload_n F dX4_ticks_0 rfl 1 rfl ?_
  refine sk_iconst (x := 1) F dX4_ticks_1 (by decide) ?_
  refine sk_sipush (x := 200) F dX4_ticks_2 (by decide) ?_
  refine sk_callSi (As := [.int p1, .int 1, .int 200]) (rest := []) F hK hA hZ _ (tX4_isWithin hn _) (va_cwS 3 F.2.2.2.2 gX4_ticks_X4_isWithin rfl rfl rfl (by decide +kernel) ⟨Nat.le_of_ble_eq_true rfl, Nat.le_of_ble_eq_true rfl⟩) rfl rfl (Nat.le_of_ble_eq_true rfl) (by decide) dX4_ticks_5 (fun x3 v2 c1 => ?_)
  refine sk_xSv (As := [.int x3]) (rest := []) F hK hA hZ hlocks hno _ (tX4_need hn hl _) (va_cwS 1 F.2.2.2.2 gX4_ticks_X4_need rfl rfl rfl (by decide +kernel) ⟨Nat.le_of_ble_eq_true rfl, Nat.le_of_ble_eq_true rfl⟩) rfl rfl (Nat.le_of_ble_eq_true rfl) (by decide) (by decide) (by decide) dX4_ticks_8 (fun v5 c4 => ?_)
  refine sk_aload_n F dX4_ticks_11 rfl 0 rfl ?_
  refine sk_g4 (ref := "TunnelWatch") F hK (kC_0 n) iX4_ticks_4 6 (by decide) (by decide +kernel) (fun _ h9 => h9) rfl dX4_ticks_12 ?_
  refine sk_iload_n F dX4_ticks_15 rfl 1 rfl ?_
  refine sk_iadd F dX4_ticks_16 ?_
  refine sk_sipush (x := 20000) F dX4_ticks_17 (by decide) ?_
  refine sk_icmp_gt F 27 dX4_ticks_20 (by decide) (fun h7 => ?_) (fun h7 => ?_)
  · refine sk_iconst (x := 0) F dX4_ticks_27 (by decide) ?_
    exact kX4_ticks_28 ⟨F, hK, hA, hZ, hr, hlocks, hno⟩ hn hl v5 0
  · refine sk_iconst (x := 1) F dX4_ticks_23 (by decide) ?_
    refine sk_goto F 28 dX4_ticks_24 (by decide) ?_
    exact kX4_ticks_28 ⟨F, hK, hA, hZ, hr, hlocks, hno⟩ hn hl v5 1
theorem tX4_ticks {l : Launch} {D : va_G} {A : Nat → Prop} {cI cS cF cZ cJ : ClassId} {ad : Nat → Nat} {X : va_W} {n : Nat} (hn : n ≤ 24) (hl : l.stackTraces = false) {p1 : Int32} (v : Mem) : XI l yX4_ticks wsX4_ticks rmX4_ticks 2 12 D A (ty5 cI cS cF cZ cJ) (Wc cI cS cF ad n X) [.ref (ad 0), .int p1] v (fX4_ticks n p1 v) :=
  XI_of (cc := cX4_ticks) (maxL := 3) (ret := (some .int)) (by decide) rfl (Nat.le_of_ble_eq_true rfl) (fun p e s m below meth c G => kX4_ticks_0 G hn hl v)
def rmX4_tube : Room := { frames := 8, cells := 2, slots := 12, locals := 129 }
theorem iX4_tube_3 : ∀ w ∈ wsX30, w ∈ wsX4_tube := by decide +kernel
def fX4_tube (p1 : Int32) (p2 : Int32) (v : Mem) : Option ((Int32 ⊕ String) × Mem) := xd (fX4_needTube p1 v) fun _ v2 => bd (fX4_isWithin p2 0 4 v2) fun x6 v5 => xd (fX4_need x6 v5) fun _ v8 => bd (fX4_tubeAt p1 v8) fun x12 v11 => if p2 = 0 then some (.inl (v11 x12 10), v11) else if p2 = 1 then some (.inl (v11 x12 11), v11) else if p2 = 2 then some (.inl (v11 x12 8), v11) else if p2 = 3 then some (.inl (v11 x12 9), v11) else bd (fX3_countBlowing x12 (v11 x12 8) v11) fun x19 v18 => some (.inl x19, v18)
set_option maxRecDepth 100000 in
set_option maxHeartbeats 4000000 in
theorem kX4_tube_0 {p : Program} {l : Launch} {e : Env} {s : State} {m : MethodId} {args : Array Value} {below : List Frame} {meth : Method} {c : Code} {D : va_G} {A : Nat → Prop} {cI cS cF cZ cJ : ClassId} {ad : Nat → Nat} {X : va_W} {n : Nat} {p1 : Int32} {p2 : Int32} (G : cxx p s m args meth c cX4_tube 4 wsX4_tube RX4 D (ty5 cI cS cF cZ cJ) A (some .int)) (hn : n ≤ 24) (hl : l.stackTraces = false) (v : Mem) : sk p l e rmX4_tube s m args below meth c D A 4 0 0 (fun res => vx_MQ below (xi D A (ty5 cI cS cF cZ cJ) (Wc cI cS cF ad n X) res) (xc D A (ty5 cI cS cF cZ cJ) (Wc cI cS cF ad n X) res) args s 2 12 A) (Wc cI cS cF ad n X v) 0 [(0, .ref (ad 0)), (1, .int p1), (2, .int p2)] [] (fX4_tube p1 p2 v) := by
  obtain ⟨F, hK, hA, hZ, hr, hlocks, hno⟩ := G
  refine sk_eq (K' := xd (fX4_needTube p1 v) fun _ v2 => bd (fX4_isWithin p2 0 4 v2) fun x6 v5 => xd (fX4_need x6 v5) fun _ v8 => bd (fX4_tubeAt p1 v8) fun x12 v11 => if p2 = 0 then some (.inl (v11 x12 10), v11) else if p2 = 1 then some (.inl (v11 x12 11), v11) else if p2 = 2 then some (.inl (v11 x12 8), v11) else if p2 = 3 then some (.inl (v11 x12 9), v11) else bd (fX3_countBlowing x12 (v11 x12 8) v11) fun x19 v18 => some (.inl x19, v18)) rfl ?_
  refine sk_iload_n F dX4_tube_0 rfl 1 rfl ?_
  refine sk_xSv (As := [.int p1]) (rest := []) F hK hA hZ hlocks hno _ (tX4_needTube hn hl _) (va_cwS 1 F.2.2.2.2 gX4_tube_X4_needTube rfl rfl rfl (by decide +kernel) ⟨Nat.le_of_ble_eq_true rfl, Nat.le_of_ble_eq_true rfl⟩) rfl rfl (Nat.le_of_ble_eq_true rfl) (by decide) (by decide) (by decide) dX4_tube_1 (fun v2 c1 => ?_)
  refine sk_iload_n F dX4_tube_4 rfl 2 rfl ?_
  refine sk_iconst (x := 0) F dX4_tube_5 (by decide) ?_
  refine sk_iconst (x := 4) F dX4_tube_6 (by decide) ?_
  refine sk_callSi (As := [.int p2, .int 0, .int 4]) (rest := []) F hK hA hZ _ (tX4_isWithin hn _) (va_cwS 3 F.2.2.2.2 gX4_tube_X4_isWithin rfl rfl rfl (by decide +kernel) ⟨Nat.le_of_ble_eq_true rfl, Nat.le_of_ble_eq_true rfl⟩) rfl rfl (Nat.le_of_ble_eq_true rfl) (by decide) dX4_tube_7 (fun x6 v5 c4 => ?_)
  refine sk_xSv (As := [.int x6]) (rest := []) F hK hA hZ hlocks hno _ (tX4_need hn hl _) (va_cwS 1 F.2.2.2.2 gX4_tube_X4_need rfl rfl rfl (by decide +kernel) ⟨Nat.le_of_ble_eq_true rfl, Nat.le_of_ble_eq_true rfl⟩) rfl rfl (Nat.le_of_ble_eq_true rfl) (by decide) (by decide) (by decide) dX4_tube_10 (fun v8 c7 => ?_)
  refine sk_aload_n F dX4_tube_13 rfl 0 rfl ?_
  refine sk_iload_n F dX4_tube_14 rfl 1 rfl ?_
  refine sk_callVr (As := [.int p1]) (rest := []) F hK hA hZ _ (tX4_tubeAt hn _) (cwV 1 F.2.2.2.2 gX4_tube_X4_tubeAt rfl rfl rfl (by decide +kernel) ⟨Nat.le_of_ble_eq_true rfl, Nat.le_of_ble_eq_true rfl⟩) (rc4 hK (kC_0 n)) rfl rfl (Nat.le_of_ble_eq_true rfl) (by decide) dX4_tube_15 (fun x12 v11 c10 => ?_)
  refine sk_astore_n F dX4_tube_18 rfl (by decide) rfl ?_
  refine sk_iload_n F dX4_tube_19 rfl 3 rfl ?_
  refine sk_tcase F 0 52 dX4_tube_20 (by decide) (by decide) rfl (by decide) (fun h13 => ?_) (fun h13 => ?_)
  · refine sk_aload_n F dX4_tube_52 rfl 0 rfl ?_
    refine sk_g3 (ref := "TunnelWatch$Tube") F hK (aX4_tubeAt c10) iX4_tube_3 10 (by decide) (by decide +kernel) (fun _ h9 => h9) rfl dX4_tube_53 ?_
    exact sk_xiret F hK hr hlocks (by decide) (by decide) dX4_tube_56
  · refine sk_tcase F 1 57 dX4_tube_20 (by decide) (by decide) rfl (by decide) (fun h14 => ?_) (fun h14 => ?_)
    · refine sk_aload_n F dX4_tube_57 rfl 0 rfl ?_
      refine sk_g3 (ref := "TunnelWatch$Tube") F hK (aX4_tubeAt c10) iX4_tube_3 11 (by decide) (by decide +kernel) (fun _ h9 => h9) rfl dX4_tube_58 ?_
      exact sk_xiret F hK hr hlocks (by decide) (by decide) dX4_tube_61
    · refine sk_tcase F 2 62 dX4_tube_20 (by decide) (by decide) rfl (by decide) (fun h15 => ?_) (fun h15 => ?_)
      · refine sk_aload_n F dX4_tube_62 rfl 0 rfl ?_
        refine sk_g3 (ref := "TunnelWatch$Tube") F hK (aX4_tubeAt c10) iX4_tube_3 8 (by decide) (by decide +kernel) (fun _ h9 => h9) rfl dX4_tube_63 ?_
        exact sk_xiret F hK hr hlocks (by decide) (by decide) dX4_tube_66
      · refine sk_tcase F 3 67 dX4_tube_20 (by decide) (by decide) rfl (by decide) (fun h16 => ?_) (fun h16 => ?_)
        · refine sk_aload_n F dX4_tube_67 rfl 0 rfl ?_
          refine sk_g3 (ref := "TunnelWatch$Tube") F hK (aX4_tubeAt c10) iX4_tube_3 9 (by decide) (by decide +kernel) (fun _ h9 => h9) rfl dX4_tube_68 ?_
          exact sk_xiret F hK hr hlocks (by decide) (by decide) dX4_tube_71
        · refine sk_tdef F 72 dX4_tube_20 (ts_out (m := 3) (by decide) (fun j hj => match j, hj with | 0, _ => h13 | 1, _ => h14 | 2, _ => h15 | 3, _ => h16 | k + 4, hj => absurd hj (by omega))) (by decide) ?_
          refine sk_aload_n F dX4_tube_72 rfl 0 rfl ?_
          refine sk_aload_n F dX4_tube_73 rfl 0 rfl ?_
          refine sk_g3 (ref := "TunnelWatch$Tube") F hK (aX4_tubeAt c10) iX4_tube_3 8 (by decide) (by decide +kernel) (fun _ h9 => h9) rfl dX4_tube_74 ?_
          refine sk_callVi (As := [.int (v11 x12 8)]) (rest := []) F hK hA hZ _ (tX3_countBlowing hn (aX4_tubeAt c10) _) (cwV 1 F.2.2.2.2 gX4_tube_X3_countBlowing rfl rfl rfl (by decide +kernel) ⟨Nat.le_of_ble_eq_true rfl, Nat.le_of_ble_eq_true rfl⟩) (rc3 hK (aX4_tubeAt c10)) rfl rfl (Nat.le_of_ble_eq_true rfl) (by decide) dX4_tube_77 (fun x19 v18 c17 => ?_)
          exact sk_xiret F hK hr hlocks (by decide) (by decide) dX4_tube_80
theorem tX4_tube {l : Launch} {D : va_G} {A : Nat → Prop} {cI cS cF cZ cJ : ClassId} {ad : Nat → Nat} {X : va_W} {n : Nat} (hn : n ≤ 24) (hl : l.stackTraces = false) {p1 : Int32} {p2 : Int32} (v : Mem) : XI l yX4_tube wsX4_tube rmX4_tube 2 12 D A (ty5 cI cS cF cZ cJ) (Wc cI cS cF ad n X) [.ref (ad 0), .int p1, .int p2] v (fX4_tube p1 p2 v) :=
  XI_of (cc := cX4_tube) (maxL := 4) (ret := (some .int)) (by decide) rfl (Nat.le_of_ble_eq_true rfl) (fun p e s m below meth c G => kX4_tube_0 G hn hl v)
def rmX4_device : Room := { frames := 9, cells := 3, slots := 18, locals := 151 }
theorem iX4_device_0 : ∀ w ∈ wsX00, w ∈ wsX4_device := by decide +kernel
theorem iX4_device_1 : ∀ w ∈ wsX10, w ∈ wsX4_device := by decide +kernel
theorem iX4_device_3 : ∀ w ∈ wsX30, w ∈ wsX4_device := by decide +kernel
def fX4_device_115 (p1 : Int32) (p2 : Int32) (p3 : Int32) (v : Mem) (r4 : Nat) (s0 : Int32) : Option ((Int32 ⊕ String) × Mem) := if (v r4 5) = 0 then some (.inl (s0 + 0), v) else some (.inl (s0 + 2), v)
set_option maxRecDepth 100000 in
set_option maxHeartbeats 4000000 in
theorem kX4_device_115 {p : Program} {l : Launch} {e : Env} {s : State} {m : MethodId} {args : Array Value} {below : List Frame} {meth : Method} {c : Code} {D : va_G} {A : Nat → Prop} {cI cS cF cZ cJ : ClassId} {ad : Nat → Nat} {X : va_W} {n : Nat} {p1 : Int32} {p2 : Int32} {p3 : Int32} (G : cxx p s m args meth c cX4_device 5 wsX4_device RX4 D (ty5 cI cS cF cZ cJ) A (some .int)) (hn : n ≤ 24) (hl : l.stackTraces = false) (v : Mem) (r4 : Nat) (s0 : Int32) (hr4 : kC n r4 = 0 ∨ kC n r4 = 1) : sk p l e rmX4_device s m args below meth c D A 5 3 18 (fun res => vx_MQ below (xi D A (ty5 cI cS cF cZ cJ) (Wc cI cS cF ad n X) res) (xc D A (ty5 cI cS cF cZ cJ) (Wc cI cS cF ad n X) res) args s 3 18 A) (Wc cI cS cF ad n X v) 115 [(4, .ref (ad r4))] [.int s0] (fX4_device_115 p1 p2 p3 v r4 s0) := by
  obtain ⟨F, hK, hA, hZ, hr, hlocks, hno⟩ := G
  refine sk_eq (K' := if (v r4 5) = 0 then some (.inl (s0 + 0), v) else some (.inl (s0 + 2), v)) rfl ?_
  refine sk_aload F dX4_device_115 0 rfl ?_
  refine sk_gD F hK hr4 iX4_device_0 iX4_device_1 5 (by decide) (by decide +kernel) rfl rfl rfl rfl dX4_device_117 ?_
  refine sk_if_eq F 127 dX4_device_120 (by decide) (fun h29 => ?_) (fun h29 => ?_)
  · refine sk_iconst (x := 0) F dX4_device_127 (by decide) ?_
    refine sk_iadd F dX4_device_128 ?_
    exact sk_xiret F hK hr hlocks (by decide) (by decide) dX4_device_129
  · refine sk_iconst (x := 2) F dX4_device_123 (by decide) ?_
    refine sk_goto F 128 dX4_device_124 (by decide) ?_
    refine sk_iadd F dX4_device_128 ?_
    exact sk_xiret F hK hr hlocks (by decide) (by decide) dX4_device_129
def fX4_device (p1 : Int32) (p2 : Int32) (p3 : Int32) (v : Mem) : Option ((Int32 ⊕ String) × Mem) := xd (fX4_needDevice p1 p2 v) fun _ v2 => bd (fX4_isWithin p3 0 5 v2) fun x6 v5 => xd (fX4_need x6 v5) fun _ v8 => if p3 < 4 then bd (fX4_tubeAt p1 v8) fun x13 v12 => bd (fX3_deviceAt x13 p2 v12) fun x16 v15 => if p3 = 0 then some (.inl (v15 x16 0), v15) else if p3 = 1 then some (.inl (v15 x16 1), v15) else if p3 = 2 then some (.inl (v15 x16 2), v15) else if (v15 x16 4) = 0 then fX4_device_115 p1 p2 p3 v15 x16 0 else fX4_device_115 p1 p2 p3 v15 x16 1 else if 2 ≤ p2 then bd (fX4_tubeAt p1 v8) fun x24 v23 => gd (inb (p2 - 2) 12) (bd (fX4_tellFan (x24 + 5 + (p2 - 2).toNatClampNeg) p3 v23) fun x28 v27 => some (.inl x28, v27)) else some (.inl (-1), v8)
set_option maxRecDepth 100000 in
set_option maxHeartbeats 4000000 in
theorem kX4_device_0 {p : Program} {l : Launch} {e : Env} {s : State} {m : MethodId} {args : Array Value} {below : List Frame} {meth : Method} {c : Code} {D : va_G} {A : Nat → Prop} {cI cS cF cZ cJ : ClassId} {ad : Nat → Nat} {X : va_W} {n : Nat} {p1 : Int32} {p2 : Int32} {p3 : Int32} (G : cxx p s m args meth c cX4_device 5 wsX4_device RX4 D (ty5 cI cS cF cZ cJ) A (some .int)) (hn : n ≤ 24) (hl : l.stackTraces = false) (v : Mem) : sk p l e rmX4_device s m args below meth c D A 5 0 0 (fun res => vx_MQ below (xi D A (ty5 cI cS cF cZ cJ) (Wc cI cS cF ad n X) res) (xc D A (ty5 cI cS cF cZ cJ) (Wc cI cS cF ad n X) res) args s 3 18 A) (Wc cI cS cF ad n X v) 0 [(0, .ref (ad 0)), (1, .int p1), (2, .int p2), (3, .int p3)] [] (fX4_device p1 p2 p3 v) := by
  obtain ⟨F, hK, hA, hZ, hr, hlocks, hno⟩ := G
  refine sk_eq (K' := xd (fX4_needDevice p1 p2 v) fun _ v2 => bd (fX4_isWithin p3 0 5 v2) fun x6 v5 => xd (fX4_need x6 v5) fun _ v8 => if p3 < 4 then bd (fX4_tubeAt p1 v8) fun x13 v12 => bd (fX3_deviceAt x13 p2 v12) fun x16 v15 => if p3 = 0 then some (.inl (v15 x16 0), v15) else if p3 = 1 then some (.inl (v15 x16 1), v15) else if p3 = 2 then some (.inl (v15 x16 2), v15) else if (v15 x16 4) = 0 then fX4_device_115 p1 p2 p3 v15 x16 0 else fX4_device_115 p1 p2 p3 v15 x16 1 else if 2 ≤ p2 then bd (fX4_tubeAt p1 v8) fun x24 v23 => gd (inb (p2 - 2) 12) (bd (fX4_tellFan (x24 + 5 + (p2 - 2).toNatClampNeg) p3 v23) fun x28 v27 => some (.inl x28, v27)) else some (.inl (-1), v8)) rfl ?_
  refine sk_aload_n F dX4_device_0 rfl 0 rfl ?_
  refine sk_iload_n F dX4_device_1 rfl 1 rfl ?_
  refine sk_iload_n F dX4_device_2 rfl 2 rfl ?_
  refine sk_xVv (As := [.int p1, .int p2]) (rest := []) F hK hA hZ hlocks hno _ (tX4_needDevice hn hl _) (cwV 2 F.2.2.2.2 gX4_device_X4_needDevice rfl rfl rfl (by decide +kernel) ⟨Nat.le_of_ble_eq_true rfl, Nat.le_of_ble_eq_true rfl⟩) (rc4 hK (kC_0 n)) rfl rfl (Nat.le_of_ble_eq_true rfl) (by decide) (by decide) (by decide) dX4_device_3 (fun v2 c1 => ?_)
  refine sk_iload_n F dX4_device_6 rfl 3 rfl ?_
  refine sk_iconst (x := 0) F dX4_device_7 (by decide) ?_
  refine sk_iconst (x := 5) F dX4_device_8 (by decide) ?_
  refine sk_callSi (As := [.int p3, .int 0, .int 5]) (rest := []) F hK hA hZ _ (tX4_isWithin hn _) (va_cwS 3 F.2.2.2.2 gX4_device_X4_isWithin rfl rfl rfl (by decide +kernel) ⟨Nat.le_of_ble_eq_true rfl, Nat.le_of_ble_eq_true rfl⟩) rfl rfl (Nat.le_of_ble_eq_true rfl) (by decide) dX4_device_9 (fun x6 v5 c4 => ?_)
  refine sk_xSv (As := [.int x6]) (rest := []) F hK hA hZ hlocks hno _ (tX4_need hn hl _) (va_cwS 1 F.2.2.2.2 gX4_device_X4_need rfl rfl rfl (by decide +kernel) ⟨Nat.le_of_ble_eq_true rfl, Nat.le_of_ble_eq_true rfl⟩) rfl rfl (Nat.le_of_ble_eq_true rfl) (by decide) (by decide) (by decide) dX4_device_12 (fun v8 c7 => ?_)
  refine sk_iload_n F dX4_device_15 rfl 3 rfl ?_
  refine sk_iconst (x := 4) F dX4_device_16 (by decide) ?_
  refine sk_icmp_lt F 47 dX4_device_17 (by decide) (fun h10 => ?_) (fun h10 => ?_)
  · refine sk_aload_n F dX4_device_47 rfl 0 rfl ?_
    refine sk_iload_n F dX4_device_48 rfl 1 rfl ?_
    refine sk_callVr (As := [.int p1]) (rest := []) F hK hA hZ _ (tX4_tubeAt hn _) (cwV 1 F.2.2.2.2 gX4_device_X4_tubeAt rfl rfl rfl (by decide +kernel) ⟨Nat.le_of_ble_eq_true rfl, Nat.le_of_ble_eq_true rfl⟩) (rc4 hK (kC_0 n)) rfl rfl (Nat.le_of_ble_eq_true rfl) (by decide) dX4_device_49 (fun x13 v12 c11 => ?_)
    refine sk_iload_n F dX4_device_52 rfl 2 rfl ?_
    refine sk_callVr (As := [.int p2]) (rest := []) F hK hA hZ _ (tX3_deviceAt hn (aX4_tubeAt c11) _) (cwV 1 F.2.2.2.2 gX4_device_X3_deviceAt rfl rfl rfl (by decide +kernel) ⟨Nat.le_of_ble_eq_true rfl, Nat.le_of_ble_eq_true rfl⟩) (rc3 hK (aX4_tubeAt c11)) rfl rfl (Nat.le_of_ble_eq_true rfl) (by decide) dX4_device_53 (fun x16 v15 c14 => ?_)
    refine sk_astore F dX4_device_56 (by decide) rfl ?_
    refine sk_iload_n F dX4_device_58 rfl 4 rfl ?_
    refine sk_tcase F 0 84 dX4_device_59 (by decide) (by decide) rfl (by decide) (fun h17 => ?_) (fun h17 => ?_)
    · refine sk_aload F dX4_device_84 0 rfl ?_
      refine sk_gD F hK (aX3_deviceAt (aX4_tubeAt c11) c14) iX4_device_0 iX4_device_1 0 (by decide) (by decide +kernel) rfl rfl rfl rfl dX4_device_86 ?_
      exact sk_xiret F hK hr hlocks (by decide) (by decide) dX4_device_89
    · refine sk_tcase F 1 90 dX4_device_59 (by decide) (by decide) rfl (by decide) (fun h18 => ?_) (fun h18 => ?_)
      · refine sk_aload F dX4_device_90 0 rfl ?_
        refine sk_gD F hK (aX3_deviceAt (aX4_tubeAt c11) c14) iX4_device_0 iX4_device_1 1 (by decide) (by decide +kernel) rfl rfl rfl rfl dX4_device_92 ?_
        exact sk_xiret F hK hr hlocks (by decide) (by decide) dX4_device_95
      · refine sk_tcase F 2 96 dX4_device_59 (by decide) (by decide) rfl (by decide) (fun h19 => ?_) (fun h19 => ?_)
        · refine sk_aload F dX4_device_96 0 rfl ?_
          refine sk_gD F hK (aX3_deviceAt (aX4_tubeAt c11) c14) iX4_device_0 iX4_device_1 2 (by decide) (by decide +kernel) rfl rfl rfl rfl dX4_device_98 ?_
          exact sk_xiret F hK hr hlocks (by decide) (by decide) dX4_device_101
        · refine sk_tdef F 102 dX4_device_59 (ts_out (m := 2) (by decide) (fun j hj => match j, hj with | 0, _ => h17 | 1, _ => h18 | 2, _ => h19 | k + 3, hj => absurd hj (by omega))) (by decide) ?_
          refine sk_aload F dX4_device_102 0 rfl ?_
          refine sk_gD F hK (aX3_deviceAt (aX4_tubeAt c11) c14) iX4_device_0 iX4_device_1 4 (by decide) (by decide +kernel) rfl rfl rfl rfl dX4_device_104 ?_
          refine sk_if_eq F 114 dX4_device_107 (by decide) (fun h20 => ?_) (fun h20 => ?_)
          · refine sk_iconst (x := 0) F dX4_device_114 (by decide) ?_
            exact sk_lv [0] rfl (kX4_device_115 ⟨F, hK, hA, hZ, hr, hlocks, hno⟩ hn hl v15 x16 0 (aX3_deviceAt (aX4_tubeAt c11) c14))
          · refine sk_iconst (x := 1) F dX4_device_110 (by decide) ?_
            refine sk_goto F 115 dX4_device_111 (by decide) ?_
            exact sk_lv [0] rfl (kX4_device_115 ⟨F, hK, hA, hZ, hr, hlocks, hno⟩ hn hl v15 x16 1 (aX3_deviceAt (aX4_tubeAt c11) c14))
  · refine sk_iload_n F dX4_device_20 rfl 2 rfl ?_
    refine sk_iconst (x := 2) F dX4_device_21 (by decide) ?_
    refine sk_icmp_ge F 29 dX4_device_22 (by decide) (fun h21 => ?_) (fun h21 => ?_)
    · refine sk_aload_n F dX4_device_29 rfl 0 rfl ?_
      refine sk_aload_n F dX4_device_30 rfl 0 rfl ?_
      refine sk_iload_n F dX4_device_31 rfl 1 rfl ?_
      refine sk_callVr (As := [.int p1]) (rest := [.ref (ad 0)]) F hK hA hZ _ (tX4_tubeAt hn _) (cwV 1 F.2.2.2.2 gX4_device_X4_tubeAt rfl rfl rfl (by decide +kernel) ⟨Nat.le_of_ble_eq_true rfl, Nat.le_of_ble_eq_true rfl⟩) (rc4 hK (kC_0 n)) rfl rfl (Nat.le_of_ble_eq_true rfl) (by decide) dX4_device_32 (fun x24 v23 c22 => ?_)
      refine sk_g3 (ref := "TunnelWatch$Tube") F hK (aX4_tubeAt c22) iX4_device_3 3 (by decide) (by decide +kernel) (fun _ h9 => h9) rfl dX4_device_35 ?_
      refine sk_iload_n F dX4_device_38 rfl 2 rfl ?_
      refine sk_iconst (x := 2) F dX4_device_39 (by decide) ?_
      refine sk_isub F dX4_device_40 ?_
      refine sk_aldF F hK (aX4_tubeAt c22) dX4_device_41 (fun h25 => ?_)
      refine sk_iload_n F dX4_device_42 rfl 3 rfl ?_
      refine sk_callVi (As := [.ref (ad (x24 + 5 + (p2 - 2).toNatClampNeg)), .int p3]) (rest := []) F hK hA hZ _ (tX4_tellFan hn (kC_f (aX4_tubeAt c22) (inb_lt h25)) _) (cwV 2 F.2.2.2.2 gX4_device_X4_tellFan rfl rfl rfl (by decide +kernel) ⟨Nat.le_of_ble_eq_true rfl, Nat.le_of_ble_eq_true rfl⟩) (rc4 hK (kC_0 n)) rfl rfl (Nat.le_of_ble_eq_true rfl) (by decide) dX4_device_43 (fun x28 v27 c26 => ?_)
      exact sk_xiret F hK hr hlocks (by decide) (by decide) dX4_device_46
    · refine sk_iconst (x := (-1)) F dX4_device_25 (by decide) ?_
      refine sk_goto F 46 dX4_device_26 (by decide) ?_
      exact sk_xiret F hK hr hlocks (by decide) (by decide) dX4_device_46
theorem tX4_device {l : Launch} {D : va_G} {A : Nat → Prop} {cI cS cF cZ cJ : ClassId} {ad : Nat → Nat} {X : va_W} {n : Nat} (hn : n ≤ 24) (hl : l.stackTraces = false) {p1 : Int32} {p2 : Int32} {p3 : Int32} (v : Mem) : XI l yX4_device wsX4_device rmX4_device 3 18 D A (ty5 cI cS cF cZ cJ) (Wc cI cS cF ad n X) [.ref (ad 0), .int p1, .int p2, .int p3] v (fX4_device p1 p2 p3 v) :=
  XI_of (cc := cX4_device) (maxL := 5) (ret := (some .int)) (by decide) rfl (Nat.le_of_ble_eq_true rfl) (fun p e s m below meth c G => kX4_device_0 G hn hl v)
