def rmX4_fan : Room := { frames := 8, cells := 4, slots := 24, locals := 129 }
theorem iX4_fan_3 : ∀ w ∈ wsX30, w ∈ wsX4_fan := by decide +kernel
theorem iX4_fan_4 : ∀ w ∈ wsX40, w ∈ wsX4_fan := by decide +kernel
def fX4_fan_50 (p1 : Int32) (p2 : Int32) (v : Mem) (r3 : Nat) (s0 : Int32) : Option ((Int32 ⊕ String) × Mem) := xd (fX4_needState s0 v) fun _ v19 => bd (fX3_addFan r3 p2 v19) fun x23 v22 => some (.inl x23, v22)
set_option maxRecDepth 100000 in
set_option maxHeartbeats 4000000 in
theorem kX4_fan_50 {p : Program} {l : Launch} {e : Env} {s : State} {m : MethodId} {args : Array Value} {below : List Frame} {meth : Method} {c : Code} {D : va_G} {A : Nat → Prop} {cI cS cF cZ cJ : ClassId} {ad : Nat → Nat} {X : va_W} {n : Nat} {p1 : Int32} {p2 : Int32} (G : cxx p s m args meth c cX4_fan 4 wsX4_fan RX4 D (ty5 cI cS cF cZ cJ) A (some .int)) (hn : n ≤ 24) (hl : l.stackTraces = false) (v : Mem) (r3 : Nat) (s0 : Int32) (hr3 : kC n r3 = 3) : sk p l e rmX4_fan s m args below meth c D A 4 3 18 (fun res => vx_MQ below (xi D A (ty5 cI cS cF cZ cJ) (Wc cI cS cF ad n X) res) (xc D A (ty5 cI cS cF cZ cJ) (Wc cI cS cF ad n X) res) args s 4 24 A) (Wc cI cS cF ad n X v) 50 [(2, .int p2), (3, .ref (ad r3))] [.int s0] (fX4_fan_50 p1 p2 v r3 s0) := by
  obtain ⟨F, hK, hA, hZ, hr, hlocks, hno⟩ := G
  refine sk_eq (K' := xd (fX4_needState s0 v) fun _ v19 => bd (fX3_addFan r3 p2 v19) fun x23 v22 => some (.inl x23, v22)) rfl ?_
  refine sk_xSv (As := [.int s0]) (rest := []) F hK hA hZ hlocks hno _ (tX4_needState hn hl _) (va_cwS 1 F.2.2.2.2 gX4_fan_X4_needState rfl rfl rfl (by decide +kernel) ⟨Nat.le_of_ble_eq_true rfl, Nat.le_of_ble_eq_true rfl⟩) rfl rfl (Nat.le_of_ble_eq_true rfl) (by decide) (by decide) (by decide) dX4_fan_50 (fun v19 c18 => ?_)
  refine sk_aload_n F dX4_fan_53 rfl 1 rfl ?_
  refine sk_iload_n F dX4_fan_54 rfl 0 rfl ?_
  refine sk_callVi (As := [.int p2]) (rest := []) F hK hA hZ _ (tX3_addFan hn hr3 _) (cwV 1 F.2.2.2.2 gX4_fan_X3_addFan rfl rfl rfl (by decide +kernel) ⟨Nat.le_of_ble_eq_true rfl, Nat.le_of_ble_eq_true rfl⟩) (rc3 hK hr3) rfl rfl (Nat.le_of_ble_eq_true rfl) (by decide) dX4_fan_55 (fun x23 v22 c21 => ?_)
  exact sk_xiret F hK hr hlocks (by decide) (by decide) dX4_fan_58
def fX4_fan_35 (p1 : Int32) (p2 : Int32) (v : Mem) (r3 : Nat) (s0 : Int32) : Option ((Int32 ⊕ String) × Mem) := xd (fX4_needState s0 v) fun _ v15 => if (v15 0 6) = 0 then fX4_fan_50 p1 p2 v15 r3 1 else fX4_fan_50 p1 p2 v15 r3 0
set_option maxRecDepth 100000 in
set_option maxHeartbeats 4000000 in
theorem kX4_fan_35 {p : Program} {l : Launch} {e : Env} {s : State} {m : MethodId} {args : Array Value} {below : List Frame} {meth : Method} {c : Code} {D : va_G} {A : Nat → Prop} {cI cS cF cZ cJ : ClassId} {ad : Nat → Nat} {X : va_W} {n : Nat} {p1 : Int32} {p2 : Int32} (G : cxx p s m args meth c cX4_fan 4 wsX4_fan RX4 D (ty5 cI cS cF cZ cJ) A (some .int)) (hn : n ≤ 24) (hl : l.stackTraces = false) (v : Mem) (r3 : Nat) (s0 : Int32) (hr3 : kC n r3 = 3) : sk p l e rmX4_fan s m args below meth c D A 4 2 12 (fun res => vx_MQ below (xi D A (ty5 cI cS cF cZ cJ) (Wc cI cS cF ad n X) res) (xc D A (ty5 cI cS cF cZ cJ) (Wc cI cS cF ad n X) res) args s 4 24 A) (Wc cI cS cF ad n X v) 35 [(0, .ref (ad 0)), (2, .int p2), (3, .ref (ad r3))] [.int s0] (fX4_fan_35 p1 p2 v r3 s0) := by
  obtain ⟨F, hK, hA, hZ, hr, hlocks, hno⟩ := G
  refine sk_eq (K' := xd (fX4_needState s0 v) fun _ v15 => if (v15 0 6) = 0 then fX4_fan_50 p1 p2 v15 r3 1 else fX4_fan_50 p1 p2 v15 r3 0) rfl ?_
  refine sk_xSv (As := [.int s0]) (rest := []) F hK hA hZ hlocks hno _ (tX4_needState hn hl _) (va_cwS 1 F.2.2.2.2 gX4_fan_X4_needState rfl rfl rfl (by decide +kernel) ⟨Nat.le_of_ble_eq_true rfl, Nat.le_of_ble_eq_true rfl⟩) rfl rfl (Nat.le_of_ble_eq_true rfl) (by decide) (by decide) (by decide) dX4_fan_35 (fun v15 c14 => ?_)
  refine sk_aload_n F dX4_fan_38 rfl 0 rfl ?_
  refine sk_g4 (ref := "TunnelWatch") F hK (kC_0 n) iX4_fan_4 6 (by decide) (by decide +kernel) (fun _ h9 => h9) rfl dX4_fan_39 ?_
  refine sk_if_ne F 49 dX4_fan_42 (by decide) (fun h17 => ?_) (fun h17 => ?_)
  · refine sk_iconst (x := 0) F dX4_fan_49 (by decide) ?_
    exact sk_lv [1, 2] rfl (kX4_fan_50 ⟨F, hK, hA, hZ, hr, hlocks, hno⟩ hn hl v15 r3 0 hr3)
  · refine sk_iconst (x := 1) F dX4_fan_45 (by decide) ?_
    refine sk_goto F 50 dX4_fan_46 (by decide) ?_
    exact sk_lv [1, 2] rfl (kX4_fan_50 ⟨F, hK, hA, hZ, hr, hlocks, hno⟩ hn hl v15 r3 1 hr3)
def fX4_fan (p1 : Int32) (p2 : Int32) (v : Mem) : Option ((Int32 ⊕ String) × Mem) := xd (fX4_needTube p1 v) fun _ v2 => bd (fX4_isWithin p2 1 1000 v2) fun x6 v5 => xd (fX4_need x6 v5) fun _ v8 => bd (fX4_tubeAt p1 v8) fun x12 v11 => if 12 ≤ (v11 x12 4) then fX4_fan_35 p1 p2 v11 x12 0 else fX4_fan_35 p1 p2 v11 x12 1
set_option maxRecDepth 100000 in
set_option maxHeartbeats 4000000 in
theorem kX4_fan_0 {p : Program} {l : Launch} {e : Env} {s : State} {m : MethodId} {args : Array Value} {below : List Frame} {meth : Method} {c : Code} {D : va_G} {A : Nat → Prop} {cI cS cF cZ cJ : ClassId} {ad : Nat → Nat} {X : va_W} {n : Nat} {p1 : Int32} {p2 : Int32} (G : cxx p s m args meth c cX4_fan 4 wsX4_fan RX4 D (ty5 cI cS cF cZ cJ) A (some .int)) (hn : n ≤ 24) (hl : l.stackTraces = false) (v : Mem) : sk p l e rmX4_fan s m args below meth c D A 4 0 0 (fun res => vx_MQ below (xi D A (ty5 cI cS cF cZ cJ) (Wc cI cS cF ad n X) res) (xc D A (ty5 cI cS cF cZ cJ) (Wc cI cS cF ad n X) res) args s 4 24 A) (Wc cI cS cF ad n X v) 0 [(0, .ref (ad 0)), (1, .int p1), (2, .int p2)] [] (fX4_fan p1 p2 v) := by
  obtain ⟨F, hK, hA, hZ, hr, hlocks, hno⟩ := G
  refine sk_eq (K' := xd (fX4_needTube p1 v) fun _ v2 => bd (fX4_isWithin p2 1 1000 v2) fun x6 v5 => xd (fX4_need x6 v5) fun _ v8 => bd (fX4_tubeAt p1 v8) fun x12 v11 => if 12 ≤ (v11 x12 4) then fX4_fan_35 p1 p2 v11 x12 0 else fX4_fan_35 p1 p2 v11 x12 1) rfl ?_
  refine sk_iload_n F dX4_fan_0 rfl 1 rfl ?_
  refine sk_xSv (As := [.int p1]) (rest := []) F hK hA hZ hlocks hno _ (tX4_needTube hn hl _) (va_cwS 1 F.2.2.2.2 gX4_fan_X4_needTube rfl rfl rfl (by decide +kernel) ⟨Nat.le_of_ble_eq_true rfl, Nat.le_of_ble_eq_true rfl⟩) rfl rfl (Nat.le_of_ble_eq_true rfl) (by decide) (by decide) (by decide) dX4_fan_1 (fun v2 c1 => ?_)
  refine sk_iload_n F dX4_fan_4 rfl 2 rfl ?_
  refine sk_iconst (x := 1) F dX4_fan_5 (by decide) ?_
  refine sk_sipush (x := 1000) F dX4_fan_6 (by decide) ?_
  refine sk_callSi (As := [.int p2, .int 1, .int 1000]) (rest := []) F hK hA hZ _ (tX4_isWithin hn _) (va_cwS 3 F.2.2.2.2 gX4_fan_X4_isWithin rfl rfl rfl (by decide +kernel) ⟨Nat.le_of_ble_eq_true rfl, Nat.le_of_ble_eq_true rfl⟩) rfl rfl (Nat.le_of_ble_eq_true rfl) (by decide) dX4_fan_9 (fun x6 v5 c4 => ?_)
  refine sk_xSv (As := [.int x6]) (rest := []) F hK hA hZ hlocks hno _ (tX4_need hn hl _) (va_cwS 1 F.2.2.2.2 gX4_fan_X4_need rfl rfl rfl (by decide +kernel) ⟨Nat.le_of_ble_eq_true rfl, Nat.le_of_ble_eq_true rfl⟩) rfl rfl (Nat.le_of_ble_eq_true rfl) (by decide) (by decide) (by decide) dX4_fan_12 (fun v8 c7 => ?_)
  refine sk_aload_n F dX4_fan_15 rfl 0 rfl ?_
  refine sk_iload_n F dX4_fan_16 rfl 1 rfl ?_
  refine sk_callVr (As := [.int p1]) (rest := []) F hK hA hZ _ (tX4_tubeAt hn _) (cwV 1 F.2.2.2.2 gX4_fan_X4_tubeAt rfl rfl rfl (by decide +kernel) ⟨Nat.le_of_ble_eq_true rfl, Nat.le_of_ble_eq_true rfl⟩) (rc4 hK (kC_0 n)) rfl rfl (Nat.le_of_ble_eq_true rfl) (by decide) dX4_fan_17 (fun x12 v11 c10 => ?_)
  refine sk_astore_n F dX4_fan_20 rfl (by decide) rfl ?_
  refine sk_aload_n F dX4_fan_21 rfl 0 rfl ?_
  refine sk_g3 (ref := "TunnelWatch$Tube") F hK (aX4_tubeAt c10) iX4_fan_3 4 (by decide) (by decide +kernel) (fun _ h9 => h9) rfl dX4_fan_22 ?_
  refine sk_bipush (x := 12) F dX4_fan_25 (by decide) ?_
  refine sk_icmp_ge F 34 dX4_fan_27 (by decide) (fun h13 => ?_) (fun h13 => ?_)
  · refine sk_iconst (x := 0) F dX4_fan_34 (by decide) ?_
    exact sk_lv [1, 3, 0] rfl (kX4_fan_35 ⟨F, hK, hA, hZ, hr, hlocks, hno⟩ hn hl v11 x12 0 (aX4_tubeAt c10))
  · refine sk_iconst (x := 1) F dX4_fan_30 (by decide) ?_
    refine sk_goto F 35 dX4_fan_31 (by decide) ?_
    exact sk_lv [1, 3, 0] rfl (kX4_fan_35 ⟨F, hK, hA, hZ, hr, hlocks, hno⟩ hn hl v11 x12 1 (aX4_tubeAt c10))
theorem tX4_fan {l : Launch} {D : va_G} {A : Nat → Prop} {cI cS cF cZ cJ : ClassId} {ad : Nat → Nat} {X : va_W} {n : Nat} (hn : n ≤ 24) (hl : l.stackTraces = false) {p1 : Int32} {p2 : Int32} (v : Mem) : XI l yX4_fan wsX4_fan rmX4_fan 4 24 D A (ty5 cI cS cF cZ cJ) (Wc cI cS cF ad n X) [.ref (ad 0), .int p1, .int p2] v (fX4_fan p1 p2 v) :=
  XI_of (cc := cX4_fan) (maxL := 4) (ret := (some .int)) (by decide) rfl (Nat.le_of_ble_eq_true rfl) (fun p e s m below meth c G => kX4_fan_0 G hn hl v)
def rmX4_lag : Room := { frames := 9, cells := 3, slots := 18, locals := 151 }
theorem iX4_lag_0 : ∀ w ∈ wsX00, w ∈ wsX4_lag := by decide +kernel
theorem iX4_lag_1 : ∀ w ∈ wsX10, w ∈ wsX4_lag := by decide +kernel
def fX4_lag (p1 : Int32) (p2 : Int32) (p3 : Int32) (v : Mem) : Option ((Int32 ⊕ String) × Mem) := xd (fX4_needDevice p1 p2 v) fun _ v2 => bd (fX4_isWithin p3 0 5 v2) fun x6 v5 => xd (fX4_need x6 v5) fun _ v8 => bd (fX4_tubeAt p1 v8) fun x12 v11 => bd (fX3_deviceAt x12 p2 v11) fun x15 v14 => some (.inl (v14 x15 3), up2 v14 x15 3 p3)
set_option maxRecDepth 100000 in
set_option maxHeartbeats 4000000 in
theorem kX4_lag_0 {p : Program} {l : Launch} {e : Env} {s : State} {m : MethodId} {args : Array Value} {below : List Frame} {meth : Method} {c : Code} {D : va_G} {A : Nat → Prop} {cI cS cF cZ cJ : ClassId} {ad : Nat → Nat} {X : va_W} {n : Nat} {p1 : Int32} {p2 : Int32} {p3 : Int32} (G : cxx p s m args meth c cX4_lag 6 wsX4_lag RX4 D (ty5 cI cS cF cZ cJ) A (some .int)) (hn : n ≤ 24) (hl : l.stackTraces = false) (v : Mem) : sk p l e rmX4_lag s m args below meth c D A 6 0 0 (fun res => vx_MQ below (xi D A (ty5 cI cS cF cZ cJ) (Wc cI cS cF ad n X) res) (xc D A (ty5 cI cS cF cZ cJ) (Wc cI cS cF ad n X) res) args s 3 18 A) (Wc cI cS cF ad n X v) 0 [(0, .ref (ad 0)), (1, .int p1), (2, .int p2), (3, .int p3)] [] (fX4_lag p1 p2 p3 v) := by
  obtain ⟨F, hK, hA, hZ, hr, hlocks, hno⟩ := G
  refine sk_eq (K' := xd (fX4_needDevice p1 p2 v) fun _ v2 => bd (fX4_isWithin p3 0 5 v2) fun x6 v5 => xd (fX4_need x6 v5) fun _ v8 => bd (fX4_tubeAt p1 v8) fun x12 v11 => bd (fX3_deviceAt x12 p2 v11) fun x15 v14 => some (.inl (v14 x15 3), up2 v14 x15 3 p3)) rfl ?_
  refine sk_aload_n F dX4_lag_0 rfl 0 rfl ?_
  refine sk_iload_n F dX4_lag_1 rfl 1 rfl ?_
  refine sk_iload_n F dX4_lag_2 rfl 2 rfl ?_
  refine sk_xVv (As := [.int p1, .int p2]) (rest := []) F hK hA hZ hlocks hno _ (tX4_needDevice hn hl _) (cwV 2 F.2.2.2.2 gX4_lag_X4_needDevice rfl rfl rfl (by decide +kernel) ⟨Nat.le_of_ble_eq_true rfl, Nat.le_of_ble_eq_true rfl⟩) (rc4 hK (kC_0 n)) rfl rfl (Nat.le_of_ble_eq_true rfl) (by decide) (by decide) (by decide) dX4_lag_3 (fun v2 c1 => ?_)
  refine sk_iload_n F dX4_lag_6 rfl 3 rfl ?_
  refine sk_iconst (x := 0) F dX4_lag_7 (by decide) ?_
  refine sk_iconst (x := 5) F dX4_lag_8 (by decide) ?_
  refine sk_callSi (As := [.int p3, .int 0, .int 5]) (rest := []) F hK hA hZ _ (tX4_isWithin hn _) (va_cwS 3 F.2.2.2.2 gX4_lag_X4_isWithin rfl rfl rfl (by decide +kernel) ⟨Nat.le_of_ble_eq_true rfl, Nat.le_of_ble_eq_true rfl⟩) rfl rfl (Nat.le_of_ble_eq_true rfl) (by decide) dX4_lag_9 (fun x6 v5 c4 => ?_)
  refine sk_xSv (As := [.int x6]) (rest := []) F hK hA hZ hlocks hno _ (tX4_need hn hl _) (va_cwS 1 F.2.2.2.2 gX4_lag_X4_need rfl rfl rfl (by decide +kernel) ⟨Nat.le_of_ble_eq_true rfl, Nat.le_of_ble_eq_true rfl⟩) rfl rfl (Nat.le_of_ble_eq_true rfl) (by decide) (by decide) (by decide) dX4_lag_12 (fun v8 c7 => ?_)
  refine sk_aload_n F dX4_lag_15 rfl 0 rfl ?_
  refine sk_iload_n F dX4_lag_16 rfl 1 rfl ?_
  refine sk_callVr (As := [.int p1]) (rest := []) F hK hA hZ _ (tX4_tubeAt hn _) (cwV 1 F.2.2.2.2 gX4_lag_X4_tubeAt rfl rfl rfl (by decide +kernel) ⟨Nat.le_of_ble_eq_true rfl, Nat.le_of_ble_eq_true rfl⟩) (rc4 hK (kC_0 n)) rfl rfl (Nat.le_of_ble_eq_true rfl) (by decide) dX4_lag_17 (fun x12 v11 c10 => ?_)
  refine sk_iload_n F dX4_lag_20 rfl 2 rfl ?_
  refine sk_callVr (As := [.int p2]) (rest := []) F hK hA hZ _ (tX3_deviceAt hn (aX4_tubeAt c10) _) (cwV 1 F.2.2.2.2 gX4_lag_X3_deviceAt rfl rfl rfl (by decide +kernel) ⟨Nat.le_of_ble_eq_true rfl, Nat.le_of_ble_eq_true rfl⟩) (rc3 hK (aX4_tubeAt c10)) rfl rfl (Nat.le_of_ble_eq_true rfl) (by decide) dX4_lag_21 (fun x15 v14 c13 => ?_)
  refine sk_astore F dX4_lag_24 (by decide) rfl ?_
  refine sk_aload F dX4_lag_26 0 rfl ?_
  refine sk_gD F hK (aX3_deviceAt (aX4_tubeAt c10) c13) iX4_lag_0 iX4_lag_1 3 (by decide) (by decide +kernel) rfl rfl rfl rfl dX4_lag_28 ?_
  refine sk_istore F dX4_lag_31 (by decide) rfl ?_
  refine sk_aload F dX4_lag_33 1 rfl ?_
  refine sk_iload_n F dX4_lag_35 rfl 5 rfl ?_
  refine sk_pD (ty := .int) F hK (aX3_deviceAt (aX4_tubeAt c10) c13) iX4_lag_0 iX4_lag_1 3 (by decide) (by decide +kernel) rfl (by decide +kernel) rfl rfl rfl rfl rfl rfl dX4_lag_36 ?_
  refine sk_iload F dX4_lag_39 0 rfl ?_
  exact sk_xiret F hK hr hlocks (by decide) (by decide) dX4_lag_41
theorem tX4_lag {l : Launch} {D : va_G} {A : Nat → Prop} {cI cS cF cZ cJ : ClassId} {ad : Nat → Nat} {X : va_W} {n : Nat} (hn : n ≤ 24) (hl : l.stackTraces = false) {p1 : Int32} {p2 : Int32} {p3 : Int32} (v : Mem) : XI l yX4_lag wsX4_lag rmX4_lag 3 18 D A (ty5 cI cS cF cZ cJ) (Wc cI cS cF ad n X) [.ref (ad 0), .int p1, .int p2, .int p3] v (fX4_lag p1 p2 p3 v) :=
  XI_of (cc := cX4_lag) (maxL := 6) (ret := (some .int)) (by decide) rfl (Nat.le_of_ble_eq_true rfl) (fun p e s m below meth c G => kX4_lag_0 G hn hl v)
def rmX4_plan : Room := { frames := 9, cells := 6, slots := 36, locals := 151 }
theorem iX4_plan_2 : ∀ w ∈ wsX20, w ∈ wsX4_plan := by decide +kernel
theorem iX4_plan_3 : ∀ w ∈ wsX30, w ∈ wsX4_plan := by decide +kernel
theorem iX4_plan_4 : ∀ w ∈ wsX40, w ∈ wsX4_plan := by decide +kernel
def fX4_plan_50 (n : Nat) (p1 : Int32) (p2 : Int32) (p3 : Int32) (p4 : Int32) (p5 : Int32) (p6 : Int32) (v : Mem) (s0 : Int32) : Option ((Unit ⊕ String) × Mem) := xd (fX4_needState s0 v) fun _ v24 => bd (fX4_tubeAt p1 v24) fun x28 v27 => gd (inb p2 n) (bd (fX4_directionOf p4 (up2 v27 (x28 + 17 + p2.toNatClampNeg) 3 p3)) fun x32 v31 => some (.inl (), up2 (up2 (up2 v31 (x28 + 17 + p2.toNatClampNeg) 4 x32) (x28 + 17 + p2.toNatClampNeg) 5 p5) (x28 + 17 + p2.toNatClampNeg) 7 p6))
set_option maxRecDepth 100000 in
set_option maxHeartbeats 4000000 in
theorem kX4_plan_50 {p : Program} {l : Launch} {e : Env} {s : State} {m : MethodId} {args : Array Value} {below : List Frame} {meth : Method} {c : Code} {D : va_G} {A : Nat → Prop} {cI cS cF cZ cJ : ClassId} {ad : Nat → Nat} {X : va_W} {n : Nat} {p1 : Int32} {p2 : Int32} {p3 : Int32} {p4 : Int32} {p5 : Int32} {p6 : Int32} (G : cxx p s m args meth c cX4_plan 8 wsX4_plan RX4 D (ty5 cI cS cF cZ cJ) A none) (hn : n ≤ 24) (hl : l.stackTraces = false) (v : Mem) (s0 : Int32) : sk p l e rmX4_plan s m args below meth c D A 8 5 30 (fun res => vx_MQ below (xv D A (ty5 cI cS cF cZ cJ) (Wc cI cS cF ad n X) res) (xc D A (ty5 cI cS cF cZ cJ) (Wc cI cS cF ad n X) res) args s 6 36 A) (Wc cI cS cF ad n X v) 50 [(0, .ref (ad 0)), (1, .int p1), (2, .int p2), (3, .int p3), (4, .int p4), (5, .int p5), (6, .int p6)] [.int s0] (fX4_plan_50 n p1 p2 p3 p4 p5 p6 v s0) := by
  obtain ⟨F, hK, hA, hZ, hr, hlocks, hno⟩ := G
  refine sk_eq (K' := xd (fX4_needState s0 v) fun _ v24 => bd (fX4_tubeAt p1 v24) fun x28 v27 => gd (inb p2 n) (bd (fX4_directionOf p4 (up2 v27 (x28 + 17 + p2.toNatClampNeg) 3 p3)) fun x32 v31 => some (.inl (), up2 (up2 (up2 v31 (x28 + 17 + p2.toNatClampNeg) 4 x32) (x28 + 17 + p2.toNatClampNeg) 5 p5) (x28 + 17 + p2.toNatClampNeg) 7 p6))) rfl ?_
  refine sk_xSv (As := [.int s0]) (rest := []) F hK hA hZ hlocks hno _ (tX4_needState hn hl _) (va_cwS 1 F.2.2.2.2 gX4_plan_X4_needState rfl rfl rfl (by decide +kernel) ⟨Nat.le_of_ble_eq_true rfl, Nat.le_of_ble_eq_true rfl⟩) rfl rfl (Nat.le_of_ble_eq_true rfl) (by decide) (by decide) (by decide) dX4_plan_50 (fun v24 c23 => ?_)
  refine sk_aload_n F dX4_plan_53 rfl 0 rfl ?_
  refine sk_iload_n F dX4_plan_54 rfl 1 rfl ?_
  refine sk_callVr (As := [.int p1]) (rest := []) F hK hA hZ _ (tX4_tubeAt hn _) (cwV 1 F.2.2.2.2 gX4_plan_X4_tubeAt rfl rfl rfl (by decide +kernel) ⟨Nat.le_of_ble_eq_true rfl, Nat.le_of_ble_eq_true rfl⟩) (rc4 hK (kC_0 n)) rfl rfl (Nat.le_of_ble_eq_true rfl) (by decide) dX4_plan_55 (fun x28 v27 c26 => ?_)
  refine sk_g3 (ref := "TunnelWatch$Tube") F hK (aX4_tubeAt c26) iX4_plan_3 0 (by decide) (by decide +kernel) (fun _ h9 => h9) rfl dX4_plan_58 ?_
  refine sk_iload_n F dX4_plan_61 rfl 2 rfl ?_
  refine sk_aldS F hK (aX4_tubeAt c26) dX4_plan_62 (fun h29 => ?_)
  refine sk_astore F dX4_plan_63 (by decide) rfl ?_
  refine sk_aload F dX4_plan_65 0 rfl ?_
  refine sk_iload_n F dX4_plan_67 rfl 4 rfl ?_
  refine sk_p2 (ref := "TunnelWatch$Section") (ty := .int) F hK (kC_s (aX4_tubeAt c26) hn (inb_lt h29)) iX4_plan_2 3 (by decide) (by decide +kernel) (fun _ h9 => h9) rfl (by decide +kernel) rfl rfl rfl dX4_plan_68 ?_
  refine sk_aload F dX4_plan_71 0 rfl ?_
  refine sk_iload F dX4_plan_73 5 rfl ?_
  refine sk_callSi (As := [.int p4]) (rest := [.ref (ad (x28 + 17 + p2.toNatClampNeg))]) F hK hA hZ _ (tX4_directionOf hn _) (va_cwS 1 F.2.2.2.2 gX4_plan_X4_directionOf rfl rfl rfl (by decide +kernel) ⟨Nat.le_of_ble_eq_true rfl, Nat.le_of_ble_eq_true rfl⟩) rfl rfl (Nat.le_of_ble_eq_true rfl) (by decide) dX4_plan_75 (fun x32 v31 c30 => ?_)
  refine sk_p2 (ref := "TunnelWatch$Section") (ty := .int) F hK (kC_s (aX4_tubeAt c26) hn (inb_lt h29)) iX4_plan_2 4 (by decide) (by decide +kernel) (fun _ h9 => h9) rfl (by decide +kernel) rfl rfl rfl dX4_plan_78 ?_
  refine sk_aload F dX4_plan_81 0 rfl ?_
  refine sk_iload F dX4_plan_83 6 rfl ?_
  refine sk_p2 (ref := "TunnelWatch$Section") (ty := .int) F hK (kC_s (aX4_tubeAt c26) hn (inb_lt h29)) iX4_plan_2 5 (by decide) (by decide +kernel) (fun _ h9 => h9) rfl (by decide +kernel) rfl rfl rfl dX4_plan_85 ?_
  refine sk_aload F dX4_plan_88 0 rfl ?_
  refine sk_iload F dX4_plan_90 7 rfl ?_
  refine sk_p2 (ref := "TunnelWatch$Section") (ty := .int) F hK (kC_s (aX4_tubeAt c26) hn (inb_lt h29)) iX4_plan_2 7 (by decide) (by decide +kernel) (fun _ h9 => h9) rfl (by decide +kernel) rfl rfl rfl dX4_plan_92 ?_
  exact sk_xvret F hK hr hlocks (by decide) (by decide) dX4_plan_95
def fX4_plan (n : Nat) (p1 : Int32) (p2 : Int32) (p3 : Int32) (p4 : Int32) (p5 : Int32) (p6 : Int32) (v : Mem) : Option ((Unit ⊕ String) × Mem) := xd (fX4_needSection p1 p2 v) fun _ v2 => bd (fX4_isWithin p3 0 100 v2) fun x6 v5 => xd (fX4_need x6 v5) fun _ v8 => bd (fX4_isWithin p5 0 12 v8) fun x12 v11 => xd (fX4_need x12 v11) fun _ v14 => bd (fX4_isWithin p6 0 12 v14) fun x18 v17 => xd (fX4_need x18 v17) fun _ v20 => if (v20 0 6) = 0 then fX4_plan_50 n p1 p2 p3 p4 p5 p6 v20 1 else fX4_plan_50 n p1 p2 p3 p4 p5 p6 v20 0
set_option maxRecDepth 100000 in
set_option maxHeartbeats 4000000 in
theorem kX4_plan_0 {p : Program} {l : Launch} {e : Env} {s : State} {m : MethodId} {args : Array Value} {below : List Frame} {meth : Method} {c : Code} {D : va_G} {A : Nat → Prop} {cI cS cF cZ cJ : ClassId} {ad : Nat → Nat} {X : va_W} {n : Nat} {p1 : Int32} {p2 : Int32} {p3 : Int32} {p4 : Int32} {p5 : Int32} {p6 : Int32} (G : cxx p s m args meth c cX4_plan 8 wsX4_plan RX4 D (ty5 cI cS cF cZ cJ) A none) (hn : n ≤ 24) (hl : l.stackTraces = false) (v : Mem) : sk p l e rmX4_plan s m args below meth c D A 8 0 0 (fun res => vx_MQ below (xv D A (ty5 cI cS cF cZ cJ) (Wc cI cS cF ad n X) res) (xc D A (ty5 cI cS cF cZ cJ) (Wc cI cS cF ad n X) res) args s 6 36 A) (Wc cI cS cF ad n X v) 0 [(0, .ref (ad 0)), (1, .int p1), (2, .int p2), (3, .int p3), (4, .int p4), (5, .int p5), (6, .int p6)] [] (fX4_plan n p1 p2 p3 p4 p5 p6 v) := by
  obtain ⟨F, hK, hA, hZ, hr, hlocks, hno⟩ := G
  refine sk_eq (K' := xd (fX4_needSection p1 p2 v) fun _ v2 => bd (fX4_isWithin p3 0 100 v2) fun x6 v5 => xd (fX4_need x6 v5) fun _ v8 => bd (fX4_isWithin p5 0 12 v8) fun x12 v11 => xd (fX4_need x12 v11) fun _ v14 => bd (fX4_isWithin p6 0 12 v14) fun x18 v17 => xd (fX4_need x18 v17) fun _ v20 => if (v20 0 6) = 0 then fX4_plan_50 n p1 p2 p3 p4 p5 p6 v20 1 else fX4_plan_50 n p1 p2 p3 p4 p5 p6 v20 0) rfl ?_
  refine sk_aload_n F dX4_plan_0 rfl 0 rfl ?_
  refine sk_iload_n F dX4_plan_1 rfl 1 rfl ?_
  refine sk_iload_n F dX4_plan_2 rfl 2 rfl ?_
  refine sk_xVv (As := [.int p1, .int p2]) (rest := []) F hK hA hZ hlocks hno _ (tX4_needSection hn hl _) (cwV 2 F.2.2.2.2 gX4_plan_X4_needSection rfl rfl rfl (by decide +kernel) ⟨Nat.le_of_ble_eq_true rfl, Nat.le_of_ble_eq_true rfl⟩) (rc4 hK (kC_0 n)) rfl rfl (Nat.le_of_ble_eq_true rfl) (by decide) (by decide) (by decide) dX4_plan_3 (fun v2 c1 => ?_)
  refine sk_iload_n F dX4_plan_6 rfl 3 rfl ?_
  refine sk_iconst (x := 0) F dX4_plan_7 (by decide) ?_
  refine sk_bipush (x := 100) F dX4_plan_8 (by decide) ?_
  refine sk_callSi (As := [.int p3, .int 0, .int 100]) (rest := []) F hK hA hZ _ (tX4_isWithin hn _) (va_cwS 3 F.2.2.2.2 gX4_plan_X4_isWithin rfl rfl rfl (by decide +kernel) ⟨Nat.le_of_ble_eq_true rfl, Nat.le_of_ble_eq_true rfl⟩) rfl rfl (Nat.le_of_ble_eq_true rfl) (by decide) dX4_plan_10 (fun x6 v5 c4 => ?_)
  refine sk_xSv (As := [.int x6]) (rest := []) F hK hA hZ hlocks hno _ (tX4_need hn hl _) (va_cwS 1 F.2.2.2.2 gX4_plan_X4_need rfl rfl rfl (by decide +kernel) ⟨Nat.le_of_ble_eq_true rfl, Nat.le_of_ble_eq_true rfl⟩) rfl rfl (Nat.le_of_ble_eq_true rfl) (by decide) (by decide) (by decide) dX4_plan_13 (fun v8 c7 => ?_)
  refine sk_iload F dX4_plan_16 5 rfl ?_
  refine sk_iconst (x := 0) F dX4_plan_18 (by decide) ?_
  refine sk_bipush (x := 12) F dX4_plan_19 (by decide) ?_
  refine sk_callSi (As := [.int p5, .int 0, .int 12]) (rest := []) F hK hA hZ _ (tX4_isWithin hn _) (va_cwS 3 F.2.2.2.2 gX4_plan_X4_isWithin rfl rfl rfl (by decide +kernel) ⟨Nat.le_of_ble_eq_true rfl, Nat.le_of_ble_eq_true rfl⟩) rfl rfl (Nat.le_of_ble_eq_true rfl) (by decide) dX4_plan_21 (fun x12 v11 c10 => ?_)
  refine sk_xSv (As := [.int x12]) (rest := []) F hK hA hZ hlocks hno _ (tX4_need hn hl _) (va_cwS 1 F.2.2.2.2 gX4_plan_X4_need rfl rfl rfl (by decide +kernel) ⟨Nat.le_of_ble_eq_true rfl, Nat.le_of_ble_eq_true rfl⟩) rfl rfl (Nat.le_of_ble_eq_true rfl) (by decide) (by decide) (by decide) dX4_plan_24 (fun v14 c13 => ?_)
  refine sk_iload F dX4_plan_27 6 rfl ?_
  refine sk_iconst (x := 0) F dX4_plan_29 (by decide) ?_
  refine sk_bipush (x := 12) F dX4_plan_30 (by decide) ?_
  refine sk_callSi (As := [.int p6, .int 0, .int 12]) (rest := []) F hK hA hZ _ (tX4_isWithin hn _) (va_cwS 3 F.2.2.2.2 gX4_plan_X4_isWithin rfl rfl rfl (by decide +kernel) ⟨Nat.le_of_ble_eq_true rfl, Nat.le_of_ble_eq_true rfl⟩) rfl rfl (Nat.le_of_ble_eq_true rfl) (by decide) dX4_plan_32 (fun x18 v17 c16 => ?_)
  refine sk_xSv (As := [.int x18]) (rest := []) F hK hA hZ hlocks hno _ (tX4_need hn hl _) (va_cwS 1 F.2.2.2.2 gX4_plan_X4_need rfl rfl rfl (by decide +kernel) ⟨Nat.le_of_ble_eq_true rfl, Nat.le_of_ble_eq_true rfl⟩) rfl rfl (Nat.le_of_ble_eq_true rfl) (by decide) (by decide) (by decide) dX4_plan_35 (fun v20 c19 => ?_)
  refine sk_aload_n F dX4_plan_38 rfl 0 rfl ?_
  refine sk_g4 (ref := "TunnelWatch") F hK (kC_0 n) iX4_plan_4 6 (by decide) (by decide +kernel) (fun _ h9 => h9) rfl dX4_plan_39 ?_
  refine sk_if_ne F 49 dX4_plan_42 (by decide) (fun h22 => ?_) (fun h22 => ?_)
  · refine sk_iconst (x := 0) F dX4_plan_49 (by decide) ?_
    exact kX4_plan_50 ⟨F, hK, hA, hZ, hr, hlocks, hno⟩ hn hl v20 0
  · refine sk_iconst (x := 1) F dX4_plan_45 (by decide) ?_
    refine sk_goto F 50 dX4_plan_46 (by decide) ?_
    exact kX4_plan_50 ⟨F, hK, hA, hZ, hr, hlocks, hno⟩ hn hl v20 1
theorem tX4_plan {l : Launch} {D : va_G} {A : Nat → Prop} {cI cS cF cZ cJ : ClassId} {ad : Nat → Nat} {X : va_W} {n : Nat} (hn : n ≤ 24) (hl : l.stackTraces = false) {p1 : Int32} {p2 : Int32} {p3 : Int32} {p4 : Int32} {p5 : Int32} {p6 : Int32} (v : Mem) : XV l yX4_plan wsX4_plan rmX4_plan 6 36 D A (ty5 cI cS cF cZ cJ) (Wc cI cS cF ad n X) [.ref (ad 0), .int p1, .int p2, .int p3, .int p4, .int p5, .int p6] v (fX4_plan n p1 p2 p3 p4 p5 p6 v) :=
  XV_of (cc := cX4_plan) (maxL := 8) (ret := none) (by decide) rfl (Nat.le_of_ble_eq_true rfl) (fun p e s m below meth c G => kX4_plan_0 G hn hl v)
def rmX4_turn : Room := { frames := 9, cells := 3, slots := 18, locals := 151 }
theorem iX4_turn_2 : ∀ w ∈ wsX20, w ∈ wsX4_turn := by decide +kernel
theorem iX4_turn_3 : ∀ w ∈ wsX30, w ∈ wsX4_turn := by decide +kernel
theorem iX4_turn_4 : ∀ w ∈ wsX40, w ∈ wsX4_turn := by decide +kernel
def fX4_turn_18 (n : Nat) (p1 : Int32) (p2 : Int32) (p3 : Int32) (v : Mem) (s0 : Int32) : Option ((Unit ⊕ String) × Mem) := xd (fX4_needState s0 v) fun _ v6 => bd (fX4_tubeAt p1 v6) fun x10 v9 => gd (inb p2 n) (bd (fX4_directionOf p3 v9) fun x14 v13 => some (.inl (), up2 v13 (x10 + 17 + p2.toNatClampNeg) 6 x14))
set_option maxRecDepth 100000 in
set_option maxHeartbeats 4000000 in
theorem kX4_turn_18 {p : Program} {l : Launch} {e : Env} {s : State} {m : MethodId} {args : Array Value} {below : List Frame} {meth : Method} {c : Code} {D : va_G} {A : Nat → Prop} {cI cS cF cZ cJ : ClassId} {ad : Nat → Nat} {X : va_W} {n : Nat} {p1 : Int32} {p2 : Int32} {p3 : Int32} (G : cxx p s m args meth c cX4_turn 4 wsX4_turn RX4 D (ty5 cI cS cF cZ cJ) A none) (hn : n ≤ 24) (hl : l.stackTraces = false) (v : Mem) (s0 : Int32) : sk p l e rmX4_turn s m args below meth c D A 4 2 12 (fun res => vx_MQ below (xv D A (ty5 cI cS cF cZ cJ) (Wc cI cS cF ad n X) res) (xc D A (ty5 cI cS cF cZ cJ) (Wc cI cS cF ad n X) res) args s 3 18 A) (Wc cI cS cF ad n X v) 18 [(0, .ref (ad 0)), (1, .int p1), (2, .int p2), (3, .int p3)] [.int s0] (fX4_turn_18 n p1 p2 p3 v s0) := by
  obtain ⟨F, hK, hA, hZ, hr, hlocks, hno⟩ := G
  refine sk_eq (K' := xd (fX4_needState s0 v) fun _ v6 => bd (fX4_tubeAt p1 v6) fun x10 v9 => gd (inb p2 n) (bd (fX4_directionOf p3 v9) fun x14 v13 => some (.inl (), up2 v13 (x10 + 17 + p2.toNatClampNeg) 6 x14))) rfl ?_
  refine sk_xSv (As := [.int s0]) (rest := []) F hK hA hZ hlocks hno _ (tX4_needState hn hl _) (va_cwS 1 F.2.2.2.2 gX4_turn_X4_needState rfl rfl rfl (by decide +kernel) ⟨Nat.le_of_ble_eq_true rfl, Nat.le_of_ble_eq_true rfl⟩) rfl rfl (Nat.le_of_ble_eq_true rfl) (by decide) (by decide) (by decide) dX4_turn_18 (fun v6 c5 => ?_)
  refine sk_aload_n F dX4_turn_21 rfl 0 rfl ?_
  refine sk_iload_n F dX4_turn_22 rfl 1 rfl ?_
  refine sk_callVr (As := [.int p1]) (rest := []) F hK hA hZ _ (tX4_tubeAt hn _) (cwV 1 F.2.2.2.2 gX4_turn_X4_tubeAt rfl rfl rfl (by decide +kernel) ⟨Nat.le_of_ble_eq_true rfl, Nat.le_of_ble_eq_true rfl⟩) (rc4 hK (kC_0 n)) rfl rfl (Nat.le_of_ble_eq_true rfl) (by decide) dX4_turn_23 (fun x10 v9 c8 => ?_)
  refine sk_g3 (ref := "TunnelWatch$Tube") F hK (aX4_tubeAt c8) iX4_turn_3 0 (by decide) (by decide +kernel) (fun _ h9 => h9) rfl dX4_turn_26 ?_
  refine sk_iload_n F dX4_turn_29 rfl 2 rfl ?_
  refine sk_aldS F hK (aX4_tubeAt c8) dX4_turn_30 (fun h11 => ?_)
  refine sk_iload_n F dX4_turn_31 rfl 3 rfl ?_
  refine sk_callSi (As := [.int p3]) (rest := [.ref (ad (x10 + 17 + p2.toNatClampNeg))]) F hK hA hZ _ (tX4_directionOf hn _) (va_cwS 1 F.2.2.2.2 gX4_turn_X4_directionOf rfl rfl rfl (by decide +kernel) ⟨Nat.le_of_ble_eq_true rfl, Nat.le_of_ble_eq_true rfl⟩) rfl rfl (Nat.le_of_ble_eq_true rfl) (by decide) dX4_turn_32 (fun x14 v13 c12 => ?_)
  refine sk_p2 (ref := "TunnelWatch$Section") (ty := .int) F hK (kC_s (aX4_tubeAt c8) hn (inb_lt h11)) iX4_turn_2 6 (by decide) (by decide +kernel) (fun _ h9 => h9) rfl (by decide +kernel) rfl rfl rfl dX4_turn_35 ?_
  exact sk_xvret F hK hr hlocks (by decide) (by decide) dX4_turn_38
def fX4_turn (n : Nat) (p1 : Int32) (p2 : Int32) (p3 : Int32) (v : Mem) : Option ((Unit ⊕ String) × Mem) := xd (fX4_needSection p1 p2 v) fun _ v2 => if (v2 0 6) = 0 then fX4_turn_18 n p1 p2 p3 v2 1 else fX4_turn_18 n p1 p2 p3 v2 0
set_option maxRecDepth 100000 in
set_option maxHeartbeats 4000000 in
theorem kX4_turn_0 {p : Program} {l : Launch} {e : Env} {s : State} {m : MethodId} {args : Array Value} {below : List Frame} {meth : Method} {c : Code} {D : va_G} {A : Nat → Prop} {cI cS cF cZ cJ : ClassId} {ad : Nat → Nat} {X : va_W} {n : Nat} {p1 : Int32} {p2 : Int32} {p3 : Int32} (G : cxx p s m args meth c cX4_turn 4 wsX4_turn RX4 D (ty5 cI cS cF cZ cJ) A none) (hn : n ≤ 24) (hl : l.stackTraces = false) (v : Mem) : sk p l e rmX4_turn s m args below meth c D A 4 0 0 (fun res => vx_MQ below (xv D A (ty5 cI cS cF cZ cJ) (Wc cI cS cF ad n X) res) (xc D A (ty5 cI cS cF cZ cJ) (Wc cI cS cF ad n X) res) args s 3 18 A) (Wc cI cS cF ad n X v) 0 [(0, .ref (ad 0)), (1, .int p1), (2, .int p2), (3, .int p3)] [] (fX4_turn n p1 p2 p3 v) := by
  obtain ⟨F, hK, hA, hZ, hr, hlocks, hno⟩ := G
  refine sk_eq (K' := xd (fX4_needSection p1 p2 v) fun _ v2 => if (v2 0 6) = 0 then fX4_turn_18 n p1 p2 p3 v2 1 else fX4_turn_18 n p1 p2 p3 v2 0) rfl ?_
  refine sk_aload_n F dX4_turn_0 rfl 0 rfl ?_
  refine sk_iload_n F dX4_turn_1 rfl 1 rfl ?_
  refine sk_iload_n F dX4_turn_2 rfl 2 rfl ?_
  refine sk_xVv (As := [.int p1, .int p2]) (rest := []) F hK hA hZ hlocks hno _ (tX4_needSection hn hl _) (cwV 2 F.2.2.2.2 gX4_turn_X4_needSection rfl rfl rfl (by decide +kernel) ⟨Nat.le_of_ble_eq_true rfl, Nat.le_of_ble_eq_true rfl⟩) (rc4 hK (kC_0 n)) rfl rfl (Nat.le_of_ble_eq_true rfl) (by decide) (by decide) (by decide) dX4_turn_3 (fun v2 c1 => ?_)
  refine sk_aload_n F dX4_turn_6 rfl 0 rfl ?_
  refine sk_g4 (ref := "TunnelWatch") F hK (kC_0 n) iX4_turn_4 6 (by decide) (by decide +kernel) (fun _ h9 => h9) rfl dX4_turn_7 ?_
  refine sk_if_ne F 17 dX4_turn_10 (by decide) (fun h4 => ?_) (fun h4 => ?_)
  · refine sk_iconst (x := 0) F dX4_turn_17 (by decide) ?_
    exact kX4_turn_18 ⟨F, hK, hA, hZ, hr, hlocks, hno⟩ hn hl v2 0
  · refine sk_iconst (x := 1) F dX4_turn_13 (by decide) ?_
    refine sk_goto F 18 dX4_turn_14 (by decide) ?_
    exact kX4_turn_18 ⟨F, hK, hA, hZ, hr, hlocks, hno⟩ hn hl v2 1
theorem tX4_turn {l : Launch} {D : va_G} {A : Nat → Prop} {cI cS cF cZ cJ : ClassId} {ad : Nat → Nat} {X : va_W} {n : Nat} (hn : n ≤ 24) (hl : l.stackTraces = false) {p1 : Int32} {p2 : Int32} {p3 : Int32} (v : Mem) : XV l yX4_turn wsX4_turn rmX4_turn 3 18 D A (ty5 cI cS cF cZ cJ) (Wc cI cS cF ad n X) [.ref (ad 0), .int p1, .int p2, .int p3] v (fX4_turn n p1 p2 p3 v) :=
  XV_of (cc := cX4_turn) (maxL := 4) (ret := none) (by decide) rfl (Nat.le_of_ble_eq_true rfl) (fun p e s m below meth c G => kX4_turn_0 G hn hl v)
def rmX4_sense : Room := { frames := 9, cells := 3, slots := 18, locals := 151 }
theorem iX4_sense_2 : ∀ w ∈ wsX20, w ∈ wsX4_sense := by decide +kernel
theorem iX4_sense_3 : ∀ w ∈ wsX30, w ∈ wsX4_sense := by decide +kernel
def fX4_sense (n : Nat) (p1 : Int32) (p2 : Int32) (p3 : Int32) (v : Mem) : Option ((Int32 ⊕ String) × Mem) := xd (fX4_needSection p1 p2 v) fun _ v2 => bd (fX4_isWithin p3 0 100 v2) fun x6 v5 => xd (fX4_need x6 v5) fun _ v8 => bd (fX4_tubeAt p1 v8) fun x12 v11 => gd (inb p2 n) (some (.inl (v11 (x12 + 17 + p2.toNatClampNeg) 0), up2 v11 (x12 + 17 + p2.toNatClampNeg) 0 p3))
set_option maxRecDepth 100000 in
set_option maxHeartbeats 4000000 in
theorem kX4_sense_0 {p : Program} {l : Launch} {e : Env} {s : State} {m : MethodId} {args : Array Value} {below : List Frame} {meth : Method} {c : Code} {D : va_G} {A : Nat → Prop} {cI cS cF cZ cJ : ClassId} {ad : Nat → Nat} {X : va_W} {n : Nat} {p1 : Int32} {p2 : Int32} {p3 : Int32} (G : cxx p s m args meth c cX4_sense 6 wsX4_sense RX4 D (ty5 cI cS cF cZ cJ) A (some .int)) (hn : n ≤ 24) (hl : l.stackTraces = false) (v : Mem) : sk p l e rmX4_sense s m args below meth c D A 6 0 0 (fun res => vx_MQ below (xi D A (ty5 cI cS cF cZ cJ) (Wc cI cS cF ad n X) res) (xc D A (ty5 cI cS cF cZ cJ) (Wc cI cS cF ad n X) res) args s 3 18 A) (Wc cI cS cF ad n X v) 0 [(0, .ref (ad 0)), (1, .int p1), (2, .int p2), (3, .int p3)] [] (fX4_sense n p1 p2 p3 v) := by
  obtain ⟨F, hK, hA, hZ, hr, hlocks, hno⟩ := G
  refine sk_eq (K' := xd (fX4_needSection p1 p2 v) fun _ v2 => bd (fX4_isWithin p3 0 100 v2) fun x6 v5 => xd (fX4_need x6 v5) fun _ v8 => bd (fX4_tubeAt p1 v8) fun x12 v11 => gd (inb p2 n) (some (.inl (v11 (x12 + 17 + p2.toNatClampNeg) 0), up2 v11 (x12 + 17 + p2.toNatClampNeg) 0 p3))) rfl ?_
  refine sk_aload_n F dX4_sense_0 rfl 0 rfl ?_
  refine sk_iload_n F dX4_sense_1 rfl 1 rfl ?_
  refine sk_iload_n F dX4_sense_2 rfl 2 rfl ?_
  refine sk_xVv (As := [.int p1, .int p2]) (rest := []) F hK hA hZ hlocks hno _ (tX4_needSection hn hl _) (cwV 2 F.2.2.2.2 gX4_sense_X4_needSection rfl rfl rfl (by decide +kernel) ⟨Nat.le_of_ble_eq_true rfl, Nat.le_of_ble_eq_true rfl⟩) (rc4 hK (kC_0 n)) rfl rfl (Nat.le_of_ble_eq_true rfl) (by decide) (by decide) (by decide) dX4_sense_3 (fun v2 c1 => ?_)
  refine sk_iload_n F dX4_sense_6 rfl 3 rfl ?_
  refine sk_iconst (x := 0) F dX4_sense_7 (by decide) ?_
  refine sk_bipush (x := 100) F dX4_sense_8 (by decide) ?_
  refine sk_callSi (As := [.int p3, .int 0, .int 100]) (rest := []) F hK hA hZ _ (tX4_isWithin hn _) (va_cwS 3 F.2.2.2.2 gX4_sense_X4_isWithin rfl rfl rfl (by decide +kernel) ⟨Nat.le_of_ble_eq_true rfl, Nat.le_of_ble_eq_true rfl⟩) rfl rfl (Nat.le_of_ble_eq_true rfl) (by decide) dX4_sense_10 (fun x6 v5 c4 => ?_)
  refine sk_xSv (As := [.int x6]) (rest := []) F hK hA hZ hlocks hno _ (tX4_need hn hl _) (va_cwS 1 F.2.2.2.2 gX4_sense_X4_need rfl rfl rfl (by decide +kernel) ⟨Nat.le_of_ble_eq_true rfl, Nat.le_of_ble_eq_true rfl⟩) rfl rfl (Nat.le_of_ble_eq_true rfl) (by decide) (by decide) (by decide) dX4_sense_13 (fun v8 c7 => ?_)
  refine sk_aload_n F dX4_sense_16 rfl 0 rfl ?_
  refine sk_iload_n F dX4_sense_17 rfl 1 rfl ?_
  refine sk_callVr (As := [.int p1]) (rest := []) F hK hA hZ _ (tX4_tubeAt hn _) (cwV 1 F.2.2.2.2 gX4_sense_X4_tubeAt rfl rfl rfl (by decide +kernel) ⟨Nat.le_of_ble_eq_true rfl, Nat.le_of_ble_eq_true rfl⟩) (rc4 hK (kC_0 n)) rfl rfl (Nat.le_of_ble_eq_true rfl) (by decide) dX4_sense_18 (fun x12 v11 c10 => ?_)
  refine sk_g3 (ref := "TunnelWatch$Tube") F hK (aX4_tubeAt c10) iX4_sense_3 0 (by decide) (by decide +kernel) (fun _ h9 => h9) rfl dX4_sense_21 ?_
  refine sk_iload_n F dX4_sense_24 rfl 2 rfl ?_
  refine sk_aldS F hK (aX4_tubeAt c10) dX4_sense_25 (fun h13 => ?_)
  refine sk_astore F dX4_sense_26 (by decide) rfl ?_
  refine sk_aload F dX4_sense_28 0 rfl ?_
  refine sk_g2 (ref := "TunnelWatch$Section") F hK (kC_s (aX4_tubeAt c10) hn (inb_lt h13)) iX4_sense_2 0 (by decide) (by decide +kernel) (fun _ h9 => h9) rfl dX4_sense_30 ?_
  refine sk_istore F dX4_sense_33 (by decide) rfl ?_
  refine sk_aload F dX4_sense_35 1 rfl ?_
  refine sk_iload_n F dX4_sense_37 rfl 5 rfl ?_
  refine sk_p2 (ref := "TunnelWatch$Section") (ty := .int) F hK (kC_s (aX4_tubeAt c10) hn (inb_lt h13)) iX4_sense_2 0 (by decide) (by decide +kernel) (fun _ h9 => h9) rfl (by decide +kernel) rfl rfl rfl dX4_sense_38 ?_
  refine sk_iload F dX4_sense_41 0 rfl ?_
  exact sk_xiret F hK hr hlocks (by decide) (by decide) dX4_sense_43
theorem tX4_sense {l : Launch} {D : va_G} {A : Nat → Prop} {cI cS cF cZ cJ : ClassId} {ad : Nat → Nat} {X : va_W} {n : Nat} (hn : n ≤ 24) (hl : l.stackTraces = false) {p1 : Int32} {p2 : Int32} {p3 : Int32} (v : Mem) : XI l yX4_sense wsX4_sense rmX4_sense 3 18 D A (ty5 cI cS cF cZ cJ) (Wc cI cS cF ad n X) [.ref (ad 0), .int p1, .int p2, .int p3] v (fX4_sense n p1 p2 p3 v) :=
  XI_of (cc := cX4_sense) (maxL := 6) (ret := (some .int)) (by decide) rfl (Nat.le_of_ble_eq_true rfl) (fun p e s m below meth c G => kX4_sense_0 G hn hl v)
def rmX4_deafen : Room := { frames := 9, cells := 2, slots := 12, locals := 151 }
theorem iX4_deafen_2 : ∀ w ∈ wsX20, w ∈ wsX4_deafen := by decide +kernel
theorem iX4_deafen_3 : ∀ w ∈ wsX30, w ∈ wsX4_deafen := by decide +kernel
def fX4_deafen (n : Nat) (p1 : Int32) (p2 : Int32) (p3 : Int32) (v : Mem) : Option ((Int32 ⊕ String) × Mem) := xd (fX4_needSection p1 p2 v) fun _ v2 => bd (fX4_tubeAt p1 v2) fun x6 v5 => gd (inb p2 n) (gd (bo p3) (gd (bo (v5 (x6 + 17 + p2.toNatClampNeg) 1)) (some (.inl (v5 (x6 + 17 + p2.toNatClampNeg) 1), up2 v5 (x6 + 17 + p2.toNatClampNeg) 1 p3))))
set_option maxRecDepth 100000 in
set_option maxHeartbeats 4000000 in
theorem kX4_deafen_0 {p : Program} {l : Launch} {e : Env} {s : State} {m : MethodId} {args : Array Value} {below : List Frame} {meth : Method} {c : Code} {D : va_G} {A : Nat → Prop} {cI cS cF cZ cJ : ClassId} {ad : Nat → Nat} {X : va_W} {n : Nat} {p1 : Int32} {p2 : Int32} {p3 : Int32} (G : cxx p s m args meth c cX4_deafen 6 wsX4_deafen RX4 D (ty5 cI cS cF cZ cJ) A (some .boolean)) (hn : n ≤ 24) (hl : l.stackTraces = false) (v : Mem) : sk p l e rmX4_deafen s m args below meth c D A 6 0 0 (fun res => vx_MQ below (xi D A (ty5 cI cS cF cZ cJ) (Wc cI cS cF ad n X) res) (xc D A (ty5 cI cS cF cZ cJ) (Wc cI cS cF ad n X) res) args s 2 12 A) (Wc cI cS cF ad n X v) 0 [(0, .ref (ad 0)), (1, .int p1), (2, .int p2), (3, .int p3)] [] (fX4_deafen n p1 p2 p3 v) := by
  obtain ⟨F, hK, hA, hZ, hr, hlocks, hno⟩ := G
  refine sk_eq (K' := xd (fX4_needSection p1 p2 v) fun _ v2 => bd (fX4_tubeAt p1 v2) fun x6 v5 => gd (inb p2 n) (gd (bo p3) (gd (bo (v5 (x6 + 17 + p2.toNatClampNeg) 1)) (some (.inl (v5 (x6 + 17 + p2.toNatClampNeg) 1), up2 v5 (x6 + 17 + p2.toNatClampNeg) 1 p3))))) rfl ?_
  refine sk_aload_n F dX4_deafen_0 rfl 0 rfl ?_
  refine sk_iload_n F dX4_deafen_1 rfl 1 rfl ?_
  refine sk_iload_n F dX4_deafen_2 rfl 2 rfl ?_
  refine sk_xVv (As := [.int p1, .int p2]) (rest := []) F hK hA hZ hlocks hno _ (tX4_needSection hn hl _) (cwV 2 F.2.2.2.2 gX4_deafen_X4_needSection rfl rfl rfl (by decide +kernel) ⟨Nat.le_of_ble_eq_true rfl, Nat.le_of_ble_eq_true rfl⟩) (rc4 hK (kC_0 n)) rfl rfl (Nat.le_of_ble_eq_true rfl) (by decide) (by decide) (by decide) dX4_deafen_3 (fun v2 c1 => ?_)
  refine sk_aload_n F dX4_deafen_6 rfl 0 rfl ?_
  refine sk_iload_n F dX4_deafen_7 rfl 1 rfl ?_
  refine sk_callVr (As := [.int p1]) (rest := []) F hK hA hZ _ (tX4_tubeAt hn _) (cwV 1 F.2.2.2.2 gX4_deafen_X4_tubeAt rfl rfl rfl (by decide +kernel) ⟨Nat.le_of_ble_eq_true rfl, Nat.le_of_ble_eq_true rfl⟩) (rc4 hK (kC_0 n)) rfl rfl (Nat.le_of_ble_eq_true rfl) (by decide) dX4_deafen_8 (fun x6 v5 c4 => ?_)
  refine sk_g3 (ref := "TunnelWatch$Tube") F hK (aX4_tubeAt c4) iX4_deafen_3 0 (by decide) (by decide +kernel) (fun _ h9 => h9) rfl dX4_deafen_11 ?_
  refine sk_iload_n F dX4_deafen_14 rfl 2 rfl ?_
  refine sk_aldS F hK (aX4_tubeAt c4) dX4_deafen_15 (fun h7 => ?_)
  refine sk_astore F dX4_deafen_16 (by decide) rfl ?_
  refine sk_aload F dX4_deafen_18 0 rfl ?_
  refine sk_g2 (ref := "TunnelWatch$Section") F hK (kC_s (aX4_tubeAt c4) hn (inb_lt h7)) iX4_deafen_2 1 (by decide) (by decide +kernel) (fun _ h9 => h9) rfl dX4_deafen_20 ?_
  refine sk_istore F dX4_deafen_23 (by decide) rfl ?_
  refine sk_aload F dX4_deafen_25 1 rfl ?_
  refine sk_iload_n F dX4_deafen_27 rfl 5 rfl ?_
  refine sk_gd (fun h8 => ?_)
  refine sk_p2 (ref := "TunnelWatch$Section") (ty := .boolean) F hK (kC_s (aX4_tubeAt c4) hn (inb_lt h7)) iX4_deafen_2 1 (by decide) (by decide +kernel) (fun _ h9 => h9) rfl (by decide +kernel) (bo_n h8) (bo_f h8) rfl dX4_deafen_28 ?_
  refine sk_iload F dX4_deafen_31 0 rfl ?_
  exact sk_xzret F hK hr hlocks (by decide) (by decide) dX4_deafen_33
theorem tX4_deafen {l : Launch} {D : va_G} {A : Nat → Prop} {cI cS cF cZ cJ : ClassId} {ad : Nat → Nat} {X : va_W} {n : Nat} (hn : n ≤ 24) (hl : l.stackTraces = false) {p1 : Int32} {p2 : Int32} {p3 : Int32} (v : Mem) : XI l yX4_deafen wsX4_deafen rmX4_deafen 2 12 D A (ty5 cI cS cF cZ cJ) (Wc cI cS cF ad n X) [.ref (ad 0), .int p1, .int p2, .int p3] v (fX4_deafen n p1 p2 p3 v) :=
  XI_of (cc := cX4_deafen) (maxL := 6) (ret := (some .boolean)) (by decide) rfl (Nat.le_of_ble_eq_true rfl) (fun p e s m below meth c G => kX4_deafen_0 G hn hl v)
def rmX4_pull : Room := { frames := 9, cells := 2, slots := 12, locals := 151 }
theorem iX4_pull_2 : ∀ w ∈ wsX20, w ∈ wsX4_pull := by decide +kernel
theorem iX4_pull_3 : ∀ w ∈ wsX30, w ∈ wsX4_pull := by decide +kernel
def fX4_pull_29 (n : Nat) (p1 : Int32) (p2 : Int32) (v : Mem) (r3 : Nat) (s0 : Int32) : Option ((Int32 ⊕ String) × Mem) := gd (bo s0) (some (.inl s0, up2 v r3 2 1))
set_option maxRecDepth 100000 in
set_option maxHeartbeats 4000000 in
theorem kX4_pull_29 {p : Program} {l : Launch} {e : Env} {s : State} {m : MethodId} {args : Array Value} {below : List Frame} {meth : Method} {c : Code} {D : va_G} {A : Nat → Prop} {cI cS cF cZ cJ : ClassId} {ad : Nat → Nat} {X : va_W} {n : Nat} {p1 : Int32} {p2 : Int32} (G : cxx p s m args meth c cX4_pull 5 wsX4_pull RX4 D (ty5 cI cS cF cZ cJ) A (some .boolean)) (hn : n ≤ 24) (hl : l.stackTraces = false) (v : Mem) (r3 : Nat) (s0 : Int32) (hr3 : kC n r3 = 2) : sk p l e rmX4_pull s m args below meth c D A 5 2 12 (fun res => vx_MQ below (xi D A (ty5 cI cS cF cZ cJ) (Wc cI cS cF ad n X) res) (xc D A (ty5 cI cS cF cZ cJ) (Wc cI cS cF ad n X) res) args s 2 12 A) (Wc cI cS cF ad n X v) 29 [(3, .ref (ad r3))] [.int s0] (fX4_pull_29 n p1 p2 v r3 s0) := by
  obtain ⟨F, hK, hA, hZ, hr, hlocks, hno⟩ := G
  refine sk_eq (K' := gd (bo s0) (some (.inl s0, up2 v r3 2 1))) rfl ?_
  refine sk_istore F dX4_pull_29 (by decide) rfl ?_
  refine sk_aload_n F dX4_pull_31 rfl 1 rfl ?_
  refine sk_iconst (x := 1) F dX4_pull_32 (by decide) ?_
  refine sk_p2 (ref := "TunnelWatch$Section") (ty := .boolean) F hK hr3 iX4_pull_2 2 (by decide) (by decide +kernel) (fun _ h9 => h9) rfl (by decide +kernel) rfl rfl rfl dX4_pull_33 ?_
  refine sk_iload F dX4_pull_36 0 rfl ?_
  exact sk_xzret F hK hr hlocks (by decide) (by decide) dX4_pull_38
def fX4_pull (n : Nat) (p1 : Int32) (p2 : Int32) (v : Mem) : Option ((Int32 ⊕ String) × Mem) := xd (fX4_needSection p1 p2 v) fun _ v2 => bd (fX4_tubeAt p1 v2) fun x6 v5 => gd (inb p2 n) (if (v5 (x6 + 17 + p2.toNatClampNeg) 2) = 0 then fX4_pull_29 n p1 p2 v5 (x6 + 17 + p2.toNatClampNeg) 1 else fX4_pull_29 n p1 p2 v5 (x6 + 17 + p2.toNatClampNeg) 0)
set_option maxRecDepth 100000 in
set_option maxHeartbeats 4000000 in
theorem kX4_pull_0 {p : Program} {l : Launch} {e : Env} {s : State} {m : MethodId} {args : Array Value} {below : List Frame} {meth : Method} {c : Code} {D : va_G} {A : Nat → Prop} {cI cS cF cZ cJ : ClassId} {ad : Nat → Nat} {X : va_W} {n : Nat} {p1 : Int32} {p2 : Int32} (G : cxx p s m args meth c cX4_pull 5 wsX4_pull RX4 D (ty5 cI cS cF cZ cJ) A (some .boolean)) (hn : n ≤ 24) (hl : l.stackTraces = false) (v : Mem) : sk p l e rmX4_pull s m args below meth c D A 5 0 0 (fun res => vx_MQ below (xi D A (ty5 cI cS cF cZ cJ) (Wc cI cS cF ad n X) res) (xc D A (ty5 cI cS cF cZ cJ) (Wc cI cS cF ad n X) res) args s 2 12 A) (Wc cI cS cF ad n X v) 0 [(0, .ref (ad 0)), (1, .int p1), (2, .int p2)] [] (fX4_pull n p1 p2 v) := by
  obtain ⟨F, hK, hA, hZ, hr, hlocks, hno⟩ := G
  refine sk_eq (K' := xd (fX4_needSection p1 p2 v) fun _ v2 => bd (fX4_tubeAt p1 v2) fun x6 v5 => gd (inb p2 n) (if (v5 (x6 + 17 + p2.toNatClampNeg) 2) = 0 then fX4_pull_29 n p1 p2 v5 (x6 + 17 + p2.toNatClampNeg) 1 else fX4_pull_29 n p1 p2 v5 (x6 + 17 + p2.toNatClampNeg) 0)) rfl ?_
  refine sk_aload_n F dX4_pull_0 rfl 0 rfl ?_
  refine sk_iload_n F dX4_pull_1 rfl 1 rfl ?_
  refine sk_iload_n F dX4_pull_2 rfl 2 rfl ?_
  refine sk_xVv (As := [.int p1, .int p2]) (rest := []) F hK hA hZ hlocks hno _ (tX4_needSection hn hl _) (cwV 2 F.2.2.2.2 gX4_pull_X4_needSection rfl rfl rfl (by decide +kernel) ⟨Nat.le_of_ble_eq_true rfl, Nat.le_of_ble_eq_true rfl⟩) (rc4 hK (kC_0 n)) rfl rfl (Nat.le_of_ble_eq_true rfl) (by decide) (by decide) (by decide) dX4_pull_3 (fun v2 c1 => ?_)
  refine sk_aload_n F dX4_pull_6 rfl 0 rfl ?_
  refine sk_iload_n F dX4_pull_7 rfl 1 rfl ?_
  refine sk_callVr (As := [.int p1]) (rest := []) F hK hA hZ _ (tX4_tubeAt hn _) (cwV 1 F.2.2.2.2 gX4_pull_X4_tubeAt rfl rfl rfl (by decide +kernel) ⟨Nat.le_of_ble_eq_true rfl, Nat.le_of_ble_eq_true rfl⟩) (rc4 hK (kC_0 n)) rfl rfl (Nat.le_of_ble_eq_true rfl) (by decide) dX4_pull_8 (fun x6 v5 c4 => ?_)
  refine sk_g3 (ref := "TunnelWatch$Tube") F hK (aX4_tubeAt c4) iX4_pull_3 0 (by decide) (by decide +kernel) (fun _ h9 => h9) rfl dX4_pull_11 ?_
  refine sk_iload_n F dX4_pull_14 rfl 2 rfl ?_
  refine sk_aldS F hK (aX4_tubeAt c4) dX4_pull_15 (fun h7 => ?_)
  refine sk_astore_n F dX4_pull_16 rfl (by decide) rfl ?_
  refine sk_aload_n F dX4_pull_17 rfl 0 rfl ?_
  refine sk_g2 (ref := "TunnelWatch$Section") F hK (kC_s (aX4_tubeAt c4) hn (inb_lt h7)) iX4_pull_2 2 (by decide) (by decide +kernel) (fun _ h9 => h9) rfl dX4_pull_18 ?_
  refine sk_if_ne F 28 dX4_pull_21 (by decide) (fun h8 => ?_) (fun h8 => ?_)
  · refine sk_iconst (x := 0) F dX4_pull_28 (by decide) ?_
    exact sk_lv [0] rfl (kX4_pull_29 ⟨F, hK, hA, hZ, hr, hlocks, hno⟩ hn hl v5 (x6 + 17 + p2.toNatClampNeg) 0 (kC_s (aX4_tubeAt c4) hn (inb_lt h7)))
  · refine sk_iconst (x := 1) F dX4_pull_24 (by decide) ?_
    refine sk_goto F 29 dX4_pull_25 (by decide) ?_
    exact sk_lv [0] rfl (kX4_pull_29 ⟨F, hK, hA, hZ, hr, hlocks, hno⟩ hn hl v5 (x6 + 17 + p2.toNatClampNeg) 1 (kC_s (aX4_tubeAt c4) hn (inb_lt h7)))
theorem tX4_pull {l : Launch} {D : va_G} {A : Nat → Prop} {cI cS cF cZ cJ : ClassId} {ad : Nat → Nat} {X : va_W} {n : Nat} (hn : n ≤ 24) (hl : l.stackTraces = false) {p1 : Int32} {p2 : Int32} (v : Mem) : XI l yX4_pull wsX4_pull rmX4_pull 2 12 D A (ty5 cI cS cF cZ cJ) (Wc cI cS cF ad n X) [.ref (ad 0), .int p1, .int p2] v (fX4_pull n p1 p2 v) :=
  XI_of (cc := cX4_pull) (maxL := 5) (ret := (some .boolean)) (by decide) rfl (Nat.le_of_ble_eq_true rfl) (fun p e s m below meth c G => kX4_pull_0 G hn hl v)
def rmX4_confirm : Room := { frames := 8, cells := 1, slots := 6, locals := 129 }
def fX4_confirm (n : Nat) (p1 : Int32) (v : Mem) : Option ((Int32 ⊕ String) × Mem) := xd (fX4_needTube p1 v) fun _ v2 => bd (fX4_tubeAt p1 v2) fun x6 v5 => bd (fX3_pullWhereSuspected n x6 v5) fun x9 v8 => gd (bo x9) (some (.inl x9, v8))
set_option maxRecDepth 100000 in
set_option maxHeartbeats 4000000 in
theorem kX4_confirm_0 {p : Program} {l : Launch} {e : Env} {s : State} {m : MethodId} {args : Array Value} {below : List Frame} {meth : Method} {c : Code} {D : va_G} {A : Nat → Prop} {cI cS cF cZ cJ : ClassId} {ad : Nat → Nat} {X : va_W} {n : Nat} {p1 : Int32} (G : cxx p s m args meth c cX4_confirm 2 wsX4_confirm RX4 D (ty5 cI cS cF cZ cJ) A (some .boolean)) (hn : n ≤ 24) (hl : l.stackTraces = false) (v : Mem) : sk p l e rmX4_confirm s m args below meth c D A 2 0 0 (fun res => vx_MQ below (xi D A (ty5 cI cS cF cZ cJ) (Wc cI cS cF ad n X) res) (xc D A (ty5 cI cS cF cZ cJ) (Wc cI cS cF ad n X) res) args s 1 6 A) (Wc cI cS cF ad n X v) 0 [(0, .ref (ad 0)), (1, .int p1)] [] (fX4_confirm n p1 v) := by
  obtain ⟨F, hK, hA, hZ, hr, hlocks, hno⟩ := G
  refine sk_eq (K' := xd (fX4_needTube p1 v) fun _ v2 => bd (fX4_tubeAt p1 v2) fun x6 v5 => bd (fX3_pullWhereSuspected n x6 v5) fun x9 v8 => gd (bo x9) (some (.inl x9, v8))) rfl ?_
  refine sk_iload_n F dX4_confirm_0 rfl 1 rfl ?_
  refine sk_xSv (As := [.int p1]) (rest := []) F hK hA hZ hlocks hno _ (tX4_needTube hn hl _) (va_cwS 1 F.2.2.2.2 gX4_confirm_X4_needTube rfl rfl rfl (by decide +kernel) ⟨Nat.le_of_ble_eq_true rfl, Nat.le_of_ble_eq_true rfl⟩) rfl rfl (Nat.le_of_ble_eq_true rfl) (by decide) (by decide) (by decide) dX4_confirm_1 (fun v2 c1 => ?_)
  refine sk_aload_n F dX4_confirm_4 rfl 0 rfl ?_
  refine sk_iload_n F dX4_confirm_5 rfl 1 rfl ?_
  refine sk_callVr (As := [.int p1]) (rest := []) F hK hA hZ _ (tX4_tubeAt hn _) (cwV 1 F.2.2.2.2 gX4_confirm_X4_tubeAt rfl rfl rfl (by decide +kernel) ⟨Nat.le_of_ble_eq_true rfl, Nat.le_of_ble_eq_true rfl⟩) (rc4 hK (kC_0 n)) rfl rfl (Nat.le_of_ble_eq_true rfl) (by decide) dX4_confirm_6 (fun x6 v5 c4 => ?_)
  refine sk_callVi (As := []) (rest := []) F hK hA hZ _ (tX3_pullWhereSuspected hn (aX4_tubeAt c4) _) (cwV 0 F.2.2.2.2 gX4_confirm_X3_pullWhereSuspected rfl rfl rfl (by decide +kernel) ⟨Nat.le_of_ble_eq_true rfl, Nat.le_of_ble_eq_true rfl⟩) (rc3 hK (aX4_tubeAt c4)) rfl rfl (Nat.le_of_ble_eq_true rfl) (by decide) dX4_confirm_9 (fun x9 v8 c7 => ?_)
  exact sk_xzret F hK hr hlocks (by decide) (by decide) dX4_confirm_12
theorem tX4_confirm {l : Launch} {D : va_G} {A : Nat → Prop} {cI cS cF cZ cJ : ClassId} {ad : Nat → Nat} {X : va_W} {n : Nat} (hn : n ≤ 24) (hl : l.stackTraces = false) {p1 : Int32} (v : Mem) : XI l yX4_confirm wsX4_confirm rmX4_confirm 1 6 D A (ty5 cI cS cF cZ cJ) (Wc cI cS cF ad n X) [.ref (ad 0), .int p1] v (fX4_confirm n p1 v) :=
  XI_of (cc := cX4_confirm) (maxL := 2) (ret := (some .boolean)) (by decide) rfl (Nat.le_of_ble_eq_true rfl) (fun p e s m below meth c G => kX4_confirm_0 G hn hl v)
def rmX4_reset : Room := { frames := 8, cells := 1, slots := 6, locals := 129 }
def fX4_reset (n : Nat) (p1 : Int32) (v : Mem) : Option ((Int32 ⊕ String) × Mem) := xd (fX4_needTube p1 v) fun _ v2 => bd (fX4_tubeAt p1 v2) fun x6 v5 => bd (fX3_endFire n x6 v5) fun x9 v8 => gd (bo x9) (some (.inl x9, v8))
set_option maxRecDepth 100000 in
set_option maxHeartbeats 4000000 in
theorem kX4_reset_0 {p : Program} {l : Launch} {e : Env} {s : State} {m : MethodId} {args : Array Value} {below : List Frame} {meth : Method} {c : Code} {D : va_G} {A : Nat → Prop} {cI cS cF cZ cJ : ClassId} {ad : Nat → Nat} {X : va_W} {n : Nat} {p1 : Int32} (G : cxx p s m args meth c cX4_reset 2 wsX4_reset RX4 D (ty5 cI cS cF cZ cJ) A (some .boolean)) (hn : n ≤ 24) (hl : l.stackTraces = false) (v : Mem) : sk p l e rmX4_reset s m args below meth c D A 2 0 0 (fun res => vx_MQ below (xi D A (ty5 cI cS cF cZ cJ) (Wc cI cS cF ad n X) res) (xc D A (ty5 cI cS cF cZ cJ) (Wc cI cS cF ad n X) res) args s 1 6 A) (Wc cI cS cF ad n X v) 0 [(0, .ref (ad 0)), (1, .int p1)] [] (fX4_reset n p1 v) := by
  obtain ⟨F, hK, hA, hZ, hr, hlocks, hno⟩ := G
  refine sk_eq (K' := xd (fX4_needTube p1 v) fun _ v2 => bd (fX4_tubeAt p1 v2) fun x6 v5 => bd (fX3_endFire n x6 v5) fun x9 v8 => gd (bo x9) (some (.inl x9, v8))) rfl ?_
  refine sk_iload_n F dX4_reset_0 rfl 1 rfl ?_
  refine sk_xSv (As := [.int p1]) (rest := []) F hK hA hZ hlocks hno _ (tX4_needTube hn hl _) (va_cwS 1 F.2.2.2.2 gX4_reset_X4_needTube rfl rfl rfl (by decide +kernel) ⟨Nat.le_of_ble_eq_true rfl, Nat.le_of_ble_eq_true rfl⟩) rfl rfl (Nat.le_of_ble_eq_true rfl) (by decide) (by decide) (by decide) dX4_reset_1 (fun v2 c1 => ?_)
  refine sk_aload_n F dX4_reset_4 rfl 0 rfl ?_
  refine sk_iload_n F dX4_reset_5 rfl 1 rfl ?_
  refine sk_callVr (As := [.int p1]) (rest := []) F hK hA hZ _ (tX4_tubeAt hn _) (cwV 1 F.2.2.2.2 gX4_reset_X4_tubeAt rfl rfl rfl (by decide +kernel) ⟨Nat.le_of_ble_eq_true rfl, Nat.le_of_ble_eq_true rfl⟩) (rc4 hK (kC_0 n)) rfl rfl (Nat.le_of_ble_eq_true rfl) (by decide) dX4_reset_6 (fun x6 v5 c4 => ?_)
  refine sk_callVi (As := []) (rest := []) F hK hA hZ _ (tX3_endFire hn (aX4_tubeAt c4) _) (cwV 0 F.2.2.2.2 gX4_reset_X3_endFire rfl rfl rfl (by decide +kernel) ⟨Nat.le_of_ble_eq_true rfl, Nat.le_of_ble_eq_true rfl⟩) (rc3 hK (aX4_tubeAt c4)) rfl rfl (Nat.le_of_ble_eq_true rfl) (by decide) dX4_reset_9 (fun x9 v8 c7 => ?_)
  exact sk_xzret F hK hr hlocks (by decide) (by decide) dX4_reset_12
theorem tX4_reset {l : Launch} {D : va_G} {A : Nat → Prop} {cI cS cF cZ cJ : ClassId} {ad : Nat → Nat} {X : va_W} {n : Nat} (hn : n ≤ 24) (hl : l.stackTraces = false) {p1 : Int32} (v : Mem) : XI l yX4_reset wsX4_reset rmX4_reset 1 6 D A (ty5 cI cS cF cZ cJ) (Wc cI cS cF ad n X) [.ref (ad 0), .int p1] v (fX4_reset n p1 v) :=
  XI_of (cc := cX4_reset) (maxL := 2) (ret := (some .boolean)) (by decide) rfl (Nat.le_of_ble_eq_true rfl) (fun p e s m below meth c G => kX4_reset_0 G hn hl v)
def rmX4_wish : Room := { frames := 8, cells := 2, slots := 12, locals := 129 }
theorem iX4_wish_3 : ∀ w ∈ wsX30, w ∈ wsX4_wish := by decide +kernel
def fX4_wish (p1 : Int32) (p2 : Int32) (p3 : Int32) (v : Mem) : Option ((Unit ⊕ String) × Mem) := xd (fX4_needTube p1 v) fun _ v2 => bd (fX4_isWithin p3 0 12 v2) fun x6 v5 => xd (fX4_need x6 v5) fun _ v8 => bd (fX4_tubeAt p1 v8) fun x12 v11 => bd (fX4_directionOf p2 v11) fun x15 v14 => some (.inl (), up2 (up2 v14 x12 6 x15) x12 7 p3)
set_option maxRecDepth 100000 in
set_option maxHeartbeats 4000000 in
theorem kX4_wish_0 {p : Program} {l : Launch} {e : Env} {s : State} {m : MethodId} {args : Array Value} {below : List Frame} {meth : Method} {c : Code} {D : va_G} {A : Nat → Prop} {cI cS cF cZ cJ : ClassId} {ad : Nat → Nat} {X : va_W} {n : Nat} {p1 : Int32} {p2 : Int32} {p3 : Int32} (G : cxx p s m args meth c cX4_wish 5 wsX4_wish RX4 D (ty5 cI cS cF cZ cJ) A none) (hn : n ≤ 24) (hl : l.stackTraces = false) (v : Mem) : sk p l e rmX4_wish s m args below meth c D A 5 0 0 (fun res => vx_MQ below (xv D A (ty5 cI cS cF cZ cJ) (Wc cI cS cF ad n X) res) (xc D A (ty5 cI cS cF cZ cJ) (Wc cI cS cF ad n X) res) args s 2 12 A) (Wc cI cS cF ad n X v) 0 [(0, .ref (ad 0)), (1, .int p1), (2, .int p2), (3, .int p3)] [] (fX4_wish p1 p2 p3 v) := by
  obtain ⟨F, hK, hA, hZ, hr, hlocks, hno⟩ := G
  refine sk_eq (K' := xd (fX4_needTube p1 v) fun _ v2 => bd (fX4_isWithin p3 0 12 v2) fun x6 v5 => xd (fX4_need x6 v5) fun _ v8 => bd (fX4_tubeAt p1 v8) fun x12 v11 => bd (fX4_directionOf p2 v11) fun x15 v14 => some (.inl (), up2 (up2 v14 x12 6 x15) x12 7 p3)) rfl ?_
  refine sk_iload_n F dX4_wish_0 rfl 1 rfl ?_
  refine sk_xSv (As := [.int p1]) (rest := []) F hK hA hZ hlocks hno _ (tX4_needTube hn hl _) (va_cwS 1 F.2.2.2.2 gX4_wish_X4_needTube rfl rfl rfl (by decide +kernel) ⟨Nat.le_of_ble_eq_true rfl, Nat.le_of_ble_eq_true rfl⟩) rfl rfl (Nat.le_of_ble_eq_true rfl) (by decide) (by decide) (by decide) dX4_wish_1 (fun v2 c1 => ?_)
  refine sk_iload_n F dX4_wish_4 rfl 3 rfl ?_
  refine sk_iconst (x := 0) F dX4_wish_5 (by decide) ?_
  refine sk_bipush (x := 12) F dX4_wish_6 (by decide) ?_
  refine sk_callSi (As := [.int p3, .int 0, .int 12]) (rest := []) F hK hA hZ _ (tX4_isWithin hn _) (va_cwS 3 F.2.2.2.2 gX4_wish_X4_isWithin rfl rfl rfl (by decide +kernel) ⟨Nat.le_of_ble_eq_true rfl, Nat.le_of_ble_eq_true rfl⟩) rfl rfl (Nat.le_of_ble_eq_true rfl) (by decide) dX4_wish_8 (fun x6 v5 c4 => ?_)
  refine sk_xSv (As := [.int x6]) (rest := []) F hK hA hZ hlocks hno _ (tX4_need hn hl _) (va_cwS 1 F.2.2.2.2 gX4_wish_X4_need rfl rfl rfl (by decide +kernel) ⟨Nat.le_of_ble_eq_true rfl, Nat.le_of_ble_eq_true rfl⟩) rfl rfl (Nat.le_of_ble_eq_true rfl) (by decide) (by decide) (by decide) dX4_wish_11 (fun v8 c7 => ?_)
  refine sk_aload_n F dX4_wish_14 rfl 0 rfl ?_
  refine sk_iload_n F dX4_wish_15 rfl 1 rfl ?_
  refine sk_callVr (As := [.int p1]) (rest := []) F hK hA hZ _ (tX4_tubeAt hn _) (cwV 1 F.2.2.2.2 gX4_wish_X4_tubeAt rfl rfl rfl (by decide +kernel) ⟨Nat.le_of_ble_eq_true rfl, Nat.le_of_ble_eq_true rfl⟩) (rc4 hK (kC_0 n)) rfl rfl (Nat.le_of_ble_eq_true rfl) (by decide) dX4_wish_16 (fun x12 v11 c10 => ?_)
  refine sk_astore F dX4_wish_19 (by decide) rfl ?_
  refine sk_aload F dX4_wish_21 0 rfl ?_
  refine sk_iload_n F dX4_wish_23 rfl 3 rfl ?_
  refine sk_callSi (As := [.int p2]) (rest := [.ref (ad x12)]) F hK hA hZ _ (tX4_directionOf hn _) (va_cwS 1 F.2.2.2.2 gX4_wish_X4_directionOf rfl rfl rfl (by decide +kernel) ⟨Nat.le_of_ble_eq_true rfl, Nat.le_of_ble_eq_true rfl⟩) rfl rfl (Nat.le_of_ble_eq_true rfl) (by decide) dX4_wish_24 (fun x15 v14 c13 => ?_)
  refine sk_p3 (ref := "TunnelWatch$Tube") (ty := .int) F hK (aX4_tubeAt c10) iX4_wish_3 6 (by decide) (by decide +kernel) (fun _ h9 => h9) rfl (by decide +kernel) rfl rfl rfl dX4_wish_27 ?_
  refine sk_aload F dX4_wish_30 0 rfl ?_
  refine sk_iload_n F dX4_wish_32 rfl 4 rfl ?_
  refine sk_p3 (ref := "TunnelWatch$Tube") (ty := .int) F hK (aX4_tubeAt c10) iX4_wish_3 7 (by decide) (by decide +kernel) (fun _ h9 => h9) rfl (by decide +kernel) rfl rfl rfl dX4_wish_33 ?_
  exact sk_xvret F hK hr hlocks (by decide) (by decide) dX4_wish_36
theorem tX4_wish {l : Launch} {D : va_G} {A : Nat → Prop} {cI cS cF cZ cJ : ClassId} {ad : Nat → Nat} {X : va_W} {n : Nat} (hn : n ≤ 24) (hl : l.stackTraces = false) {p1 : Int32} {p2 : Int32} {p3 : Int32} (v : Mem) : XV l yX4_wish wsX4_wish rmX4_wish 2 12 D A (ty5 cI cS cF cZ cJ) (Wc cI cS cF ad n X) [.ref (ad 0), .int p1, .int p2, .int p3] v (fX4_wish p1 p2 p3 v) :=
  XV_of (cc := cX4_wish) (maxL := 5) (ret := none) (by decide) rfl (Nat.le_of_ble_eq_true rfl) (fun p e s m below meth c G => kX4_wish_0 G hn hl v)
