def rmX5_thrown : Room := { frames := 0, cells := 0, slots := 0, locals := 0 }
theorem iX5_thrown_5 : ∀ w ∈ wsX50, w ∈ wsX5_thrown := by decide +kernel
def fX5_thrown (v : Mem) : Option (Int32 × Mem) := some (v 0 0, v)
set_option maxRecDepth 100000 in
set_option maxHeartbeats 4000000 in
theorem kX5_thrown_0 {p : Program} {l : Launch} {e : Env} {s : State} {m : MethodId} {args : Array Value} {below : List Frame} {meth : Method} {c : Code} {D : va_G} {A : Nat → Prop} {cI cS cF cZ cJ : ClassId} {ad : Nat → Nat} {X : va_W} (G : cx p s m args meth c cX5_thrown 1 wsX5_thrown RX5 D (ty5 cI cS cF cZ cJ) A (some .int)) (v : Mem) : sk p l e rmX5_thrown s m args below meth c D A 1 0 0 (fun res => MQ below (qi D A (ty5 cI cS cF cZ cJ) (Wr cI cZ ad X) res) args s 0 0 A) (Wr cI cZ ad X v) 0 [(0, .ref (ad 0))] [] (fX5_thrown v) := by
  obtain ⟨F, hK, hA, hZ, hr, hlocks⟩ := G
  refine sk_eq (K' := some (v 0 0, v)) rfl ?_
  refine sk_aload_n F dX5_thrown_0 rfl 0 rfl ?_
  refine sk_get (ref := "TunnelWatchModel") F hK (Lr_mem (by decide)) (shR_0 _) rfl iX5_thrown_5 0 (by decide) (by decide +kernel) (fun _ h9 => h9) rfl dX5_thrown_1 ?_
  exact sk_iret F hK hr hlocks dX5_thrown_4
theorem tX5_thrown {l : Launch} {D : va_G} {A : Nat → Prop} {cI cS cF cZ cJ : ClassId} {ad : Nat → Nat} {X : va_W} (v : Mem) : CI l yX5_thrown wsX5_thrown rmX5_thrown D A (ty5 cI cS cF cZ cJ) (Wr cI cZ ad X) [.ref (ad 0)] v (fX5_thrown v) :=
  CI_of (cc := cX5_thrown) (maxL := 1) (ret := (some .int)) (by decide) rfl (Nat.le_of_ble_eq_true rfl) (fun p e s m below meth c G => kX5_thrown_0 G v)
def rmX5_goes : Room := { frames := 0, cells := 0, slots := 0, locals := 0 }
theorem iX5_goes_5 : ∀ w ∈ wsX50, w ∈ wsX5_goes := by decide +kernel
def fX5_goes_18 (p1 : Int32) (p2 : Int32) (v : Mem) (s0 : Int32) : Option (Int32 × Mem) := if ((up2 v 0 0 s0) 0 0) = 0 then some (1, up2 v 0 0 s0) else some (0, up2 v 0 0 s0)
set_option maxRecDepth 100000 in
set_option maxHeartbeats 4000000 in
theorem kX5_goes_18 {p : Program} {l : Launch} {e : Env} {s : State} {m : MethodId} {args : Array Value} {below : List Frame} {meth : Method} {c : Code} {D : va_G} {A : Nat → Prop} {cI cS cF cZ cJ : ClassId} {ad : Nat → Nat} {X : va_W} {p1 : Int32} {p2 : Int32} (G : cx p s m args meth c cX5_goes 3 wsX5_goes RX5 D (ty5 cI cS cF cZ cJ) A (some .boolean)) (v : Mem) (s0 : Int32) : sk p l e rmX5_goes s m args below meth c D A 3 0 0 (fun res => MQ below (qi D A (ty5 cI cS cF cZ cJ) (Wr cI cZ ad X) res) args s 0 0 A) (Wr cI cZ ad X v) 18 [(0, .ref (ad 0))] [.int s0, .ref (ad 0)] (fX5_goes_18 p1 p2 v s0) := by
  obtain ⟨F, hK, hA, hZ, hr, hlocks⟩ := G
  refine sk_eq (K' := if ((up2 v 0 0 s0) 0 0) = 0 then some (1, up2 v 0 0 s0) else some (0, up2 v 0 0 s0)) rfl ?_
  refine sk_put (ref := "TunnelWatchModel") (fs := fun r => fs5 ad r) (ty := .int) F hK Lr_nd (Lr_mem (by decide)) shR_0 rfl iX5_goes_5 tyX5 tyX5_ok nmX5 0 (by decide) (by decide +kernel) (fun _ h9 => h9) rfl (by decide +kernel) rfl rfl (Nat.le_of_ble_eq_true rfl) rfl dX5_goes_18 ?_
  refine sk_aload_n F dX5_goes_21 rfl 0 rfl ?_
  refine sk_get (ref := "TunnelWatchModel") F hK (Lr_mem (by decide)) (shR_0 _) rfl iX5_goes_5 0 (by decide) (by decide +kernel) (fun _ h9 => h9) rfl dX5_goes_22 ?_
  refine sk_if_ne F 32 dX5_goes_25 (by decide) (fun h3 => ?_) (fun h3 => ?_)
  · refine sk_iconst (x := 0) F dX5_goes_32 (by decide) ?_
    exact sk_zretc F hK hr hlocks (by decide) dX5_goes_33
  · refine sk_iconst (x := 1) F dX5_goes_28 (by decide) ?_
    refine sk_goto F 33 dX5_goes_29 (by decide) ?_
    exact sk_zretc F hK hr hlocks (by decide) dX5_goes_33
def fX5_goes (p1 : Int32) (p2 : Int32) (v : Mem) : Option (Int32 × Mem) := if p1 = 0 then fX5_goes_18 p1 p2 v 1 else if p2 = 0 then fX5_goes_18 p1 p2 v 2 else fX5_goes_18 p1 p2 v 0
set_option maxRecDepth 100000 in
set_option maxHeartbeats 4000000 in
theorem kX5_goes_0 {p : Program} {l : Launch} {e : Env} {s : State} {m : MethodId} {args : Array Value} {below : List Frame} {meth : Method} {c : Code} {D : va_G} {A : Nat → Prop} {cI cS cF cZ cJ : ClassId} {ad : Nat → Nat} {X : va_W} {p1 : Int32} {p2 : Int32} (G : cx p s m args meth c cX5_goes 3 wsX5_goes RX5 D (ty5 cI cS cF cZ cJ) A (some .boolean)) (v : Mem) : sk p l e rmX5_goes s m args below meth c D A 3 0 0 (fun res => MQ below (qi D A (ty5 cI cS cF cZ cJ) (Wr cI cZ ad X) res) args s 0 0 A) (Wr cI cZ ad X v) 0 [(0, .ref (ad 0)), (1, .int p1), (2, .int p2)] [] (fX5_goes p1 p2 v) := by
  obtain ⟨F, hK, hA, hZ, hr, hlocks⟩ := G
  refine sk_eq (K' := if p1 = 0 then fX5_goes_18 p1 p2 v 1 else if p2 = 0 then fX5_goes_18 p1 p2 v 2 else fX5_goes_18 p1 p2 v 0) rfl ?_
  refine sk_aload_n F dX5_goes_0 rfl 0 rfl ?_
  refine sk_iload_n F dX5_goes_1 rfl 1 rfl ?_
  refine sk_if_ne F 9 dX5_goes_2 (by decide) (fun h1 => ?_) (fun h1 => ?_)
  · refine sk_iload_n F dX5_goes_9 rfl 2 rfl ?_
    refine sk_if_ne F 17 dX5_goes_10 (by decide) (fun h2 => ?_) (fun h2 => ?_)
    · refine sk_iconst (x := 0) F dX5_goes_17 (by decide) ?_
      exact sk_lv [0] rfl (kX5_goes_18 ⟨F, hK, hA, hZ, hr, hlocks⟩ v 0)
    · refine sk_iconst (x := 2) F dX5_goes_13 (by decide) ?_
      refine sk_goto F 18 dX5_goes_14 (by decide) ?_
      exact sk_lv [0] rfl (kX5_goes_18 ⟨F, hK, hA, hZ, hr, hlocks⟩ v 2)
  · refine sk_iconst (x := 1) F dX5_goes_5 (by decide) ?_
    refine sk_goto F 18 dX5_goes_6 (by decide) ?_
    exact sk_lv [0] rfl (kX5_goes_18 ⟨F, hK, hA, hZ, hr, hlocks⟩ v 1)
theorem tX5_goes {l : Launch} {D : va_G} {A : Nat → Prop} {cI cS cF cZ cJ : ClassId} {ad : Nat → Nat} {X : va_W} {p1 : Int32} {p2 : Int32} (v : Mem) : CI l yX5_goes wsX5_goes rmX5_goes D A (ty5 cI cS cF cZ cJ) (Wr cI cZ ad X) [.ref (ad 0), .int p1, .int p2] v (fX5_goes p1 p2 v) :=
  CI_of (cc := cX5_goes) (maxL := 3) (ret := (some .boolean)) (by decide) rfl (Nat.le_of_ble_eq_true rfl) (fun p e s m below meth c G => kX5_goes_0 G v)
def rmX5_isTube : Room := { frames := 0, cells := 0, slots := 0, locals := 0 }
def fX5_isTube (p0 : Int32) (v : Mem) : Option (Int32 × Mem) := if p0 = 0 then some (1, v) else if p0 = 1 then some (1, v) else some (0, v)
set_option maxRecDepth 100000 in
set_option maxHeartbeats 4000000 in
theorem kX5_isTube_0 {p : Program} {l : Launch} {e : Env} {s : State} {m : MethodId} {args : Array Value} {below : List Frame} {meth : Method} {c : Code} {D : va_G} {A : Nat → Prop} {cI cS cF cZ cJ : ClassId} {ad : Nat → Nat} {X : va_W} {p0 : Int32} (G : cx p s m args meth c cX5_isTube 1 wsX5_isTube RX5 D (ty5 cI cS cF cZ cJ) A (some .boolean)) (v : Mem) : sk p l e rmX5_isTube s m args below meth c D A 1 0 0 (fun res => MQ below (qi D A (ty5 cI cS cF cZ cJ) (Wr cI cZ ad X) res) args s 0 0 A) (Wr cI cZ ad X v) 0 [(0, .int p0)] [] (fX5_isTube p0 v) := by
  obtain ⟨F, hK, hA, hZ, hr, hlocks⟩ := G
  refine sk_eq (K' := if p0 = 0 then some (1, v) else if p0 = 1 then some (1, v) else some (0, v)) rfl ?_
  refine sk_iload_n F dX5_isTube_0 rfl 0 rfl ?_
  refine sk_if_eq F 9 dX5_isTube_1 (by decide) (fun h1 => ?_) (fun h1 => ?_)
  · refine sk_iconst (x := 1) F dX5_isTube_9 (by decide) ?_
    refine sk_goto F 14 dX5_isTube_10 (by decide) ?_
    exact sk_zretc F hK hr hlocks (by decide) dX5_isTube_14
  · refine sk_iload_n F dX5_isTube_4 rfl 0 rfl ?_
    refine sk_iconst (x := 1) F dX5_isTube_5 (by decide) ?_
    refine sk_icmp_ne F 13 dX5_isTube_6 (by decide) (fun h2 => ?_) (fun h2 => ?_)
    · refine sk_iconst (x := 0) F dX5_isTube_13 (by decide) ?_
      exact sk_zretc F hK hr hlocks (by decide) dX5_isTube_14
    · refine sk_iconst (x := 1) F dX5_isTube_9 (by decide) ?_
      refine sk_goto F 14 dX5_isTube_10 (by decide) ?_
      exact sk_zretc F hK hr hlocks (by decide) dX5_isTube_14
theorem tX5_isTube {l : Launch} {D : va_G} {A : Nat → Prop} {cI cS cF cZ cJ : ClassId} {ad : Nat → Nat} {X : va_W} {p0 : Int32} (v : Mem) : CI l yX5_isTube wsX5_isTube rmX5_isTube D A (ty5 cI cS cF cZ cJ) (Wr cI cZ ad X) [.int p0] v (fX5_isTube p0 v) :=
  CI_of (cc := cX5_isTube) (maxL := 1) (ret := (some .boolean)) (by decide) rfl (Nat.le_of_ble_eq_true rfl) (fun p e s m below meth c G => kX5_isTube_0 G v)
def rmX5_isSection : Room := { frames := 1, cells := 0, slots := 0, locals := 20 }
theorem iX5_isSection_5 : ∀ w ∈ wsX50, w ∈ wsX5_isSection := by decide +kernel
def fX5_isSection_23 (p1 : Int32) (p2 : Int32) (v : Mem) : Option (Int32 × Mem) := some (0, v)
set_option maxRecDepth 100000 in
set_option maxHeartbeats 4000000 in
theorem kX5_isSection_23 {p : Program} {l : Launch} {e : Env} {s : State} {m : MethodId} {args : Array Value} {below : List Frame} {meth : Method} {c : Code} {D : va_G} {A : Nat → Prop} {cI cS cF cZ cJ : ClassId} {ad : Nat → Nat} {X : va_W} {p1 : Int32} {p2 : Int32} (G : cx p s m args meth c cX5_isSection 3 wsX5_isSection RX5 D (ty5 cI cS cF cZ cJ) A (some .boolean)) (v : Mem) : sk p l e rmX5_isSection s m args below meth c D A 3 0 0 (fun res => MQ below (qi D A (ty5 cI cS cF cZ cJ) (Wr cI cZ ad X) res) args s 0 0 A) (Wr cI cZ ad X v) 23 [] [] (fX5_isSection_23 p1 p2 v) := by
  obtain ⟨F, hK, hA, hZ, hr, hlocks⟩ := G
  refine sk_eq (K' := some (0, v)) rfl ?_
  refine sk_iconst (x := 0) F dX5_isSection_23 (by decide) ?_
  exact sk_zretc F hK hr hlocks (by decide) dX5_isSection_24
def fX5_isSection (p1 : Int32) (p2 : Int32) (v : Mem) : Option (Int32 × Mem) := bd (fX5_isTube p1 v) fun x3 v2 => if x3 = 0 then fX5_isSection_23 p1 p2 v2 else if p2 < 0 then fX5_isSection_23 p1 p2 v2 else if (v2 0 1) ≤ p2 then fX5_isSection_23 p1 p2 v2 else some (1, v2)
set_option maxRecDepth 100000 in
set_option maxHeartbeats 4000000 in
theorem kX5_isSection_0 {p : Program} {l : Launch} {e : Env} {s : State} {m : MethodId} {args : Array Value} {below : List Frame} {meth : Method} {c : Code} {D : va_G} {A : Nat → Prop} {cI cS cF cZ cJ : ClassId} {ad : Nat → Nat} {X : va_W} {p1 : Int32} {p2 : Int32} (G : cx p s m args meth c cX5_isSection 3 wsX5_isSection RX5 D (ty5 cI cS cF cZ cJ) A (some .boolean)) (v : Mem) : sk p l e rmX5_isSection s m args below meth c D A 3 0 0 (fun res => MQ below (qi D A (ty5 cI cS cF cZ cJ) (Wr cI cZ ad X) res) args s 0 0 A) (Wr cI cZ ad X v) 0 [(0, .ref (ad 0)), (1, .int p1), (2, .int p2)] [] (fX5_isSection p1 p2 v) := by
  obtain ⟨F, hK, hA, hZ, hr, hlocks⟩ := G
  refine sk_eq (K' := bd (fX5_isTube p1 v) fun x3 v2 => if x3 = 0 then fX5_isSection_23 p1 p2 v2 else if p2 < 0 then fX5_isSection_23 p1 p2 v2 else if (v2 0 1) ≤ p2 then fX5_isSection_23 p1 p2 v2 else some (1, v2)) rfl ?_
  refine sk_iload_n F dX5_isSection_0 rfl 1 rfl ?_
  refine sk_callSi (As := [.int p1]) (rest := []) F hK hA hZ _ (tX5_isTube _) (va_cwS 1 F.2.2.2.2 gX5_isSection_X5_isTube rfl rfl rfl (by decide +kernel) ⟨Nat.le_of_ble_eq_true rfl, Nat.le_of_ble_eq_true rfl⟩) rfl rfl (Nat.le_of_ble_eq_true rfl) (by decide) dX5_isSection_1 (fun x3 v2 c1 => ?_)
  refine sk_if_eq F 23 dX5_isSection_4 (by decide) (fun h4 => ?_) (fun h4 => ?_)
  · exact sk_lv [] rfl (kX5_isSection_23 ⟨F, hK, hA, hZ, hr, hlocks⟩ v2)
  · refine sk_iload_n F dX5_isSection_7 rfl 2 rfl ?_
    refine sk_if_lt F 23 dX5_isSection_8 (by decide) (fun h5 => ?_) (fun h5 => ?_)
    · exact sk_lv [] rfl (kX5_isSection_23 ⟨F, hK, hA, hZ, hr, hlocks⟩ v2)
    · refine sk_iload_n F dX5_isSection_11 rfl 2 rfl ?_
      refine sk_aload_n F dX5_isSection_12 rfl 0 rfl ?_
      refine sk_get (ref := "TunnelWatchModel") F hK (Lr_mem (by decide)) (shR_0 _) rfl iX5_isSection_5 1 (by decide) (by decide +kernel) (fun _ h9 => h9) rfl dX5_isSection_13 ?_
      refine sk_icmp_ge F 23 dX5_isSection_16 (by decide) (fun h6 => ?_) (fun h6 => ?_)
      · exact sk_lv [] rfl (kX5_isSection_23 ⟨F, hK, hA, hZ, hr, hlocks⟩ v2)
      · refine sk_iconst (x := 1) F dX5_isSection_19 (by decide) ?_
        refine sk_goto F 24 dX5_isSection_20 (by decide) ?_
        exact sk_zretc F hK hr hlocks (by decide) dX5_isSection_24
theorem tX5_isSection {l : Launch} {D : va_G} {A : Nat → Prop} {cI cS cF cZ cJ : ClassId} {ad : Nat → Nat} {X : va_W} {p1 : Int32} {p2 : Int32} (v : Mem) : CI l yX5_isSection wsX5_isSection rmX5_isSection D A (ty5 cI cS cF cZ cJ) (Wr cI cZ ad X) [.ref (ad 0), .int p1, .int p2] v (fX5_isSection p1 p2 v) :=
  CI_of (cc := cX5_isSection) (maxL := 3) (ret := (some .boolean)) (by decide) rfl (Nat.le_of_ble_eq_true rfl) (fun p e s m below meth c G => kX5_isSection_0 G v)
def rmX5_isDevice : Room := { frames := 1, cells := 0, slots := 0, locals := 20 }
theorem iX5_isDevice_5 : ∀ w ∈ wsX50, w ∈ wsX5_isDevice := by decide +kernel
def fX5_isDevice_27 (p1 : Int32) (p2 : Int32) (v : Mem) : Option (Int32 × Mem) := some (0, v)
set_option maxRecDepth 100000 in
set_option maxHeartbeats 4000000 in
theorem kX5_isDevice_27 {p : Program} {l : Launch} {e : Env} {s : State} {m : MethodId} {args : Array Value} {below : List Frame} {meth : Method} {c : Code} {D : va_G} {A : Nat → Prop} {cI cS cF cZ cJ : ClassId} {ad : Nat → Nat} {X : va_W} {p1 : Int32} {p2 : Int32} (G : cx p s m args meth c cX5_isDevice 3 wsX5_isDevice RX5 D (ty5 cI cS cF cZ cJ) A (some .boolean)) (v : Mem) : sk p l e rmX5_isDevice s m args below meth c D A 3 0 0 (fun res => MQ below (qi D A (ty5 cI cS cF cZ cJ) (Wr cI cZ ad X) res) args s 0 0 A) (Wr cI cZ ad X v) 27 [] [] (fX5_isDevice_27 p1 p2 v) := by
  obtain ⟨F, hK, hA, hZ, hr, hlocks⟩ := G
  refine sk_eq (K' := some (0, v)) rfl ?_
  refine sk_iconst (x := 0) F dX5_isDevice_27 (by decide) ?_
  exact sk_zretc F hK hr hlocks (by decide) dX5_isDevice_28
def fX5_isDevice (p1 : Int32) (p2 : Int32) (v : Mem) : Option (Int32 × Mem) := bd (fX5_isTube p1 v) fun x3 v2 => if x3 = 0 then fX5_isDevice_27 p1 p2 v2 else if p2 < 0 then fX5_isDevice_27 p1 p2 v2 else gd (inb p1 2) (if (2 + (v2 5 p1.toNatClampNeg)) ≤ p2 then fX5_isDevice_27 p1 p2 v2 else some (1, v2))
set_option maxRecDepth 100000 in
set_option maxHeartbeats 4000000 in
theorem kX5_isDevice_0 {p : Program} {l : Launch} {e : Env} {s : State} {m : MethodId} {args : Array Value} {below : List Frame} {meth : Method} {c : Code} {D : va_G} {A : Nat → Prop} {cI cS cF cZ cJ : ClassId} {ad : Nat → Nat} {X : va_W} {p1 : Int32} {p2 : Int32} (G : cx p s m args meth c cX5_isDevice 3 wsX5_isDevice RX5 D (ty5 cI cS cF cZ cJ) A (some .boolean)) (v : Mem) : sk p l e rmX5_isDevice s m args below meth c D A 3 0 0 (fun res => MQ below (qi D A (ty5 cI cS cF cZ cJ) (Wr cI cZ ad X) res) args s 0 0 A) (Wr cI cZ ad X v) 0 [(0, .ref (ad 0)), (1, .int p1), (2, .int p2)] [] (fX5_isDevice p1 p2 v) := by
  obtain ⟨F, hK, hA, hZ, hr, hlocks⟩ := G
  refine sk_eq (K' := bd (fX5_isTube p1 v) fun x3 v2 => if x3 = 0 then fX5_isDevice_27 p1 p2 v2 else if p2 < 0 then fX5_isDevice_27 p1 p2 v2 else gd (inb p1 2) (if (2 + (v2 5 p1.toNatClampNeg)) ≤ p2 then fX5_isDevice_27 p1 p2 v2 else some (1, v2))) rfl ?_
  refine sk_iload_n F dX5_isDevice_0 rfl 1 rfl ?_
  refine sk_callSi (As := [.int p1]) (rest := []) F hK hA hZ _ (tX5_isTube _) (va_cwS 1 F.2.2.2.2 gX5_isDevice_X5_isTube rfl rfl rfl (by decide +kernel) ⟨Nat.le_of_ble_eq_true rfl, Nat.le_of_ble_eq_true rfl⟩) rfl rfl (Nat.le_of_ble_eq_true rfl) (by decide) dX5_isDevice_1 (fun x3 v2 c1 => ?_)
  refine sk_if_eq F 27 dX5_isDevice_4 (by decide) (fun h4 => ?_) (fun h4 => ?_)
  · exact sk_lv [] rfl (kX5_isDevice_27 ⟨F, hK, hA, hZ, hr, hlocks⟩ v2)
  · refine sk_iload_n F dX5_isDevice_7 rfl 2 rfl ?_
    refine sk_if_lt F 27 dX5_isDevice_8 (by decide) (fun h5 => ?_) (fun h5 => ?_)
    · exact sk_lv [] rfl (kX5_isDevice_27 ⟨F, hK, hA, hZ, hr, hlocks⟩ v2)
    · refine sk_iload_n F dX5_isDevice_11 rfl 2 rfl ?_
      refine sk_iconst (x := 2) F dX5_isDevice_12 (by decide) ?_
      refine sk_aload_n F dX5_isDevice_13 rfl 0 rfl ?_
      refine sk_get (ref := "TunnelWatchModel") F hK (Lr_mem (by decide)) (shR_0 _) rfl iX5_isDevice_5 5 (by decide) (by decide +kernel) (fun _ h9 => h9) rfl dX5_isDevice_14 ?_
      refine sk_iload_n F dX5_isDevice_17 rfl 1 rfl ?_
      refine sk_iald F hK (Lr_mem (by decide)) (shR_5 _) 0 rfl dX5_isDevice_18 (fun h6 => ?_)
      refine sk_iadd F dX5_isDevice_19 ?_
      refine sk_icmp_ge F 27 dX5_isDevice_20 (by decide) (fun h7 => ?_) (fun h7 => ?_)
      · exact sk_lv [] rfl (kX5_isDevice_27 ⟨F, hK, hA, hZ, hr, hlocks⟩ v2)
      · refine sk_iconst (x := 1) F dX5_isDevice_23 (by decide) ?_
        refine sk_goto F 28 dX5_isDevice_24 (by decide) ?_
        exact sk_zretc F hK hr hlocks (by decide) dX5_isDevice_28
theorem tX5_isDevice {l : Launch} {D : va_G} {A : Nat → Prop} {cI cS cF cZ cJ : ClassId} {ad : Nat → Nat} {X : va_W} {p1 : Int32} {p2 : Int32} (v : Mem) : CI l yX5_isDevice wsX5_isDevice rmX5_isDevice D A (ty5 cI cS cF cZ cJ) (Wr cI cZ ad X) [.ref (ad 0), .int p1, .int p2] v (fX5_isDevice p1 p2 v) :=
  CI_of (cc := cX5_isDevice) (maxL := 3) (ret := (some .boolean)) (by decide) rfl (Nat.le_of_ble_eq_true rfl) (fun p e s m below meth c G => kX5_isDevice_0 G v)
def rmX5_turnOf : Room := { frames := 0, cells := 0, slots := 0, locals := 0 }
def fX5_turnOf (p0 : Int32) (v : Mem) : Option (Int32 × Mem) := if 0 ≤ p0 then some (1, v) else some ((-1), v)
set_option maxRecDepth 100000 in
set_option maxHeartbeats 4000000 in
theorem kX5_turnOf_0 {p : Program} {l : Launch} {e : Env} {s : State} {m : MethodId} {args : Array Value} {below : List Frame} {meth : Method} {c : Code} {D : va_G} {A : Nat → Prop} {cI cS cF cZ cJ : ClassId} {ad : Nat → Nat} {X : va_W} {p0 : Int32} (G : cx p s m args meth c cX5_turnOf 1 wsX5_turnOf RX5 D (ty5 cI cS cF cZ cJ) A (some .int)) (v : Mem) : sk p l e rmX5_turnOf s m args below meth c D A 1 0 0 (fun res => MQ below (qi D A (ty5 cI cS cF cZ cJ) (Wr cI cZ ad X) res) args s 0 0 A) (Wr cI cZ ad X v) 0 [(0, .int p0)] [] (fX5_turnOf p0 v) := by
  obtain ⟨F, hK, hA, hZ, hr, hlocks⟩ := G
  refine sk_eq (K' := if 0 ≤ p0 then some (1, v) else some ((-1), v)) rfl ?_
  refine sk_iload_n F dX5_turnOf_0 rfl 0 rfl ?_
  refine sk_if_ge F 8 dX5_turnOf_1 (by decide) (fun h1 => ?_) (fun h1 => ?_)
  · refine sk_iconst (x := 1) F dX5_turnOf_8 (by decide) ?_
    exact sk_iret F hK hr hlocks dX5_turnOf_9
  · refine sk_iconst (x := (-1)) F dX5_turnOf_4 (by decide) ?_
    refine sk_goto F 9 dX5_turnOf_5 (by decide) ?_
    exact sk_iret F hK hr hlocks dX5_turnOf_9
theorem tX5_turnOf {l : Launch} {D : va_G} {A : Nat → Prop} {cI cS cF cZ cJ : ClassId} {ad : Nat → Nat} {X : va_W} {p0 : Int32} (v : Mem) : CI l yX5_turnOf wsX5_turnOf rmX5_turnOf D A (ty5 cI cS cF cZ cJ) (Wr cI cZ ad X) [.int p0] v (fX5_turnOf p0 v) :=
  CI_of (cc := cX5_turnOf) (maxL := 1) (ret := (some .int)) (by decide) rfl (Nat.le_of_ble_eq_true rfl) (fun p e s m below meth c G => kX5_turnOf_0 G v)
def rmX5_fan : Room := { frames := 1, cells := 0, slots := 0, locals := 22 }
theorem iX5_fan_5 : ∀ w ∈ wsX50, w ∈ wsX5_fan := by decide +kernel
def fX5_fan_55 (p1 : Int32) (p2 : Int32) (v : Mem) (s0 : Int32) (s1 : Int32) : Option (Int32 × Mem) := bd (fX5_goes s1 s0 v) fun x16 v15 => if x16 = 0 then some (0, v15) else gd (inb p1 2) (gd (inb (((14 * p1) + 2) + (v15 5 p1.toNatClampNeg)) 28) (gd (inb p1 2) (gd (inb p1 2) (gd (inb p1 2) (some (((up2 (up2 v15 12 (((14 * p1) + 2) + (v15 5 p1.toNatClampNeg)).toNatClampNeg p2) 5 p1.toNatClampNeg (((up2 v15 12 (((14 * p1) + 2) + (v15 5 p1.toNatClampNeg)).toNatClampNeg p2) 5 p1.toNatClampNeg) + 1)) 5 p1.toNatClampNeg) - 1, up2 (up2 v15 12 (((14 * p1) + 2) + (v15 5 p1.toNatClampNeg)).toNatClampNeg p2) 5 p1.toNatClampNeg (((up2 v15 12 (((14 * p1) + 2) + (v15 5 p1.toNatClampNeg)).toNatClampNeg p2) 5 p1.toNatClampNeg) + 1)))))))
set_option maxRecDepth 100000 in
set_option maxHeartbeats 4000000 in
theorem kX5_fan_55 {p : Program} {l : Launch} {e : Env} {s : State} {m : MethodId} {args : Array Value} {below : List Frame} {meth : Method} {c : Code} {D : va_G} {A : Nat → Prop} {cI cS cF cZ cJ : ClassId} {ad : Nat → Nat} {X : va_W} {p1 : Int32} {p2 : Int32} (G : cx p s m args meth c cX5_fan 3 wsX5_fan RX5 D (ty5 cI cS cF cZ cJ) A (some .int)) (v : Mem) (s0 : Int32) (s1 : Int32) : sk p l e rmX5_fan s m args below meth c D A 3 0 0 (fun res => MQ below (qi D A (ty5 cI cS cF cZ cJ) (Wr cI cZ ad X) res) args s 0 0 A) (Wr cI cZ ad X v) 55 [(0, .ref (ad 0)), (1, .int p1), (2, .int p2)] [.int s0, .int s1, .ref (ad 0)] (fX5_fan_55 p1 p2 v s0 s1) := by
  obtain ⟨F, hK, hA, hZ, hr, hlocks⟩ := G
  refine sk_eq (K' := bd (fX5_goes s1 s0 v) fun x16 v15 => if x16 = 0 then some (0, v15) else gd (inb p1 2) (gd (inb (((14 * p1) + 2) + (v15 5 p1.toNatClampNeg)) 28) (gd (inb p1 2) (gd (inb p1 2) (gd (inb p1 2) (some (((up2 (up2 v15 12 (((14 * p1) + 2) + (v15 5 p1.toNatClampNeg)).toNatClampNeg p2) 5 p1.toNatClampNeg (((up2 v15 12 (((14 * p1) + 2) + (v15 5 p1.toNatClampNeg)).toNatClampNeg p2) 5 p1.toNatClampNeg) + 1)) 5 p1.toNatClampNeg) - 1, up2 (up2 v15 12 (((14 * p1) + 2) + (v15 5 p1.toNatClampNeg)).toNatClampNeg p2) 5 p1.toNatClampNeg (((up2 v15 12 (((14 * p1) + 2) + (v15 5 p1.toNatClampNeg)).toNatClampNeg p2) 5 p1.toNatClampNeg) + 1)))))))) rfl ?_
  refine sk_callVi (As := [.int s1, .int s0]) (rest := []) F hK hA hZ _ (tX5_goes _) (cwV 2 F.2.2.2.2 gX5_fan_X5_goes rfl rfl rfl (by decide +kernel) ⟨Nat.le_of_ble_eq_true rfl, Nat.le_of_ble_eq_true rfl⟩) (rc5 hK) rfl rfl (Nat.le_of_ble_eq_true rfl) (by decide) dX5_fan_55 (fun x16 v15 c14 => ?_)
  refine sk_if_ne F 63 dX5_fan_58 (by decide) (fun h17 => ?_) (fun h17 => ?_)
  · refine sk_aload_n F dX5_fan_63 rfl 0 rfl ?_
    refine sk_get (ref := "TunnelWatchModel") F hK (Lr_mem (by decide)) (shR_0 _) rfl iX5_fan_5 12 (by decide) (by decide +kernel) (fun _ h9 => h9) rfl dX5_fan_64 ?_
    refine sk_bipush (x := 14) F dX5_fan_67 (by decide) ?_
    refine sk_iload_n F dX5_fan_69 rfl 1 rfl ?_
    refine sk_imul F dX5_fan_70 ?_
    refine sk_iconst (x := 2) F dX5_fan_71 (by decide) ?_
    refine sk_iadd F dX5_fan_72 ?_
    refine sk_aload_n F dX5_fan_73 rfl 0 rfl ?_
    refine sk_get (ref := "TunnelWatchModel") F hK (Lr_mem (by decide)) (shR_0 _) rfl iX5_fan_5 5 (by decide) (by decide +kernel) (fun _ h9 => h9) rfl dX5_fan_74 ?_
    refine sk_iload_n F dX5_fan_77 rfl 1 rfl ?_
    refine sk_iald F hK (Lr_mem (by decide)) (shR_5 _) 0 rfl dX5_fan_78 (fun h18 => ?_)
    refine sk_iadd F dX5_fan_79 ?_
    refine sk_iload_n F dX5_fan_80 rfl 2 rfl ?_
    refine sk_iast F hK Lr_nd (Lr_mem (by decide)) shR_12 0 rfl dX5_fan_81 (fun h19 => ?_)
    refine sk_aload_n F dX5_fan_82 rfl 0 rfl ?_
    refine sk_get (ref := "TunnelWatchModel") F hK (Lr_mem (by decide)) (shR_0 _) rfl iX5_fan_5 5 (by decide) (by decide +kernel) (fun _ h9 => h9) rfl dX5_fan_83 ?_
    refine sk_iload_n F dX5_fan_86 rfl 1 rfl ?_
    refine sk_dup2 F dX5_fan_87 rfl rfl ?_
    refine sk_iald F hK (Lr_mem (by decide)) (shR_5 _) 0 rfl dX5_fan_88 (fun h20 => ?_)
    refine sk_iconst (x := 1) F dX5_fan_89 (by decide) ?_
    refine sk_iadd F dX5_fan_90 ?_
    refine sk_iast F hK Lr_nd (Lr_mem (by decide)) shR_5 0 rfl dX5_fan_91 (fun h21 => ?_)
    refine sk_aload_n F dX5_fan_92 rfl 0 rfl ?_
    refine sk_get (ref := "TunnelWatchModel") F hK (Lr_mem (by decide)) (shR_0 _) rfl iX5_fan_5 5 (by decide) (by decide +kernel) (fun _ h9 => h9) rfl dX5_fan_93 ?_
    refine sk_iload_n F dX5_fan_96 rfl 1 rfl ?_
    refine sk_iald F hK (Lr_mem (by decide)) (shR_5 _) 0 rfl dX5_fan_97 (fun h22 => ?_)
    refine sk_iconst (x := 1) F dX5_fan_98 (by decide) ?_
    refine sk_isub F dX5_fan_99 ?_
    exact sk_iret F hK hr hlocks dX5_fan_100
  · refine sk_iconst (x := 0) F dX5_fan_61 (by decide) ?_
    exact sk_iret F hK hr hlocks dX5_fan_62
def fX5_fan_54 (p1 : Int32) (p2 : Int32) (v : Mem) (s0 : Int32) : Option (Int32 × Mem) := fX5_fan_55 p1 p2 v 0 s0
set_option maxRecDepth 100000 in
set_option maxHeartbeats 4000000 in
theorem kX5_fan_54 {p : Program} {l : Launch} {e : Env} {s : State} {m : MethodId} {args : Array Value} {below : List Frame} {meth : Method} {c : Code} {D : va_G} {A : Nat → Prop} {cI cS cF cZ cJ : ClassId} {ad : Nat → Nat} {X : va_W} {p1 : Int32} {p2 : Int32} (G : cx p s m args meth c cX5_fan 3 wsX5_fan RX5 D (ty5 cI cS cF cZ cJ) A (some .int)) (v : Mem) (s0 : Int32) : sk p l e rmX5_fan s m args below meth c D A 3 0 0 (fun res => MQ below (qi D A (ty5 cI cS cF cZ cJ) (Wr cI cZ ad X) res) args s 0 0 A) (Wr cI cZ ad X v) 54 [(0, .ref (ad 0)), (1, .int p1), (2, .int p2)] [.int s0, .ref (ad 0)] (fX5_fan_54 p1 p2 v s0) := by
  obtain ⟨F, hK, hA, hZ, hr, hlocks⟩ := G
  refine sk_eq (K' := fX5_fan_55 p1 p2 v 0 s0) rfl ?_
  refine sk_iconst (x := 0) F dX5_fan_54 (by decide) ?_
  exact kX5_fan_55 ⟨F, hK, hA, hZ, hr, hlocks⟩ v 0 s0
def fX5_fan_25 (p1 : Int32) (p2 : Int32) (v : Mem) (s0 : Int32) : Option (Int32 × Mem) := if (v 0 4) = 0 then bd (fX5_isTube p1 v) fun x10 v9 => if x10 = 0 then fX5_fan_55 p1 p2 v9 1 s0 else gd (inb p1 2) (if 12 ≤ (v9 5 p1.toNatClampNeg) then fX5_fan_54 p1 p2 v9 s0 else fX5_fan_55 p1 p2 v9 1 s0) else fX5_fan_54 p1 p2 v s0
set_option maxRecDepth 100000 in
set_option maxHeartbeats 4000000 in
theorem kX5_fan_25 {p : Program} {l : Launch} {e : Env} {s : State} {m : MethodId} {args : Array Value} {below : List Frame} {meth : Method} {c : Code} {D : va_G} {A : Nat → Prop} {cI cS cF cZ cJ : ClassId} {ad : Nat → Nat} {X : va_W} {p1 : Int32} {p2 : Int32} (G : cx p s m args meth c cX5_fan 3 wsX5_fan RX5 D (ty5 cI cS cF cZ cJ) A (some .int)) (v : Mem) (s0 : Int32) : sk p l e rmX5_fan s m args below meth c D A 3 0 0 (fun res => MQ below (qi D A (ty5 cI cS cF cZ cJ) (Wr cI cZ ad X) res) args s 0 0 A) (Wr cI cZ ad X v) 25 [(0, .ref (ad 0)), (1, .int p1), (2, .int p2)] [.int s0, .ref (ad 0)] (fX5_fan_25 p1 p2 v s0) := by
  obtain ⟨F, hK, hA, hZ, hr, hlocks⟩ := G
  refine sk_eq (K' := if (v 0 4) = 0 then bd (fX5_isTube p1 v) fun x10 v9 => if x10 = 0 then fX5_fan_55 p1 p2 v9 1 s0 else gd (inb p1 2) (if 12 ≤ (v9 5 p1.toNatClampNeg) then fX5_fan_54 p1 p2 v9 s0 else fX5_fan_55 p1 p2 v9 1 s0) else fX5_fan_54 p1 p2 v s0) rfl ?_
  refine sk_aload_n F dX5_fan_25 rfl 0 rfl ?_
  refine sk_get (ref := "TunnelWatchModel") F hK (Lr_mem (by decide)) (shR_0 _) rfl iX5_fan_5 4 (by decide) (by decide +kernel) (fun _ h9 => h9) rfl dX5_fan_26 ?_
  refine sk_if_ne F 54 dX5_fan_29 (by decide) (fun h7 => ?_) (fun h7 => ?_)
  · exact kX5_fan_54 ⟨F, hK, hA, hZ, hr, hlocks⟩ v s0
  · refine sk_iload_n F dX5_fan_32 rfl 1 rfl ?_
    refine sk_callSi (As := [.int p1]) (rest := [.int s0, .ref (ad 0)]) F hK hA hZ _ (tX5_isTube _) (va_cwS 1 F.2.2.2.2 gX5_fan_X5_isTube rfl rfl rfl (by decide +kernel) ⟨Nat.le_of_ble_eq_true rfl, Nat.le_of_ble_eq_true rfl⟩) rfl rfl (Nat.le_of_ble_eq_true rfl) (by decide) dX5_fan_33 (fun x10 v9 c8 => ?_)
    refine sk_if_eq F 50 dX5_fan_36 (by decide) (fun h11 => ?_) (fun h11 => ?_)
    · refine sk_iconst (x := 1) F dX5_fan_50 (by decide) ?_
      refine sk_goto F 55 dX5_fan_51 (by decide) ?_
      exact kX5_fan_55 ⟨F, hK, hA, hZ, hr, hlocks⟩ v9 1 s0
    · refine sk_aload_n F dX5_fan_39 rfl 0 rfl ?_
      refine sk_get (ref := "TunnelWatchModel") F hK (Lr_mem (by decide)) (shR_0 _) rfl iX5_fan_5 5 (by decide) (by decide +kernel) (fun _ h9 => h9) rfl dX5_fan_40 ?_
      refine sk_iload_n F dX5_fan_43 rfl 1 rfl ?_
      refine sk_iald F hK (Lr_mem (by decide)) (shR_5 _) 0 rfl dX5_fan_44 (fun h12 => ?_)
      refine sk_bipush (x := 12) F dX5_fan_45 (by decide) ?_
      refine sk_icmp_ge F 54 dX5_fan_47 (by decide) (fun h13 => ?_) (fun h13 => ?_)
      · exact kX5_fan_54 ⟨F, hK, hA, hZ, hr, hlocks⟩ v9 s0
      · refine sk_iconst (x := 1) F dX5_fan_50 (by decide) ?_
        refine sk_goto F 55 dX5_fan_51 (by decide) ?_
        exact kX5_fan_55 ⟨F, hK, hA, hZ, hr, hlocks⟩ v9 1 s0
def fX5_fan_24 (p1 : Int32) (p2 : Int32) (v : Mem) : Option (Int32 × Mem) := fX5_fan_25 p1 p2 v 0
set_option maxRecDepth 100000 in
set_option maxHeartbeats 4000000 in
theorem kX5_fan_24 {p : Program} {l : Launch} {e : Env} {s : State} {m : MethodId} {args : Array Value} {below : List Frame} {meth : Method} {c : Code} {D : va_G} {A : Nat → Prop} {cI cS cF cZ cJ : ClassId} {ad : Nat → Nat} {X : va_W} {p1 : Int32} {p2 : Int32} (G : cx p s m args meth c cX5_fan 3 wsX5_fan RX5 D (ty5 cI cS cF cZ cJ) A (some .int)) (v : Mem) : sk p l e rmX5_fan s m args below meth c D A 3 0 0 (fun res => MQ below (qi D A (ty5 cI cS cF cZ cJ) (Wr cI cZ ad X) res) args s 0 0 A) (Wr cI cZ ad X v) 24 [(0, .ref (ad 0)), (1, .int p1), (2, .int p2)] [.ref (ad 0)] (fX5_fan_24 p1 p2 v) := by
  obtain ⟨F, hK, hA, hZ, hr, hlocks⟩ := G
  refine sk_eq (K' := fX5_fan_25 p1 p2 v 0) rfl ?_
  refine sk_iconst (x := 0) F dX5_fan_24 (by decide) ?_
  exact kX5_fan_25 ⟨F, hK, hA, hZ, hr, hlocks⟩ v 0
def fX5_fan (p1 : Int32) (p2 : Int32) (v : Mem) : Option (Int32 × Mem) := bd (fX5_isTube p1 v) fun x3 v2 => if x3 = 0 then fX5_fan_24 p1 p2 v2 else if p2 < 1 then fX5_fan_24 p1 p2 v2 else if 1000 < p2 then fX5_fan_24 p1 p2 v2 else fX5_fan_25 p1 p2 v2 1
set_option maxRecDepth 100000 in
set_option maxHeartbeats 4000000 in
theorem kX5_fan_0 {p : Program} {l : Launch} {e : Env} {s : State} {m : MethodId} {args : Array Value} {below : List Frame} {meth : Method} {c : Code} {D : va_G} {A : Nat → Prop} {cI cS cF cZ cJ : ClassId} {ad : Nat → Nat} {X : va_W} {p1 : Int32} {p2 : Int32} (G : cx p s m args meth c cX5_fan 3 wsX5_fan RX5 D (ty5 cI cS cF cZ cJ) A (some .int)) (v : Mem) : sk p l e rmX5_fan s m args below meth c D A 3 0 0 (fun res => MQ below (qi D A (ty5 cI cS cF cZ cJ) (Wr cI cZ ad X) res) args s 0 0 A) (Wr cI cZ ad X v) 0 [(0, .ref (ad 0)), (1, .int p1), (2, .int p2)] [] (fX5_fan p1 p2 v) := by
  obtain ⟨F, hK, hA, hZ, hr, hlocks⟩ := G
  refine sk_eq (K' := bd (fX5_isTube p1 v) fun x3 v2 => if x3 = 0 then fX5_fan_24 p1 p2 v2 else if p2 < 1 then fX5_fan_24 p1 p2 v2 else if 1000 < p2 then fX5_fan_24 p1 p2 v2 else fX5_fan_25 p1 p2 v2 1) rfl ?_
  refine sk_aload_n F dX5_fan_0 rfl 0 rfl ?_
  refine sk_iload_n F dX5_fan_1 rfl 1 rfl ?_
  refine sk_callSi (As := [.int p1]) (rest := [.ref (ad 0)]) F hK hA hZ _ (tX5_isTube _) (va_cwS 1 F.2.2.2.2 gX5_fan_X5_isTube rfl rfl rfl (by decide +kernel) ⟨Nat.le_of_ble_eq_true rfl, Nat.le_of_ble_eq_true rfl⟩) rfl rfl (Nat.le_of_ble_eq_true rfl) (by decide) dX5_fan_2 (fun x3 v2 c1 => ?_)
  refine sk_if_eq F 24 dX5_fan_5 (by decide) (fun h4 => ?_) (fun h4 => ?_)
  · exact kX5_fan_24 ⟨F, hK, hA, hZ, hr, hlocks⟩ v2
  · refine sk_iload_n F dX5_fan_8 rfl 2 rfl ?_
    refine sk_iconst (x := 1) F dX5_fan_9 (by decide) ?_
    refine sk_icmp_lt F 24 dX5_fan_10 (by decide) (fun h5 => ?_) (fun h5 => ?_)
    · exact kX5_fan_24 ⟨F, hK, hA, hZ, hr, hlocks⟩ v2
    · refine sk_iload_n F dX5_fan_13 rfl 2 rfl ?_
      refine sk_sipush (x := 1000) F dX5_fan_14 (by decide) ?_
      refine sk_icmp_gt F 24 dX5_fan_17 (by decide) (fun h6 => ?_) (fun h6 => ?_)
      · exact kX5_fan_24 ⟨F, hK, hA, hZ, hr, hlocks⟩ v2
      · refine sk_iconst (x := 1) F dX5_fan_20 (by decide) ?_
        refine sk_goto F 25 dX5_fan_21 (by decide) ?_
        exact kX5_fan_25 ⟨F, hK, hA, hZ, hr, hlocks⟩ v2 1
theorem tX5_fan {l : Launch} {D : va_G} {A : Nat → Prop} {cI cS cF cZ cJ : ClassId} {ad : Nat → Nat} {X : va_W} {p1 : Int32} {p2 : Int32} (v : Mem) : CI l yX5_fan wsX5_fan rmX5_fan D A (ty5 cI cS cF cZ cJ) (Wr cI cZ ad X) [.ref (ad 0), .int p1, .int p2] v (fX5_fan p1 p2 v) :=
  CI_of (cc := cX5_fan) (maxL := 3) (ret := (some .int)) (by decide) rfl (Nat.le_of_ble_eq_true rfl) (fun p e s m below meth c G => kX5_fan_0 G v)
def rmX5_lag : Room := { frames := 2, cells := 0, slots := 0, locals := 42 }
theorem iX5_lag_5 : ∀ w ∈ wsX50, w ∈ wsX5_lag := by decide +kernel
def fX5_lag_24 (p1 : Int32) (p2 : Int32) (p3 : Int32) (v : Mem) (s0 : Int32) : Option (Int32 × Mem) := if ((up2 v 0 0 s0) 0 0) ≤ 0 then gd (inb ((14 * p1) + p2) 28) (gd (inb ((14 * p1) + p2) 28) (some ((up2 v 0 0 s0) 6 ((14 * p1) + p2).toNatClampNeg, up2 (up2 v 0 0 s0) 6 ((14 * p1) + p2).toNatClampNeg p3))) else some (0, up2 v 0 0 s0)
set_option maxRecDepth 100000 in
set_option maxHeartbeats 4000000 in
theorem kX5_lag_24 {p : Program} {l : Launch} {e : Env} {s : State} {m : MethodId} {args : Array Value} {below : List Frame} {meth : Method} {c : Code} {D : va_G} {A : Nat → Prop} {cI cS cF cZ cJ : ClassId} {ad : Nat → Nat} {X : va_W} {p1 : Int32} {p2 : Int32} {p3 : Int32} (G : cx p s m args meth c cX5_lag 5 wsX5_lag RX5 D (ty5 cI cS cF cZ cJ) A (some .int)) (v : Mem) (s0 : Int32) : sk p l e rmX5_lag s m args below meth c D A 5 0 0 (fun res => MQ below (qi D A (ty5 cI cS cF cZ cJ) (Wr cI cZ ad X) res) args s 0 0 A) (Wr cI cZ ad X v) 24 [(0, .ref (ad 0)), (1, .int p1), (2, .int p2), (3, .int p3)] [.int s0, .ref (ad 0)] (fX5_lag_24 p1 p2 p3 v s0) := by
  obtain ⟨F, hK, hA, hZ, hr, hlocks⟩ := G
  refine sk_eq (K' := if ((up2 v 0 0 s0) 0 0) ≤ 0 then gd (inb ((14 * p1) + p2) 28) (gd (inb ((14 * p1) + p2) 28) (some ((up2 v 0 0 s0) 6 ((14 * p1) + p2).toNatClampNeg, up2 (up2 v 0 0 s0) 6 ((14 * p1) + p2).toNatClampNeg p3))) else some (0, up2 v 0 0 s0)) rfl ?_
  refine sk_put (ref := "TunnelWatchModel") (fs := fun r => fs5 ad r) (ty := .int) F hK Lr_nd (Lr_mem (by decide)) shR_0 rfl iX5_lag_5 tyX5 tyX5_ok nmX5 0 (by decide) (by decide +kernel) (fun _ h9 => h9) rfl (by decide +kernel) rfl rfl (Nat.le_of_ble_eq_true rfl) rfl dX5_lag_24 ?_
  refine sk_aload_n F dX5_lag_27 rfl 0 rfl ?_
  refine sk_get (ref := "TunnelWatchModel") F hK (Lr_mem (by decide)) (shR_0 _) rfl iX5_lag_5 0 (by decide) (by decide +kernel) (fun _ h9 => h9) rfl dX5_lag_28 ?_
  refine sk_if_le F 36 dX5_lag_31 (by decide) (fun h7 => ?_) (fun h7 => ?_)
  · refine sk_aload_n F dX5_lag_36 rfl 0 rfl ?_
    refine sk_get (ref := "TunnelWatchModel") F hK (Lr_mem (by decide)) (shR_0 _) rfl iX5_lag_5 6 (by decide) (by decide +kernel) (fun _ h9 => h9) rfl dX5_lag_37 ?_
    refine sk_bipush (x := 14) F dX5_lag_40 (by decide) ?_
    refine sk_iload_n F dX5_lag_42 rfl 1 rfl ?_
    refine sk_imul F dX5_lag_43 ?_
    refine sk_iload_n F dX5_lag_44 rfl 2 rfl ?_
    refine sk_iadd F dX5_lag_45 ?_
    refine sk_iald F hK (Lr_mem (by decide)) (shR_6 _) 0 rfl dX5_lag_46 (fun h8 => ?_)
    refine sk_istore F dX5_lag_47 (by decide) rfl ?_
    refine sk_aload_n F dX5_lag_49 rfl 1 rfl ?_
    refine sk_get (ref := "TunnelWatchModel") F hK (Lr_mem (by decide)) (shR_0 _) rfl iX5_lag_5 6 (by decide) (by decide +kernel) (fun _ h9 => h9) rfl dX5_lag_50 ?_
    refine sk_bipush (x := 14) F dX5_lag_53 (by decide) ?_
    refine sk_iload_n F dX5_lag_55 rfl 2 rfl ?_
    refine sk_imul F dX5_lag_56 ?_
    refine sk_iload_n F dX5_lag_57 rfl 3 rfl ?_
    refine sk_iadd F dX5_lag_58 ?_
    refine sk_iload_n F dX5_lag_59 rfl 4 rfl ?_
    refine sk_iast F hK Lr_nd (Lr_mem (by decide)) shR_6 0 rfl dX5_lag_60 (fun h9 => ?_)
    refine sk_iload F dX5_lag_61 0 rfl ?_
    exact sk_iret F hK hr hlocks dX5_lag_63
  · refine sk_iconst (x := 0) F dX5_lag_34 (by decide) ?_
    exact sk_iret F hK hr hlocks dX5_lag_35
def fX5_lag_23 (p1 : Int32) (p2 : Int32) (p3 : Int32) (v : Mem) : Option (Int32 × Mem) := fX5_lag_24 p1 p2 p3 v 1
set_option maxRecDepth 100000 in
set_option maxHeartbeats 4000000 in
theorem kX5_lag_23 {p : Program} {l : Launch} {e : Env} {s : State} {m : MethodId} {args : Array Value} {below : List Frame} {meth : Method} {c : Code} {D : va_G} {A : Nat → Prop} {cI cS cF cZ cJ : ClassId} {ad : Nat → Nat} {X : va_W} {p1 : Int32} {p2 : Int32} {p3 : Int32} (G : cx p s m args meth c cX5_lag 5 wsX5_lag RX5 D (ty5 cI cS cF cZ cJ) A (some .int)) (v : Mem) : sk p l e rmX5_lag s m args below meth c D A 5 0 0 (fun res => MQ below (qi D A (ty5 cI cS cF cZ cJ) (Wr cI cZ ad X) res) args s 0 0 A) (Wr cI cZ ad X v) 23 [(0, .ref (ad 0)), (1, .int p1), (2, .int p2), (3, .int p3)] [.ref (ad 0)] (fX5_lag_23 p1 p2 p3 v) := by
  obtain ⟨F, hK, hA, hZ, hr, hlocks⟩ := G
  refine sk_eq (K' := fX5_lag_24 p1 p2 p3 v 1) rfl ?_
  refine sk_iconst (x := 1) F dX5_lag_23 (by decide) ?_
  exact kX5_lag_24 ⟨F, hK, hA, hZ, hr, hlocks⟩ v 1
def fX5_lag (p1 : Int32) (p2 : Int32) (p3 : Int32) (v : Mem) : Option (Int32 × Mem) := bd (fX5_isDevice p1 p2 v) fun x3 v2 => if x3 = 0 then fX5_lag_23 p1 p2 p3 v2 else if p3 < 0 then fX5_lag_23 p1 p2 p3 v2 else if 5 < p3 then fX5_lag_23 p1 p2 p3 v2 else fX5_lag_24 p1 p2 p3 v2 0
set_option maxRecDepth 100000 in
set_option maxHeartbeats 4000000 in
theorem kX5_lag_0 {p : Program} {l : Launch} {e : Env} {s : State} {m : MethodId} {args : Array Value} {below : List Frame} {meth : Method} {c : Code} {D : va_G} {A : Nat → Prop} {cI cS cF cZ cJ : ClassId} {ad : Nat → Nat} {X : va_W} {p1 : Int32} {p2 : Int32} {p3 : Int32} (G : cx p s m args meth c cX5_lag 5 wsX5_lag RX5 D (ty5 cI cS cF cZ cJ) A (some .int)) (v : Mem) : sk p l e rmX5_lag s m args below meth c D A 5 0 0 (fun res => MQ below (qi D A (ty5 cI cS cF cZ cJ) (Wr cI cZ ad X) res) args s 0 0 A) (Wr cI cZ ad X v) 0 [(0, .ref (ad 0)), (1, .int p1), (2, .int p2), (3, .int p3)] [] (fX5_lag p1 p2 p3 v) := by
  obtain ⟨F, hK, hA, hZ, hr, hlocks⟩ := G
  refine sk_eq (K' := bd (fX5_isDevice p1 p2 v) fun x3 v2 => if x3 = 0 then fX5_lag_23 p1 p2 p3 v2 else if p3 < 0 then fX5_lag_23 p1 p2 p3 v2 else if 5 < p3 then fX5_lag_23 p1 p2 p3 v2 else fX5_lag_24 p1 p2 p3 v2 0) rfl ?_
  refine sk_aload_n F dX5_lag_0 rfl 0 rfl ?_
  refine sk_aload_n F dX5_lag_1 rfl 0 rfl ?_
  refine sk_iload_n F dX5_lag_2 rfl 1 rfl ?_
  refine sk_iload_n F dX5_lag_3 rfl 2 rfl ?_
  refine sk_callVi (As := [.int p1, .int p2]) (rest := [.ref (ad 0)]) F hK hA hZ _ (tX5_isDevice _) (cwV 2 F.2.2.2.2 gX5_lag_X5_isDevice rfl rfl rfl (by decide +kernel) ⟨Nat.le_of_ble_eq_true rfl, Nat.le_of_ble_eq_true rfl⟩) (rc5 hK) rfl rfl (Nat.le_of_ble_eq_true rfl) (by decide) dX5_lag_4 (fun x3 v2 c1 => ?_)
  refine sk_if_eq F 23 dX5_lag_7 (by decide) (fun h4 => ?_) (fun h4 => ?_)
  · exact kX5_lag_23 ⟨F, hK, hA, hZ, hr, hlocks⟩ v2
  · refine sk_iload_n F dX5_lag_10 rfl 3 rfl ?_
    refine sk_if_lt F 23 dX5_lag_11 (by decide) (fun h5 => ?_) (fun h5 => ?_)
    · exact kX5_lag_23 ⟨F, hK, hA, hZ, hr, hlocks⟩ v2
    · refine sk_iload_n F dX5_lag_14 rfl 3 rfl ?_
      refine sk_iconst (x := 5) F dX5_lag_15 (by decide) ?_
      refine sk_icmp_gt F 23 dX5_lag_16 (by decide) (fun h6 => ?_) (fun h6 => ?_)
      · exact kX5_lag_23 ⟨F, hK, hA, hZ, hr, hlocks⟩ v2
      · refine sk_iconst (x := 0) F dX5_lag_19 (by decide) ?_
        refine sk_goto F 24 dX5_lag_20 (by decide) ?_
        exact kX5_lag_24 ⟨F, hK, hA, hZ, hr, hlocks⟩ v2 0
theorem tX5_lag {l : Launch} {D : va_G} {A : Nat → Prop} {cI cS cF cZ cJ : ClassId} {ad : Nat → Nat} {X : va_W} {p1 : Int32} {p2 : Int32} {p3 : Int32} (v : Mem) : CI l yX5_lag wsX5_lag rmX5_lag D A (ty5 cI cS cF cZ cJ) (Wr cI cZ ad X) [.ref (ad 0), .int p1, .int p2, .int p3] v (fX5_lag p1 p2 p3 v) :=
  CI_of (cc := cX5_lag) (maxL := 5) (ret := (some .int)) (by decide) rfl (Nat.le_of_ble_eq_true rfl) (fun p e s m below meth c G => kX5_lag_0 G v)
def rmX5_plan : Room := { frames := 2, cells := 0, slots := 0, locals := 42 }
theorem iX5_plan_5 : ∀ w ∈ wsX50, w ∈ wsX5_plan := by decide +kernel
def fX5_plan_61 (p1 : Int32) (p2 : Int32) (p3 : Int32) (p4 : Int32) (p5 : Int32) (p6 : Int32) (v : Mem) (s0 : Int32) (s1 : Int32) : Option (Mem) := bd (fX5_goes s1 s0 v) fun x14 v13 => if x14 = 0 then some v13 else gd (inb ((24 * p1) + p2) 48) (bd (fX5_turnOf p4 (up2 v13 20 ((24 * p1) + p2).toNatClampNeg p3)) fun x19 v18 => gd (inb ((24 * p1) + p2) 48) (gd (inb ((24 * p1) + p2) 48) (gd (inb ((24 * p1) + p2) 48) (some (up2 (up2 (up2 v18 21 ((24 * p1) + p2).toNatClampNeg x19) 22 ((24 * p1) + p2).toNatClampNeg p5) 24 ((24 * p1) + p2).toNatClampNeg p6)))))
set_option maxRecDepth 100000 in
set_option maxHeartbeats 4000000 in
theorem kX5_plan_61 {p : Program} {l : Launch} {e : Env} {s : State} {m : MethodId} {args : Array Value} {below : List Frame} {meth : Method} {c : Code} {D : va_G} {A : Nat → Prop} {cI cS cF cZ cJ : ClassId} {ad : Nat → Nat} {X : va_W} {p1 : Int32} {p2 : Int32} {p3 : Int32} {p4 : Int32} {p5 : Int32} {p6 : Int32} (G : cx p s m args meth c cX5_plan 8 wsX5_plan RX5 D (ty5 cI cS cF cZ cJ) A none) (v : Mem) (s0 : Int32) (s1 : Int32) : sk p l e rmX5_plan s m args below meth c D A 8 0 0 (fun res => MQ below (qv D A (ty5 cI cS cF cZ cJ) (Wr cI cZ ad X) res) args s 0 0 A) (Wr cI cZ ad X v) 61 [(0, .ref (ad 0)), (1, .int p1), (2, .int p2), (3, .int p3), (4, .int p4), (5, .int p5), (6, .int p6)] [.int s0, .int s1, .ref (ad 0)] (fX5_plan_61 p1 p2 p3 p4 p5 p6 v s0 s1) := by
  obtain ⟨F, hK, hA, hZ, hr, hlocks⟩ := G
  refine sk_eq (K' := bd (fX5_goes s1 s0 v) fun x14 v13 => if x14 = 0 then some v13 else gd (inb ((24 * p1) + p2) 48) (bd (fX5_turnOf p4 (up2 v13 20 ((24 * p1) + p2).toNatClampNeg p3)) fun x19 v18 => gd (inb ((24 * p1) + p2) 48) (gd (inb ((24 * p1) + p2) 48) (gd (inb ((24 * p1) + p2) 48) (some (up2 (up2 (up2 v18 21 ((24 * p1) + p2).toNatClampNeg x19) 22 ((24 * p1) + p2).toNatClampNeg p5) 24 ((24 * p1) + p2).toNatClampNeg p6)))))) rfl ?_
  refine sk_callVi (As := [.int s1, .int s0]) (rest := []) F hK hA hZ _ (tX5_goes _) (cwV 2 F.2.2.2.2 gX5_plan_X5_goes rfl rfl rfl (by decide +kernel) ⟨Nat.le_of_ble_eq_true rfl, Nat.le_of_ble_eq_true rfl⟩) (rc5 hK) rfl rfl (Nat.le_of_ble_eq_true rfl) (by decide) dX5_plan_61 (fun x14 v13 c12 => ?_)
  refine sk_if_eq F 113 dX5_plan_64 (by decide) (fun h15 => ?_) (fun h15 => ?_)
  · exact sk_vret F hK hr hlocks dX5_plan_113
  · refine sk_bipush (x := 24) F dX5_plan_67 (by decide) ?_
    refine sk_iload_n F dX5_plan_69 rfl 1 rfl ?_
    refine sk_imul F dX5_plan_70 ?_
    refine sk_iload_n F dX5_plan_71 rfl 2 rfl ?_
    refine sk_iadd F dX5_plan_72 ?_
    refine sk_istore F dX5_plan_73 (by decide) rfl ?_
    refine sk_aload_n F dX5_plan_75 rfl 1 rfl ?_
    refine sk_get (ref := "TunnelWatchModel") F hK (Lr_mem (by decide)) (shR_0 _) rfl iX5_plan_5 20 (by decide) (by decide +kernel) (fun _ h9 => h9) rfl dX5_plan_76 ?_
    refine sk_iload F dX5_plan_79 0 rfl ?_
    refine sk_iload_n F dX5_plan_81 rfl 4 rfl ?_
    refine sk_iast F hK Lr_nd (Lr_mem (by decide)) shR_20 0 rfl dX5_plan_82 (fun h16 => ?_)
    refine sk_aload_n F dX5_plan_83 rfl 1 rfl ?_
    refine sk_get (ref := "TunnelWatchModel") F hK (Lr_mem (by decide)) (shR_0 _) rfl iX5_plan_5 21 (by decide) (by decide +kernel) (fun _ h9 => h9) rfl dX5_plan_84 ?_
    refine sk_iload F dX5_plan_87 0 rfl ?_
    refine sk_iload F dX5_plan_89 5 rfl ?_
    refine sk_callSi (As := [.int p4]) (rest := [.int ((24 * p1) + p2), .ref (ad 21)]) F hK hA hZ _ (tX5_turnOf _) (va_cwS 1 F.2.2.2.2 gX5_plan_X5_turnOf rfl rfl rfl (by decide +kernel) ⟨Nat.le_of_ble_eq_true rfl, Nat.le_of_ble_eq_true rfl⟩) rfl rfl (Nat.le_of_ble_eq_true rfl) (by decide) dX5_plan_91 (fun x19 v18 c17 => ?_)
    refine sk_iast F hK Lr_nd (Lr_mem (by decide)) shR_21 0 rfl dX5_plan_94 (fun h20 => ?_)
    refine sk_aload_n F dX5_plan_95 rfl 1 rfl ?_
    refine sk_get (ref := "TunnelWatchModel") F hK (Lr_mem (by decide)) (shR_0 _) rfl iX5_plan_5 22 (by decide) (by decide +kernel) (fun _ h9 => h9) rfl dX5_plan_96 ?_
    refine sk_iload F dX5_plan_99 0 rfl ?_
    refine sk_iload F dX5_plan_101 6 rfl ?_
    refine sk_iast F hK Lr_nd (Lr_mem (by decide)) shR_22 0 rfl dX5_plan_103 (fun h21 => ?_)
    refine sk_aload_n F dX5_plan_104 rfl 1 rfl ?_
    refine sk_get (ref := "TunnelWatchModel") F hK (Lr_mem (by decide)) (shR_0 _) rfl iX5_plan_5 24 (by decide) (by decide +kernel) (fun _ h9 => h9) rfl dX5_plan_105 ?_
    refine sk_iload F dX5_plan_108 0 rfl ?_
    refine sk_iload F dX5_plan_110 7 rfl ?_
    refine sk_iast F hK Lr_nd (Lr_mem (by decide)) shR_24 0 rfl dX5_plan_112 (fun h22 => ?_)
    exact sk_vret F hK hr hlocks dX5_plan_113
def fX5_plan_49 (p1 : Int32) (p2 : Int32) (p3 : Int32) (p4 : Int32) (p5 : Int32) (p6 : Int32) (v : Mem) (s0 : Int32) : Option (Mem) := if (v 0 4) = 0 then fX5_plan_61 p1 p2 p3 p4 p5 p6 v 1 s0 else fX5_plan_61 p1 p2 p3 p4 p5 p6 v 0 s0
set_option maxRecDepth 100000 in
set_option maxHeartbeats 4000000 in
theorem kX5_plan_49 {p : Program} {l : Launch} {e : Env} {s : State} {m : MethodId} {args : Array Value} {below : List Frame} {meth : Method} {c : Code} {D : va_G} {A : Nat → Prop} {cI cS cF cZ cJ : ClassId} {ad : Nat → Nat} {X : va_W} {p1 : Int32} {p2 : Int32} {p3 : Int32} {p4 : Int32} {p5 : Int32} {p6 : Int32} (G : cx p s m args meth c cX5_plan 8 wsX5_plan RX5 D (ty5 cI cS cF cZ cJ) A none) (v : Mem) (s0 : Int32) : sk p l e rmX5_plan s m args below meth c D A 8 0 0 (fun res => MQ below (qv D A (ty5 cI cS cF cZ cJ) (Wr cI cZ ad X) res) args s 0 0 A) (Wr cI cZ ad X v) 49 [(0, .ref (ad 0)), (1, .int p1), (2, .int p2), (3, .int p3), (4, .int p4), (5, .int p5), (6, .int p6)] [.int s0, .ref (ad 0)] (fX5_plan_49 p1 p2 p3 p4 p5 p6 v s0) := by
  obtain ⟨F, hK, hA, hZ, hr, hlocks⟩ := G
  refine sk_eq (K' := if (v 0 4) = 0 then fX5_plan_61 p1 p2 p3 p4 p5 p6 v 1 s0 else fX5_plan_61 p1 p2 p3 p4 p5 p6 v 0 s0) rfl ?_
  refine sk_aload_n F dX5_plan_49 rfl 0 rfl ?_
  refine sk_get (ref := "TunnelWatchModel") F hK (Lr_mem (by decide)) (shR_0 _) rfl iX5_plan_5 4 (by decide) (by decide +kernel) (fun _ h9 => h9) rfl dX5_plan_50 ?_
  refine sk_if_ne F 60 dX5_plan_53 (by decide) (fun h11 => ?_) (fun h11 => ?_)
  · refine sk_iconst (x := 0) F dX5_plan_60 (by decide) ?_
    exact kX5_plan_61 ⟨F, hK, hA, hZ, hr, hlocks⟩ v 0 s0
  · refine sk_iconst (x := 1) F dX5_plan_56 (by decide) ?_
    refine sk_goto F 61 dX5_plan_57 (by decide) ?_
    exact kX5_plan_61 ⟨F, hK, hA, hZ, hr, hlocks⟩ v 1 s0
def fX5_plan_48 (p1 : Int32) (p2 : Int32) (p3 : Int32) (p4 : Int32) (p5 : Int32) (p6 : Int32) (v : Mem) : Option (Mem) := fX5_plan_49 p1 p2 p3 p4 p5 p6 v 0
set_option maxRecDepth 100000 in
set_option maxHeartbeats 4000000 in
theorem kX5_plan_48 {p : Program} {l : Launch} {e : Env} {s : State} {m : MethodId} {args : Array Value} {below : List Frame} {meth : Method} {c : Code} {D : va_G} {A : Nat → Prop} {cI cS cF cZ cJ : ClassId} {ad : Nat → Nat} {X : va_W} {p1 : Int32} {p2 : Int32} {p3 : Int32} {p4 : Int32} {p5 : Int32} {p6 : Int32} (G : cx p s m args meth c cX5_plan 8 wsX5_plan RX5 D (ty5 cI cS cF cZ cJ) A none) (v : Mem) : sk p l e rmX5_plan s m args below meth c D A 8 0 0 (fun res => MQ below (qv D A (ty5 cI cS cF cZ cJ) (Wr cI cZ ad X) res) args s 0 0 A) (Wr cI cZ ad X v) 48 [(0, .ref (ad 0)), (1, .int p1), (2, .int p2), (3, .int p3), (4, .int p4), (5, .int p5), (6, .int p6)] [.ref (ad 0)] (fX5_plan_48 p1 p2 p3 p4 p5 p6 v) := by
  obtain ⟨F, hK, hA, hZ, hr, hlocks⟩ := G
  refine sk_eq (K' := fX5_plan_49 p1 p2 p3 p4 p5 p6 v 0) rfl ?_
  refine sk_iconst (x := 0) F dX5_plan_48 (by decide) ?_
  exact kX5_plan_49 ⟨F, hK, hA, hZ, hr, hlocks⟩ v 0
def fX5_plan (p1 : Int32) (p2 : Int32) (p3 : Int32) (p4 : Int32) (p5 : Int32) (p6 : Int32) (v : Mem) : Option (Mem) := bd (fX5_isSection p1 p2 v) fun x3 v2 => if x3 = 0 then fX5_plan_48 p1 p2 p3 p4 p5 p6 v2 else if p3 < 0 then fX5_plan_48 p1 p2 p3 p4 p5 p6 v2 else if 100 < p3 then fX5_plan_48 p1 p2 p3 p4 p5 p6 v2 else if p5 < 0 then fX5_plan_48 p1 p2 p3 p4 p5 p6 v2 else if 12 < p5 then fX5_plan_48 p1 p2 p3 p4 p5 p6 v2 else if p6 < 0 then fX5_plan_48 p1 p2 p3 p4 p5 p6 v2 else if 12 < p6 then fX5_plan_48 p1 p2 p3 p4 p5 p6 v2 else fX5_plan_49 p1 p2 p3 p4 p5 p6 v2 1
set_option maxRecDepth 100000 in
set_option maxHeartbeats 4000000 in
theorem kX5_plan_0 {p : Program} {l : Launch} {e : Env} {s : State} {m : MethodId} {args : Array Value} {below : List Frame} {meth : Method} {c : Code} {D : va_G} {A : Nat → Prop} {cI cS cF cZ cJ : ClassId} {ad : Nat → Nat} {X : va_W} {p1 : Int32} {p2 : Int32} {p3 : Int32} {p4 : Int32} {p5 : Int32} {p6 : Int32} (G : cx p s m args meth c cX5_plan 8 wsX5_plan RX5 D (ty5 cI cS cF cZ cJ) A none) (v : Mem) : sk p l e rmX5_plan s m args below meth c D A 8 0 0 (fun res => MQ below (qv D A (ty5 cI cS cF cZ cJ) (Wr cI cZ ad X) res) args s 0 0 A) (Wr cI cZ ad X v) 0 [(0, .ref (ad 0)), (1, .int p1), (2, .int p2), (3, .int p3), (4, .int p4), (5, .int p5), (6, .int p6)] [] (fX5_plan p1 p2 p3 p4 p5 p6 v) := by
  obtain ⟨F, hK, hA, hZ, hr, hlocks⟩ := G
  refine sk_eq (K' := bd (fX5_isSection p1 p2 v) fun x3 v2 => if x3 = 0 then fX5_plan_48 p1 p2 p3 p4 p5 p6 v2 else if p3 < 0 then fX5_plan_48 p1 p2 p3 p4 p5 p6 v2 else if 100 < p3 then fX5_plan_48 p1 p2 p3 p4 p5 p6 v2 else if p5 < 0 then fX5_plan_48 p1 p2 p3 p4 p5 p6 v2 else if 12 < p5 then fX5_plan_48 p1 p2 p3 p4 p5 p6 v2 else if p6 < 0 then fX5_plan_48 p1 p2 p3 p4 p5 p6 v2 else if 12 < p6 then fX5_plan_48 p1 p2 p3 p4 p5 p6 v2 else fX5_plan_49 p1 p2 p3 p4 p5 p6 v2 1) rfl ?_
  refine sk_aload_n F dX5_plan_0 rfl 0 rfl ?_
  refine sk_aload_n F dX5_plan_1 rfl 0 rfl ?_
  refine sk_iload_n F dX5_plan_2 rfl 1 rfl ?_
  refine sk_iload_n F dX5_plan_3 rfl 2 rfl ?_
  refine sk_callVi (As := [.int p1, .int p2]) (rest := [.ref (ad 0)]) F hK hA hZ _ (tX5_isSection _) (cwV 2 F.2.2.2.2 gX5_plan_X5_isSection rfl rfl rfl (by decide +kernel) ⟨Nat.le_of_ble_eq_true rfl, Nat.le_of_ble_eq_true rfl⟩) (rc5 hK) rfl rfl (Nat.le_of_ble_eq_true rfl) (by decide) dX5_plan_4 (fun x3 v2 c1 => ?_)
  refine sk_if_eq F 48 dX5_plan_7 (by decide) (fun h4 => ?_) (fun h4 => ?_)
  · exact kX5_plan_48 ⟨F, hK, hA, hZ, hr, hlocks⟩ v2
  · refine sk_iload_n F dX5_plan_10 rfl 3 rfl ?_
    refine sk_if_lt F 48 dX5_plan_11 (by decide) (fun h5 => ?_) (fun h5 => ?_)
    · exact kX5_plan_48 ⟨F, hK, hA, hZ, hr, hlocks⟩ v2
    · refine sk_iload_n F dX5_plan_14 rfl 3 rfl ?_
      refine sk_bipush (x := 100) F dX5_plan_15 (by decide) ?_
      refine sk_icmp_gt F 48 dX5_plan_17 (by decide) (fun h6 => ?_) (fun h6 => ?_)
      · exact kX5_plan_48 ⟨F, hK, hA, hZ, hr, hlocks⟩ v2
      · refine sk_iload F dX5_plan_20 5 rfl ?_
        refine sk_if_lt F 48 dX5_plan_22 (by decide) (fun h7 => ?_) (fun h7 => ?_)
        · exact kX5_plan_48 ⟨F, hK, hA, hZ, hr, hlocks⟩ v2
        · refine sk_iload F dX5_plan_25 5 rfl ?_
          refine sk_bipush (x := 12) F dX5_plan_27 (by decide) ?_
          refine sk_icmp_gt F 48 dX5_plan_29 (by decide) (fun h8 => ?_) (fun h8 => ?_)
          · exact kX5_plan_48 ⟨F, hK, hA, hZ, hr, hlocks⟩ v2
          · refine sk_iload F dX5_plan_32 6 rfl ?_
            refine sk_if_lt F 48 dX5_plan_34 (by decide) (fun h9 => ?_) (fun h9 => ?_)
            · exact kX5_plan_48 ⟨F, hK, hA, hZ, hr, hlocks⟩ v2
            · refine sk_iload F dX5_plan_37 6 rfl ?_
              refine sk_bipush (x := 12) F dX5_plan_39 (by decide) ?_
              refine sk_icmp_gt F 48 dX5_plan_41 (by decide) (fun h10 => ?_) (fun h10 => ?_)
              · exact kX5_plan_48 ⟨F, hK, hA, hZ, hr, hlocks⟩ v2
              · refine sk_iconst (x := 1) F dX5_plan_44 (by decide) ?_
                refine sk_goto F 49 dX5_plan_45 (by decide) ?_
                exact kX5_plan_49 ⟨F, hK, hA, hZ, hr, hlocks⟩ v2 1
theorem tX5_plan {l : Launch} {D : va_G} {A : Nat → Prop} {cI cS cF cZ cJ : ClassId} {ad : Nat → Nat} {X : va_W} {p1 : Int32} {p2 : Int32} {p3 : Int32} {p4 : Int32} {p5 : Int32} {p6 : Int32} (v : Mem) : CV l yX5_plan wsX5_plan rmX5_plan D A (ty5 cI cS cF cZ cJ) (Wr cI cZ ad X) [.ref (ad 0), .int p1, .int p2, .int p3, .int p4, .int p5, .int p6] v (fX5_plan p1 p2 p3 p4 p5 p6 v) :=
  CV_of (cc := cX5_plan) (maxL := 8) (ret := none) (by decide) rfl (Nat.le_of_ble_eq_true rfl) (fun p e s m below meth c G => kX5_plan_0 G v)
def rmX5_turn : Room := { frames := 2, cells := 0, slots := 0, locals := 42 }
theorem iX5_turn_5 : ∀ w ∈ wsX50, w ∈ wsX5_turn := by decide +kernel
def fX5_turn_19 (p1 : Int32) (p2 : Int32) (p3 : Int32) (v : Mem) (s0 : Int32) (s1 : Int32) : Option (Mem) := bd (fX5_goes s1 s0 v) fun x7 v6 => if x7 = 0 then some v6 else bd (fX5_turnOf p3 v6) fun x11 v10 => gd (inb ((24 * p1) + p2) 48) (some (up2 v10 23 ((24 * p1) + p2).toNatClampNeg x11))
set_option maxRecDepth 100000 in
set_option maxHeartbeats 4000000 in
theorem kX5_turn_19 {p : Program} {l : Launch} {e : Env} {s : State} {m : MethodId} {args : Array Value} {below : List Frame} {meth : Method} {c : Code} {D : va_G} {A : Nat → Prop} {cI cS cF cZ cJ : ClassId} {ad : Nat → Nat} {X : va_W} {p1 : Int32} {p2 : Int32} {p3 : Int32} (G : cx p s m args meth c cX5_turn 4 wsX5_turn RX5 D (ty5 cI cS cF cZ cJ) A none) (v : Mem) (s0 : Int32) (s1 : Int32) : sk p l e rmX5_turn s m args below meth c D A 4 0 0 (fun res => MQ below (qv D A (ty5 cI cS cF cZ cJ) (Wr cI cZ ad X) res) args s 0 0 A) (Wr cI cZ ad X v) 19 [(0, .ref (ad 0)), (1, .int p1), (2, .int p2), (3, .int p3)] [.int s0, .int s1, .ref (ad 0)] (fX5_turn_19 p1 p2 p3 v s0 s1) := by
  obtain ⟨F, hK, hA, hZ, hr, hlocks⟩ := G
  refine sk_eq (K' := bd (fX5_goes s1 s0 v) fun x7 v6 => if x7 = 0 then some v6 else bd (fX5_turnOf p3 v6) fun x11 v10 => gd (inb ((24 * p1) + p2) 48) (some (up2 v10 23 ((24 * p1) + p2).toNatClampNeg x11))) rfl ?_
  refine sk_callVi (As := [.int s1, .int s0]) (rest := []) F hK hA hZ _ (tX5_goes _) (cwV 2 F.2.2.2.2 gX5_turn_X5_goes rfl rfl rfl (by decide +kernel) ⟨Nat.le_of_ble_eq_true rfl, Nat.le_of_ble_eq_true rfl⟩) (rc5 hK) rfl rfl (Nat.le_of_ble_eq_true rfl) (by decide) dX5_turn_19 (fun x7 v6 c5 => ?_)
  refine sk_if_eq F 40 dX5_turn_22 (by decide) (fun h8 => ?_) (fun h8 => ?_)
  · exact sk_vret F hK hr hlocks dX5_turn_40
  · refine sk_aload_n F dX5_turn_25 rfl 0 rfl ?_
    refine sk_get (ref := "TunnelWatchModel") F hK (Lr_mem (by decide)) (shR_0 _) rfl iX5_turn_5 23 (by decide) (by decide +kernel) (fun _ h9 => h9) rfl dX5_turn_26 ?_
    refine sk_bipush (x := 24) F dX5_turn_29 (by decide) ?_
    refine sk_iload_n F dX5_turn_31 rfl 1 rfl ?_
    refine sk_imul F dX5_turn_32 ?_
    refine sk_iload_n F dX5_turn_33 rfl 2 rfl ?_
    refine sk_iadd F dX5_turn_34 ?_
    refine sk_iload_n F dX5_turn_35 rfl 3 rfl ?_
    refine sk_callSi (As := [.int p3]) (rest := [.int ((24 * p1) + p2), .ref (ad 23)]) F hK hA hZ _ (tX5_turnOf _) (va_cwS 1 F.2.2.2.2 gX5_turn_X5_turnOf rfl rfl rfl (by decide +kernel) ⟨Nat.le_of_ble_eq_true rfl, Nat.le_of_ble_eq_true rfl⟩) rfl rfl (Nat.le_of_ble_eq_true rfl) (by decide) dX5_turn_36 (fun x11 v10 c9 => ?_)
    refine sk_iast F hK Lr_nd (Lr_mem (by decide)) shR_23 0 rfl dX5_turn_39 (fun h12 => ?_)
    exact sk_vret F hK hr hlocks dX5_turn_40
def fX5_turn (p1 : Int32) (p2 : Int32) (p3 : Int32) (v : Mem) : Option (Mem) := bd (fX5_isSection p1 p2 v) fun x3 v2 => if (v2 0 4) = 0 then fX5_turn_19 p1 p2 p3 v2 1 x3 else fX5_turn_19 p1 p2 p3 v2 0 x3
set_option maxRecDepth 100000 in
set_option maxHeartbeats 4000000 in
theorem kX5_turn_0 {p : Program} {l : Launch} {e : Env} {s : State} {m : MethodId} {args : Array Value} {below : List Frame} {meth : Method} {c : Code} {D : va_G} {A : Nat → Prop} {cI cS cF cZ cJ : ClassId} {ad : Nat → Nat} {X : va_W} {p1 : Int32} {p2 : Int32} {p3 : Int32} (G : cx p s m args meth c cX5_turn 4 wsX5_turn RX5 D (ty5 cI cS cF cZ cJ) A none) (v : Mem) : sk p l e rmX5_turn s m args below meth c D A 4 0 0 (fun res => MQ below (qv D A (ty5 cI cS cF cZ cJ) (Wr cI cZ ad X) res) args s 0 0 A) (Wr cI cZ ad X v) 0 [(0, .ref (ad 0)), (1, .int p1), (2, .int p2), (3, .int p3)] [] (fX5_turn p1 p2 p3 v) := by
  obtain ⟨F, hK, hA, hZ, hr, hlocks⟩ := G
  refine sk_eq (K' := bd (fX5_isSection p1 p2 v) fun x3 v2 => if (v2 0 4) = 0 then fX5_turn_19 p1 p2 p3 v2 1 x3 else fX5_turn_19 p1 p2 p3 v2 0 x3) rfl ?_
  refine sk_aload_n F dX5_turn_0 rfl 0 rfl ?_
  refine sk_aload_n F dX5_turn_1 rfl 0 rfl ?_
  refine sk_iload_n F dX5_turn_2 rfl 1 rfl ?_
  refine sk_iload_n F dX5_turn_3 rfl 2 rfl ?_
  refine sk_callVi (As := [.int p1, .int p2]) (rest := [.ref (ad 0)]) F hK hA hZ _ (tX5_isSection _) (cwV 2 F.2.2.2.2 gX5_turn_X5_isSection rfl rfl rfl (by decide +kernel) ⟨Nat.le_of_ble_eq_true rfl, Nat.le_of_ble_eq_true rfl⟩) (rc5 hK) rfl rfl (Nat.le_of_ble_eq_true rfl) (by decide) dX5_turn_4 (fun x3 v2 c1 => ?_)
  refine sk_aload_n F dX5_turn_7 rfl 0 rfl ?_
  refine sk_get (ref := "TunnelWatchModel") F hK (Lr_mem (by decide)) (shR_0 _) rfl iX5_turn_5 4 (by decide) (by decide +kernel) (fun _ h9 => h9) rfl dX5_turn_8 ?_
  refine sk_if_ne F 18 dX5_turn_11 (by decide) (fun h4 => ?_) (fun h4 => ?_)
  · refine sk_iconst (x := 0) F dX5_turn_18 (by decide) ?_
    exact kX5_turn_19 ⟨F, hK, hA, hZ, hr, hlocks⟩ v2 0 x3
  · refine sk_iconst (x := 1) F dX5_turn_14 (by decide) ?_
    refine sk_goto F 19 dX5_turn_15 (by decide) ?_
    exact kX5_turn_19 ⟨F, hK, hA, hZ, hr, hlocks⟩ v2 1 x3
theorem tX5_turn {l : Launch} {D : va_G} {A : Nat → Prop} {cI cS cF cZ cJ : ClassId} {ad : Nat → Nat} {X : va_W} {p1 : Int32} {p2 : Int32} {p3 : Int32} (v : Mem) : CV l yX5_turn wsX5_turn rmX5_turn D A (ty5 cI cS cF cZ cJ) (Wr cI cZ ad X) [.ref (ad 0), .int p1, .int p2, .int p3] v (fX5_turn p1 p2 p3 v) :=
  CV_of (cc := cX5_turn) (maxL := 4) (ret := none) (by decide) rfl (Nat.le_of_ble_eq_true rfl) (fun p e s m below meth c G => kX5_turn_0 G v)
def rmX5_sense : Room := { frames := 2, cells := 0, slots := 0, locals := 42 }
theorem iX5_sense_5 : ∀ w ∈ wsX50, w ∈ wsX5_sense := by decide +kernel
def fX5_sense_25 (p1 : Int32) (p2 : Int32) (p3 : Int32) (v : Mem) (s0 : Int32) : Option (Int32 × Mem) := if ((up2 v 0 0 s0) 0 0) ≤ 0 then gd (inb ((24 * p1) + p2) 48) (gd (inb ((24 * p1) + p2) 48) (some ((up2 v 0 0 s0) 17 ((24 * p1) + p2).toNatClampNeg, up2 (up2 v 0 0 s0) 17 ((24 * p1) + p2).toNatClampNeg p3))) else some (0, up2 v 0 0 s0)
set_option maxRecDepth 100000 in
set_option maxHeartbeats 4000000 in
theorem kX5_sense_25 {p : Program} {l : Launch} {e : Env} {s : State} {m : MethodId} {args : Array Value} {below : List Frame} {meth : Method} {c : Code} {D : va_G} {A : Nat → Prop} {cI cS cF cZ cJ : ClassId} {ad : Nat → Nat} {X : va_W} {p1 : Int32} {p2 : Int32} {p3 : Int32} (G : cx p s m args meth c cX5_sense 5 wsX5_sense RX5 D (ty5 cI cS cF cZ cJ) A (some .int)) (v : Mem) (s0 : Int32) : sk p l e rmX5_sense s m args below meth c D A 5 0 0 (fun res => MQ below (qi D A (ty5 cI cS cF cZ cJ) (Wr cI cZ ad X) res) args s 0 0 A) (Wr cI cZ ad X v) 25 [(0, .ref (ad 0)), (1, .int p1), (2, .int p2), (3, .int p3)] [.int s0, .ref (ad 0)] (fX5_sense_25 p1 p2 p3 v s0) := by
  obtain ⟨F, hK, hA, hZ, hr, hlocks⟩ := G
  refine sk_eq (K' := if ((up2 v 0 0 s0) 0 0) ≤ 0 then gd (inb ((24 * p1) + p2) 48) (gd (inb ((24 * p1) + p2) 48) (some ((up2 v 0 0 s0) 17 ((24 * p1) + p2).toNatClampNeg, up2 (up2 v 0 0 s0) 17 ((24 * p1) + p2).toNatClampNeg p3))) else some (0, up2 v 0 0 s0)) rfl ?_
  refine sk_put (ref := "TunnelWatchModel") (fs := fun r => fs5 ad r) (ty := .int) F hK Lr_nd (Lr_mem (by decide)) shR_0 rfl iX5_sense_5 tyX5 tyX5_ok nmX5 0 (by decide) (by decide +kernel) (fun _ h9 => h9) rfl (by decide +kernel) rfl rfl (Nat.le_of_ble_eq_true rfl) rfl dX5_sense_25 ?_
  refine sk_aload_n F dX5_sense_28 rfl 0 rfl ?_
  refine sk_get (ref := "TunnelWatchModel") F hK (Lr_mem (by decide)) (shR_0 _) rfl iX5_sense_5 0 (by decide) (by decide +kernel) (fun _ h9 => h9) rfl dX5_sense_29 ?_
  refine sk_if_le F 37 dX5_sense_32 (by decide) (fun h7 => ?_) (fun h7 => ?_)
  · refine sk_aload_n F dX5_sense_37 rfl 0 rfl ?_
    refine sk_get (ref := "TunnelWatchModel") F hK (Lr_mem (by decide)) (shR_0 _) rfl iX5_sense_5 17 (by decide) (by decide +kernel) (fun _ h9 => h9) rfl dX5_sense_38 ?_
    refine sk_bipush (x := 24) F dX5_sense_41 (by decide) ?_
    refine sk_iload_n F dX5_sense_43 rfl 1 rfl ?_
    refine sk_imul F dX5_sense_44 ?_
    refine sk_iload_n F dX5_sense_45 rfl 2 rfl ?_
    refine sk_iadd F dX5_sense_46 ?_
    refine sk_iald F hK (Lr_mem (by decide)) (shR_17 _) 0 rfl dX5_sense_47 (fun h8 => ?_)
    refine sk_istore F dX5_sense_48 (by decide) rfl ?_
    refine sk_aload_n F dX5_sense_50 rfl 1 rfl ?_
    refine sk_get (ref := "TunnelWatchModel") F hK (Lr_mem (by decide)) (shR_0 _) rfl iX5_sense_5 17 (by decide) (by decide +kernel) (fun _ h9 => h9) rfl dX5_sense_51 ?_
    refine sk_bipush (x := 24) F dX5_sense_54 (by decide) ?_
    refine sk_iload_n F dX5_sense_56 rfl 2 rfl ?_
    refine sk_imul F dX5_sense_57 ?_
    refine sk_iload_n F dX5_sense_58 rfl 3 rfl ?_
    refine sk_iadd F dX5_sense_59 ?_
    refine sk_iload_n F dX5_sense_60 rfl 4 rfl ?_
    refine sk_iast F hK Lr_nd (Lr_mem (by decide)) shR_17 0 rfl dX5_sense_61 (fun h9 => ?_)
    refine sk_iload F dX5_sense_62 0 rfl ?_
    exact sk_iret F hK hr hlocks dX5_sense_64
  · refine sk_iconst (x := 0) F dX5_sense_35 (by decide) ?_
    exact sk_iret F hK hr hlocks dX5_sense_36
def fX5_sense_24 (p1 : Int32) (p2 : Int32) (p3 : Int32) (v : Mem) : Option (Int32 × Mem) := fX5_sense_25 p1 p2 p3 v 1
set_option maxRecDepth 100000 in
set_option maxHeartbeats 4000000 in
theorem kX5_sense_24 {p : Program} {l : Launch} {e : Env} {s : State} {m : MethodId} {args : Array Value} {below : List Frame} {meth : Method} {c : Code} {D : va_G} {A : Nat → Prop} {cI cS cF cZ cJ : ClassId} {ad : Nat → Nat} {X : va_W} {p1 : Int32} {p2 : Int32} {p3 : Int32} (G : cx p s m args meth c cX5_sense 5 wsX5_sense RX5 D (ty5 cI cS cF cZ cJ) A (some .int)) (v : Mem) : sk p l e rmX5_sense s m args below meth c D A 5 0 0 (fun res => MQ below (qi D A (ty5 cI cS cF cZ cJ) (Wr cI cZ ad X) res) args s 0 0 A) (Wr cI cZ ad X v) 24 [(0, .ref (ad 0)), (1, .int p1), (2, .int p2), (3, .int p3)] [.ref (ad 0)] (fX5_sense_24 p1 p2 p3 v) := by
  obtain ⟨F, hK, hA, hZ, hr, hlocks⟩ := G
  refine sk_eq (K' := fX5_sense_25 p1 p2 p3 v 1) rfl ?_
  refine sk_iconst (x := 1) F dX5_sense_24 (by decide) ?_
  exact kX5_sense_25 ⟨F, hK, hA, hZ, hr, hlocks⟩ v 1
def fX5_sense (p1 : Int32) (p2 : Int32) (p3 : Int32) (v : Mem) : Option (Int32 × Mem) := bd (fX5_isSection p1 p2 v) fun x3 v2 => if x3 = 0 then fX5_sense_24 p1 p2 p3 v2 else if p3 < 0 then fX5_sense_24 p1 p2 p3 v2 else if 100 < p3 then fX5_sense_24 p1 p2 p3 v2 else fX5_sense_25 p1 p2 p3 v2 0
set_option maxRecDepth 100000 in
set_option maxHeartbeats 4000000 in
theorem kX5_sense_0 {p : Program} {l : Launch} {e : Env} {s : State} {m : MethodId} {args : Array Value} {below : List Frame} {meth : Method} {c : Code} {D : va_G} {A : Nat → Prop} {cI cS cF cZ cJ : ClassId} {ad : Nat → Nat} {X : va_W} {p1 : Int32} {p2 : Int32} {p3 : Int32} (G : cx p s m args meth c cX5_sense 5 wsX5_sense RX5 D (ty5 cI cS cF cZ cJ) A (some .int)) (v : Mem) : sk p l e rmX5_sense s m args below meth c D A 5 0 0 (fun res => MQ below (qi D A (ty5 cI cS cF cZ cJ) (Wr cI cZ ad X) res) args s 0 0 A) (Wr cI cZ ad X v) 0 [(0, .ref (ad 0)), (1, .int p1), (2, .int p2), (3, .int p3)] [] (fX5_sense p1 p2 p3 v) := by
  obtain ⟨F, hK, hA, hZ, hr, hlocks⟩ := G
  refine sk_eq (K' := bd (fX5_isSection p1 p2 v) fun x3 v2 => if x3 = 0 then fX5_sense_24 p1 p2 p3 v2 else if p3 < 0 then fX5_sense_24 p1 p2 p3 v2 else if 100 < p3 then fX5_sense_24 p1 p2 p3 v2 else fX5_sense_25 p1 p2 p3 v2 0) rfl ?_
  refine sk_aload_n F dX5_sense_0 rfl 0 rfl ?_
  refine sk_aload_n F dX5_sense_1 rfl 0 rfl ?_
  refine sk_iload_n F dX5_sense_2 rfl 1 rfl ?_
  refine sk_iload_n F dX5_sense_3 rfl 2 rfl ?_
  refine sk_callVi (As := [.int p1, .int p2]) (rest := [.ref (ad 0)]) F hK hA hZ _ (tX5_isSection _) (cwV 2 F.2.2.2.2 gX5_sense_X5_isSection rfl rfl rfl (by decide +kernel) ⟨Nat.le_of_ble_eq_true rfl, Nat.le_of_ble_eq_true rfl⟩) (rc5 hK) rfl rfl (Nat.le_of_ble_eq_true rfl) (by decide) dX5_sense_4 (fun x3 v2 c1 => ?_)
  refine sk_if_eq F 24 dX5_sense_7 (by decide) (fun h4 => ?_) (fun h4 => ?_)
  · exact kX5_sense_24 ⟨F, hK, hA, hZ, hr, hlocks⟩ v2
  · refine sk_iload_n F dX5_sense_10 rfl 3 rfl ?_
    refine sk_if_lt F 24 dX5_sense_11 (by decide) (fun h5 => ?_) (fun h5 => ?_)
    · exact kX5_sense_24 ⟨F, hK, hA, hZ, hr, hlocks⟩ v2
    · refine sk_iload_n F dX5_sense_14 rfl 3 rfl ?_
      refine sk_bipush (x := 100) F dX5_sense_15 (by decide) ?_
      refine sk_icmp_gt F 24 dX5_sense_17 (by decide) (fun h6 => ?_) (fun h6 => ?_)
      · exact kX5_sense_24 ⟨F, hK, hA, hZ, hr, hlocks⟩ v2
      · refine sk_iconst (x := 0) F dX5_sense_20 (by decide) ?_
        refine sk_goto F 25 dX5_sense_21 (by decide) ?_
        exact kX5_sense_25 ⟨F, hK, hA, hZ, hr, hlocks⟩ v2 0
theorem tX5_sense {l : Launch} {D : va_G} {A : Nat → Prop} {cI cS cF cZ cJ : ClassId} {ad : Nat → Nat} {X : va_W} {p1 : Int32} {p2 : Int32} {p3 : Int32} (v : Mem) : CI l yX5_sense wsX5_sense rmX5_sense D A (ty5 cI cS cF cZ cJ) (Wr cI cZ ad X) [.ref (ad 0), .int p1, .int p2, .int p3] v (fX5_sense p1 p2 p3 v) :=
  CI_of (cc := cX5_sense) (maxL := 5) (ret := (some .int)) (by decide) rfl (Nat.le_of_ble_eq_true rfl) (fun p e s m below meth c G => kX5_sense_0 G v)
def rmX5_deafen : Room := { frames := 2, cells := 0, slots := 0, locals := 42 }
theorem iX5_deafen_5 : ∀ w ∈ wsX50, w ∈ wsX5_deafen := by decide +kernel
def fX5_deafen_15 (p1 : Int32) (p2 : Int32) (p3 : Int32) (v : Mem) (s0 : Int32) : Option (Int32 × Mem) := if ((up2 v 0 0 s0) 0 0) ≤ 0 then gd (inb ((24 * p1) + p2) 48) (gd (inb ((24 * p1) + p2) 48) (gd (bo ((up2 v 0 0 s0) 18 ((24 * p1) + p2).toNatClampNeg)) (some ((up2 v 0 0 s0) 18 ((24 * p1) + p2).toNatClampNeg, up2 (up2 v 0 0 s0) 18 ((24 * p1) + p2).toNatClampNeg (vp_nar .boolean p3))))) else some (0, up2 v 0 0 s0)
set_option maxRecDepth 100000 in
set_option maxHeartbeats 4000000 in
theorem kX5_deafen_15 {p : Program} {l : Launch} {e : Env} {s : State} {m : MethodId} {args : Array Value} {below : List Frame} {meth : Method} {c : Code} {D : va_G} {A : Nat → Prop} {cI cS cF cZ cJ : ClassId} {ad : Nat → Nat} {X : va_W} {p1 : Int32} {p2 : Int32} {p3 : Int32} (G : cx p s m args meth c cX5_deafen 5 wsX5_deafen RX5 D (ty5 cI cS cF cZ cJ) A (some .boolean)) (v : Mem) (s0 : Int32) : sk p l e rmX5_deafen s m args below meth c D A 5 0 0 (fun res => MQ below (qi D A (ty5 cI cS cF cZ cJ) (Wr cI cZ ad X) res) args s 0 0 A) (Wr cI cZ ad X v) 15 [(0, .ref (ad 0)), (1, .int p1), (2, .int p2), (3, .int p3)] [.int s0, .ref (ad 0)] (fX5_deafen_15 p1 p2 p3 v s0) := by
  obtain ⟨F, hK, hA, hZ, hr, hlocks⟩ := G
  refine sk_eq (K' := if ((up2 v 0 0 s0) 0 0) ≤ 0 then gd (inb ((24 * p1) + p2) 48) (gd (inb ((24 * p1) + p2) 48) (gd (bo ((up2 v 0 0 s0) 18 ((24 * p1) + p2).toNatClampNeg)) (some ((up2 v 0 0 s0) 18 ((24 * p1) + p2).toNatClampNeg, up2 (up2 v 0 0 s0) 18 ((24 * p1) + p2).toNatClampNeg (vp_nar .boolean p3))))) else some (0, up2 v 0 0 s0)) rfl ?_
  refine sk_put (ref := "TunnelWatchModel") (fs := fun r => fs5 ad r) (ty := .int) F hK Lr_nd (Lr_mem (by decide)) shR_0 rfl iX5_deafen_5 tyX5 tyX5_ok nmX5 0 (by decide) (by decide +kernel) (fun _ h9 => h9) rfl (by decide +kernel) rfl rfl (Nat.le_of_ble_eq_true rfl) rfl dX5_deafen_15 ?_
  refine sk_aload_n F dX5_deafen_18 rfl 0 rfl ?_
  refine sk_get (ref := "TunnelWatchModel") F hK (Lr_mem (by decide)) (shR_0 _) rfl iX5_deafen_5 0 (by decide) (by decide +kernel) (fun _ h9 => h9) rfl dX5_deafen_19 ?_
  refine sk_if_le F 27 dX5_deafen_22 (by decide) (fun h5 => ?_) (fun h5 => ?_)
  · refine sk_aload_n F dX5_deafen_27 rfl 0 rfl ?_
    refine sk_get (ref := "TunnelWatchModel") F hK (Lr_mem (by decide)) (shR_0 _) rfl iX5_deafen_5 18 (by decide) (by decide +kernel) (fun _ h9 => h9) rfl dX5_deafen_28 ?_
    refine sk_bipush (x := 24) F dX5_deafen_31 (by decide) ?_
    refine sk_iload_n F dX5_deafen_33 rfl 1 rfl ?_
    refine sk_imul F dX5_deafen_34 ?_
    refine sk_iload_n F dX5_deafen_35 rfl 2 rfl ?_
    refine sk_iadd F dX5_deafen_36 ?_
    refine sk_zald F hK (Lr_mem (by decide)) (shR_18 _) 3 rfl dX5_deafen_37 (fun h6 => ?_)
    refine sk_istore F dX5_deafen_38 (by decide) rfl ?_
    refine sk_aload_n F dX5_deafen_40 rfl 1 rfl ?_
    refine sk_get (ref := "TunnelWatchModel") F hK (Lr_mem (by decide)) (shR_0 _) rfl iX5_deafen_5 18 (by decide) (by decide +kernel) (fun _ h9 => h9) rfl dX5_deafen_41 ?_
    refine sk_bipush (x := 24) F dX5_deafen_44 (by decide) ?_
    refine sk_iload_n F dX5_deafen_46 rfl 2 rfl ?_
    refine sk_imul F dX5_deafen_47 ?_
    refine sk_iload_n F dX5_deafen_48 rfl 3 rfl ?_
    refine sk_iadd F dX5_deafen_49 ?_
    refine sk_iload_n F dX5_deafen_50 rfl 4 rfl ?_
    refine sk_zast F hK Lr_nd (Lr_mem (by decide)) shR_18 3 rfl dX5_deafen_51 (fun h7 => ?_)
    refine sk_iload F dX5_deafen_52 0 rfl ?_
    exact sk_zret F hK hr hlocks dX5_deafen_54
  · refine sk_iconst (x := 0) F dX5_deafen_25 (by decide) ?_
    exact sk_zretc F hK hr hlocks (by decide) dX5_deafen_26
def fX5_deafen (p1 : Int32) (p2 : Int32) (p3 : Int32) (v : Mem) : Option (Int32 × Mem) := bd (fX5_isSection p1 p2 v) fun x3 v2 => if x3 = 0 then fX5_deafen_15 p1 p2 p3 v2 1 else fX5_deafen_15 p1 p2 p3 v2 0
set_option maxRecDepth 100000 in
set_option maxHeartbeats 4000000 in
theorem kX5_deafen_0 {p : Program} {l : Launch} {e : Env} {s : State} {m : MethodId} {args : Array Value} {below : List Frame} {meth : Method} {c : Code} {D : va_G} {A : Nat → Prop} {cI cS cF cZ cJ : ClassId} {ad : Nat → Nat} {X : va_W} {p1 : Int32} {p2 : Int32} {p3 : Int32} (G : cx p s m args meth c cX5_deafen 5 wsX5_deafen RX5 D (ty5 cI cS cF cZ cJ) A (some .boolean)) (v : Mem) : sk p l e rmX5_deafen s m args below meth c D A 5 0 0 (fun res => MQ below (qi D A (ty5 cI cS cF cZ cJ) (Wr cI cZ ad X) res) args s 0 0 A) (Wr cI cZ ad X v) 0 [(0, .ref (ad 0)), (1, .int p1), (2, .int p2), (3, .int p3)] [] (fX5_deafen p1 p2 p3 v) := by
  obtain ⟨F, hK, hA, hZ, hr, hlocks⟩ := G
  refine sk_eq (K' := bd (fX5_isSection p1 p2 v) fun x3 v2 => if x3 = 0 then fX5_deafen_15 p1 p2 p3 v2 1 else fX5_deafen_15 p1 p2 p3 v2 0) rfl ?_
  refine sk_aload_n F dX5_deafen_0 rfl 0 rfl ?_
  refine sk_aload_n F dX5_deafen_1 rfl 0 rfl ?_
  refine sk_iload_n F dX5_deafen_2 rfl 1 rfl ?_
  refine sk_iload_n F dX5_deafen_3 rfl 2 rfl ?_
  refine sk_callVi (As := [.int p1, .int p2]) (rest := [.ref (ad 0)]) F hK hA hZ _ (tX5_isSection _) (cwV 2 F.2.2.2.2 gX5_deafen_X5_isSection rfl rfl rfl (by decide +kernel) ⟨Nat.le_of_ble_eq_true rfl, Nat.le_of_ble_eq_true rfl⟩) (rc5 hK) rfl rfl (Nat.le_of_ble_eq_true rfl) (by decide) dX5_deafen_4 (fun x3 v2 c1 => ?_)
  refine sk_if_eq F 14 dX5_deafen_7 (by decide) (fun h4 => ?_) (fun h4 => ?_)
  · refine sk_iconst (x := 1) F dX5_deafen_14 (by decide) ?_
    exact kX5_deafen_15 ⟨F, hK, hA, hZ, hr, hlocks⟩ v2 1
  · refine sk_iconst (x := 0) F dX5_deafen_10 (by decide) ?_
    refine sk_goto F 15 dX5_deafen_11 (by decide) ?_
    exact kX5_deafen_15 ⟨F, hK, hA, hZ, hr, hlocks⟩ v2 0
theorem tX5_deafen {l : Launch} {D : va_G} {A : Nat → Prop} {cI cS cF cZ cJ : ClassId} {ad : Nat → Nat} {X : va_W} {p1 : Int32} {p2 : Int32} {p3 : Int32} (v : Mem) : CI l yX5_deafen wsX5_deafen rmX5_deafen D A (ty5 cI cS cF cZ cJ) (Wr cI cZ ad X) [.ref (ad 0), .int p1, .int p2, .int p3] v (fX5_deafen p1 p2 p3 v) :=
  CI_of (cc := cX5_deafen) (maxL := 5) (ret := (some .boolean)) (by decide) rfl (Nat.le_of_ble_eq_true rfl) (fun p e s m below meth c G => kX5_deafen_0 G v)
