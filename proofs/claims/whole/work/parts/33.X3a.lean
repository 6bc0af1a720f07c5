def rmX3_addFan : Room := { frames := 0, cells := 0, slots := 0, locals := 0 }
theorem iX3_addFan_1 : ∀ w ∈ wsX10, w ∈ wsX3_addFan := by decide +kernel
theorem iX3_addFan_3 : ∀ w ∈ wsX30, w ∈ wsX3_addFan := by decide +kernel
def fX3_addFan (o : Nat) (p1 : Int32) (v : Mem) : Option (Int32 × Mem) := if 12 ≤ (v o 4) then some (v o 4, v) else gd (inb (v o 4) 12) (some (v o 4, up2 (up2 v (o + 5 + (v o 4).toNatClampNeg) 6 p1) o 4 (((up2 v (o + 5 + (v o 4).toNatClampNeg) 6 p1) o 4) + 1)))
set_option maxRecDepth 100000 in
set_option maxHeartbeats 4000000 in
theorem kX3_addFan_0 {p : Program} {l : Launch} {e : Env} {s : State} {m : MethodId} {args : Array Value} {below : List Frame} {meth : Method} {c : Code} {D : va_G} {A : Nat → Prop} {cI cS cF cZ cJ : ClassId} {ad : Nat → Nat} {X : va_W} {n : Nat} {o : Nat} {p1 : Int32} (G : cx p s m args meth c cX3_addFan 3 wsX3_addFan RX3 D (ty5 cI cS cF cZ cJ) A (some .int)) (hn : n ≤ 24) (ho : kC n o = 3) (v : Mem) : sk p l e rmX3_addFan s m args below meth c D A 3 0 0 (fun res => MQ below (qi D A (ty5 cI cS cF cZ cJ) (Wc cI cS cF ad n X) res) args s 0 0 A) (Wc cI cS cF ad n X v) 0 [(0, .ref (ad o)), (1, .int p1)] [] (fX3_addFan o p1 v) := by
  obtain ⟨F, hK, hA, hZ, hr, hlocks⟩ := G
  refine sk_eq (K' := if 12 ≤ (v o 4) then some (v o 4, v) else gd (inb (v o 4) 12) (some (v o 4, up2 (up2 v (o + 5 + (v o 4).toNatClampNeg) 6 p1) o 4 (((up2 v (o + 5 + (v o 4).toNatClampNeg) 6 p1) o 4) + 1)))) rfl ?_
  refine sk_aload_n F dX3_addFan_0 rfl 0 rfl ?_
  refine sk_g3 (ref := "TunnelWatch$Tube") F hK ho iX3_addFan_3 4 (by decide) (by decide +kernel) (fun _ h9 => h9) rfl dX3_addFan_1 ?_
  refine sk_istore_n F dX3_addFan_4 rfl (by decide) rfl ?_
  refine sk_iload_n F dX3_addFan_5 rfl 0 rfl ?_
  refine sk_aload_n F dX3_addFan_6 rfl 1 rfl ?_
  refine sk_g3 (ref := "TunnelWatch$Tube") F hK ho iX3_addFan_3 3 (by decide) (by decide +kernel) (fun _ h9 => h9) rfl dX3_addFan_7 ?_
  refine sk_lenF F hK ho dX3_addFan_10 ?_
  refine sk_icmp_ge F 34 dX3_addFan_11 (by decide) (fun h1 => ?_) (fun h1 => ?_)
  · refine sk_iload_n F dX3_addFan_34 rfl 0 rfl ?_
    exact sk_iret F hK hr hlocks dX3_addFan_35
  · refine sk_aload_n F dX3_addFan_14 rfl 1 rfl ?_
    refine sk_g3 (ref := "TunnelWatch$Tube") F hK ho iX3_addFan_3 3 (by decide) (by decide +kernel) (fun _ h9 => h9) rfl dX3_addFan_15 ?_
    refine sk_iload_n F dX3_addFan_18 rfl 0 rfl ?_
    refine sk_aldF F hK ho dX3_addFan_19 (fun h2 => ?_)
    refine sk_iload_n F dX3_addFan_20 rfl 2 rfl ?_
    refine sk_p1 (ref := "TunnelWatch$Fan") (ty := .int) F hK (kC_f ho (inb_lt h2)) iX3_addFan_1 6 (by decide) (by decide +kernel) (fun _ h9 => h9) rfl (by decide +kernel) rfl rfl rfl dX3_addFan_21 ?_
    refine sk_aload_n F dX3_addFan_24 rfl 1 rfl ?_
    refine sk_dup F dX3_addFan_25 rfl ?_
    refine sk_g3 (ref := "TunnelWatch$Tube") F hK ho iX3_addFan_3 4 (by decide) (by decide +kernel) (fun _ h9 => h9) rfl dX3_addFan_26 ?_
    refine sk_iconst (x := 1) F dX3_addFan_29 (by decide) ?_
    refine sk_iadd F dX3_addFan_30 ?_
    refine sk_p3 (ref := "TunnelWatch$Tube") (ty := .int) F hK ho iX3_addFan_3 4 (by decide) (by decide +kernel) (fun _ h9 => h9) rfl (by decide +kernel) rfl rfl rfl dX3_addFan_31 ?_
    refine sk_iload_n F dX3_addFan_34 rfl 0 rfl ?_
    exact sk_iret F hK hr hlocks dX3_addFan_35
theorem tX3_addFan {l : Launch} {D : va_G} {A : Nat → Prop} {cI cS cF cZ cJ : ClassId} {ad : Nat → Nat} {X : va_W} {n : Nat} (hn : n ≤ 24) {o : Nat} {p1 : Int32} (ho : kC n o = 3) (v : Mem) : CI l yX3_addFan wsX3_addFan rmX3_addFan D A (ty5 cI cS cF cZ cJ) (Wc cI cS cF ad n X) [.ref (ad o), .int p1] v (fX3_addFan o p1 v) :=
  CI_of (cc := cX3_addFan) (maxL := 3) (ret := (some .int)) (by decide) rfl (Nat.le_of_ble_eq_true rfl) (fun p e s m below meth c G => kX3_addFan_0 G hn ho v)
def rmX3_deviceAt : Room := { frames := 0, cells := 0, slots := 0, locals := 0 }
theorem iX3_deviceAt_3 : ∀ w ∈ wsX30, w ∈ wsX3_deviceAt := by decide +kernel
def fX3_deviceAt (o : Nat) (p1 : Int32) (v : Mem) : Option (Nat × Mem) := if p1 = 0 then some ((o + 3), v) else if p1 = 1 then some ((o + 4), v) else gd (inb (p1 - 2) 12) (some ((o + 5 + (p1 - 2).toNatClampNeg), v))
set_option maxRecDepth 100000 in
set_option maxHeartbeats 4000000 in
theorem kX3_deviceAt_0 {p : Program} {l : Launch} {e : Env} {s : State} {m : MethodId} {args : Array Value} {below : List Frame} {meth : Method} {c : Code} {D : va_G} {A : Nat → Prop} {cI cS cF cZ cJ : ClassId} {ad : Nat → Nat} {X : va_W} {n : Nat} {o : Nat} {p1 : Int32} (G : cx p s m args meth c cX3_deviceAt 2 wsX3_deviceAt RX3 D (ty5 cI cS cF cZ cJ) A (some (.object "TunnelWatch$Device"))) (hn : n ≤ 24) (ho : kC n o = 3) (v : Mem) : sk p l e rmX3_deviceAt s m args below meth c D A 2 0 0 (fun res => MQ below (qr D A (ty5 cI cS cF cZ cJ) ad (Wc cI cS cF ad n X) res) args s 0 0 A) (Wc cI cS cF ad n X v) 0 [(0, .ref (ad o)), (1, .int p1)] [] (fX3_deviceAt o p1 v) := by
  obtain ⟨F, hK, hA, hZ, hr, hlocks⟩ := G
  refine sk_eq (K' := if p1 = 0 then some ((o + 3), v) else if p1 = 1 then some ((o + 4), v) else gd (inb (p1 - 2) 12) (some ((o + 5 + (p1 - 2).toNatClampNeg), v))) rfl ?_
  refine sk_iload_n F dX3_deviceAt_0 rfl 1 rfl ?_
  refine sk_if_ne F 9 dX3_deviceAt_1 (by decide) (fun h1 => ?_) (fun h1 => ?_)
  · refine sk_iload_n F dX3_deviceAt_9 rfl 1 rfl ?_
    refine sk_iconst (x := 1) F dX3_deviceAt_10 (by decide) ?_
    refine sk_icmp_ne F 21 dX3_deviceAt_11 (by decide) (fun h2 => ?_) (fun h2 => ?_)
    · refine sk_aload_n F dX3_deviceAt_21 rfl 0 rfl ?_
      refine sk_g3 (ref := "TunnelWatch$Tube") F hK ho iX3_deviceAt_3 3 (by decide) (by decide +kernel) (fun _ h9 => h9) rfl dX3_deviceAt_22 ?_
      refine sk_iload_n F dX3_deviceAt_25 rfl 1 rfl ?_
      refine sk_iconst (x := 2) F dX3_deviceAt_26 (by decide) ?_
      refine sk_isub F dX3_deviceAt_27 ?_
      refine sk_aldF F hK ho dX3_deviceAt_28 (fun h3 => ?_)
      exact sk_aret F hK hr (Or.inl ⟨_, rfl⟩) hlocks dX3_deviceAt_29
    · refine sk_aload_n F dX3_deviceAt_14 rfl 0 rfl ?_
      refine sk_g3 (ref := "TunnelWatch$Tube") F hK ho iX3_deviceAt_3 2 (by decide) (by decide +kernel) (fun _ h9 => h9) rfl dX3_deviceAt_15 ?_
      refine sk_goto F 29 dX3_deviceAt_18 (by decide) ?_
      exact sk_aret F hK hr (Or.inl ⟨_, rfl⟩) hlocks dX3_deviceAt_29
  · refine sk_aload_n F dX3_deviceAt_4 rfl 0 rfl ?_
    refine sk_g3 (ref := "TunnelWatch$Tube") F hK ho iX3_deviceAt_3 1 (by decide) (by decide +kernel) (fun _ h9 => h9) rfl dX3_deviceAt_5 ?_
    exact sk_aret F hK hr (Or.inl ⟨_, rfl⟩) hlocks dX3_deviceAt_8
theorem tX3_deviceAt {l : Launch} {D : va_G} {A : Nat → Prop} {cI cS cF cZ cJ : ClassId} {ad : Nat → Nat} {X : va_W} {n : Nat} (hn : n ≤ 24) {o : Nat} {p1 : Int32} (ho : kC n o = 3) (v : Mem) : CR l yX3_deviceAt wsX3_deviceAt rmX3_deviceAt D A (ty5 cI cS cF cZ cJ) ad (Wc cI cS cF ad n X) [.ref (ad o), .int p1] v (fX3_deviceAt o p1 v) :=
  CR_of (cc := cX3_deviceAt) (maxL := 2) (ret := (some (.object "TunnelWatch$Device"))) (by decide) rfl (Nat.le_of_ble_eq_true rfl) (fun p e s m below meth c G => kX3_deviceAt_0 G hn ho v)
def rmX3_isOnCloseAbove : Room := { frames := 1, cells := 0, slots := 0, locals := 21 }
theorem iX3_isOnCloseAbove_3 : ∀ w ∈ wsX30, w ∈ wsX3_isOnCloseAbove := by decide +kernel
def fX3_isOnCloseAbove_18 (n : Nat) (o : Nat) (p1 : Int32) : Nat → Mem → Int32 → Int32 → Option (Int32 × Mem)
  | 0, _, _, _ => none
  | fuel + 1, v, l2, l3 => if l2 < l3 then some (0, v) else gd (inb l3 n) (bd (fX2_isOn (o + 17 + l3.toNatClampNeg) v) fun x5 v4 => if x5 = 0 then fX3_isOnCloseAbove_18 n o p1 fuel v4 l2 (l3 + 1) else some (1, v4))
set_option maxRecDepth 100000 in
set_option maxHeartbeats 4000000 in
theorem kX3_isOnCloseAbove_18 {p : Program} {l : Launch} {e : Env} {s : State} {m : MethodId} {args : Array Value} {below : List Frame} {meth : Method} {c : Code} {D : va_G} {A : Nat → Prop} {cI cS cF cZ cJ : ClassId} {ad : Nat → Nat} {X : va_W} {n : Nat} {o : Nat} {p1 : Int32} (G : cx p s m args meth c cX3_isOnCloseAbove 4 wsX3_isOnCloseAbove RX3 D (ty5 cI cS cF cZ cJ) A (some .boolean)) (hn : n ≤ 24) (ho : kC n o = 3) : ∀ (fuel : Nat) (v : Mem) (l2 : Int32) (l3 : Int32), sk p l e rmX3_isOnCloseAbove s m args below meth c D A 4 0 0 (fun res => MQ below (qi D A (ty5 cI cS cF cZ cJ) (Wc cI cS cF ad n X) res) args s 0 0 A) (Wc cI cS cF ad n X v) 18 [(0, .ref (ad o)), (2, .int l2), (3, .int l3)] [] (fX3_isOnCloseAbove_18 n o p1 fuel v l2 l3) := by
  obtain ⟨F, hK, hA, hZ, hr, hlocks⟩ := G
  intro fuel
  induction fuel with
  | zero => intro v l2 l3; exact sk_none
  | succ fuel ih =>
    intro v l2 l3
    refine sk_eq (K' := if l2 < l3 then some (0, v) else gd (inb l3 n) (bd (fX2_isOn (o + 17 + l3.toNatClampNeg) v) fun x5 v4 => if x5 = 0 then fX3_isOnCloseAbove_18 n o p1 fuel v4 l2 (l3 + 1) else some (1, v4))) rfl ?_
    refine sk_iload_n F dX3_isOnCloseAbove_18 rfl 2 rfl ?_
    refine sk_iload_n F dX3_isOnCloseAbove_19 rfl 1 rfl ?_
    refine sk_icmp_gt F 43 dX3_isOnCloseAbove_20 (by decide) (fun h1 => ?_) (fun h1 => ?_)
    · refine sk_iconst (x := 0) F dX3_isOnCloseAbove_43 (by decide) ?_
      exact sk_zretc F hK hr hlocks (by decide) dX3_isOnCloseAbove_44
    · refine sk_aload_n F dX3_isOnCloseAbove_23 rfl 0 rfl ?_
      refine sk_g3 (ref := "TunnelWatch$Tube") F hK ho iX3_isOnCloseAbove_3 0 (by decide) (by decide +kernel) (fun _ h9 => h9) rfl dX3_isOnCloseAbove_24 ?_
      refine sk_iload_n F dX3_isOnCloseAbove_27 rfl 2 rfl ?_
      refine sk_aldS F hK ho dX3_isOnCloseAbove_28 (fun h2 => ?_)
      refine sk_callVi (As := []) (rest := []) F hK hA hZ _ (tX2_isOn hn (kC_s ho hn (inb_lt h2)) _) (cwV 0 F.2.2.2.2 gX3_isOnCloseAbove_X2_isOn rfl rfl rfl (by decide +kernel) ⟨Nat.le_of_ble_eq_true rfl, Nat.le_of_ble_eq_true rfl⟩) (rc2 hK (kC_s ho hn (inb_lt h2))) rfl rfl (Nat.le_of_ble_eq_true rfl) (by decide) dX3_isOnCloseAbove_29 (fun x5 v4 c3 => ?_)
      refine sk_if_eq F 37 dX3_isOnCloseAbove_32 (by decide) (fun h6 => ?_) (fun h6 => ?_)
      · refine sk_iinc (y := l3 + 1) F dX3_isOnCloseAbove_37 2 rfl rfl (by decide) rfl ?_
        refine sk_goto F 18 dX3_isOnCloseAbove_40 (by decide) ?_
        exact sk_lv [1, 2, 0] rfl (ih v4 l2 (l3 + 1))
      · refine sk_iconst (x := 1) F dX3_isOnCloseAbove_35 (by decide) ?_
        exact sk_zretc F hK hr hlocks (by decide) dX3_isOnCloseAbove_36
def fX3_isOnCloseAbove (n : Nat) (o : Nat) (p1 : Int32) (v : Mem) : Option (Int32 × Mem) := fX3_isOnCloseAbove_18 n o p1 1000 v (if ((nI n) - 1) < (p1 + 3) then ((nI n) - 1) else (p1 + 3)) (p1 + 1)
set_option maxRecDepth 100000 in
set_option maxHeartbeats 4000000 in
theorem kX3_isOnCloseAbove_0 {p : Program} {l : Launch} {e : Env} {s : State} {m : MethodId} {args : Array Value} {below : List Frame} {meth : Method} {c : Code} {D : va_G} {A : Nat → Prop} {cI cS cF cZ cJ : ClassId} {ad : Nat → Nat} {X : va_W} {n : Nat} {o : Nat} {p1 : Int32} (G : cx p s m args meth c cX3_isOnCloseAbove 4 wsX3_isOnCloseAbove RX3 D (ty5 cI cS cF cZ cJ) A (some .boolean)) (hn : n ≤ 24) (ho : kC n o = 3) (v : Mem) : sk p l e rmX3_isOnCloseAbove s m args below meth c D A 4 0 0 (fun res => MQ below (qi D A (ty5 cI cS cF cZ cJ) (Wc cI cS cF ad n X) res) args s 0 0 A) (Wc cI cS cF ad n X v) 0 [(0, .ref (ad o)), (1, .int p1)] [] (fX3_isOnCloseAbove n o p1 v) := by
  obtain ⟨F, hK, hA, hZ, hr, hlocks⟩ := G
  refine sk_eq (K' := fX3_isOnCloseAbove_18 n o p1 1000 v (if ((nI n) - 1) < (p1 + 3) then ((nI n) - 1) else (p1 + 3)) (p1 + 1)) rfl ?_
  refine sk_iload_n F dX3_isOnCloseAbove_0 rfl 1 rfl ?_
  refine sk_iconst (x := 3) F dX3_isOnCloseAbove_1 (by decide) ?_
  refine sk_iadd F dX3_isOnCloseAbove_2 ?_
  refine sk_aload_n F dX3_isOnCloseAbove_3 rfl 0 rfl ?_
  refine sk_g3 (ref := "TunnelWatch$Tube") F hK ho iX3_isOnCloseAbove_3 0 (by decide) (by decide +kernel) (fun _ h9 => h9) rfl dX3_isOnCloseAbove_4 ?_
  refine sk_lenS F hK ho dX3_isOnCloseAbove_7 ?_
  refine sk_iconst (x := 1) F dX3_isOnCloseAbove_8 (by decide) ?_
  refine sk_isub F dX3_isOnCloseAbove_9 ?_
  refine sk_mmin F (by decide +kernel) (by decide +kernel) (by decide +kernel) (by decide +kernel) (by decide) (Nat.le_of_ble_eq_true rfl) (by decide) (by decide) dX3_isOnCloseAbove_10 ?_
  refine sk_istore_n F dX3_isOnCloseAbove_13 rfl (by decide) rfl ?_
  refine sk_iload_n F dX3_isOnCloseAbove_14 rfl 2 rfl ?_
  refine sk_iconst (x := 1) F dX3_isOnCloseAbove_15 (by decide) ?_
  refine sk_iadd F dX3_isOnCloseAbove_16 ?_
  refine sk_istore_n F dX3_isOnCloseAbove_17 rfl (by decide) rfl ?_
  exact sk_lv [2, 1, 0] rfl (kX3_isOnCloseAbove_18 ⟨F, hK, hA, hZ, hr, hlocks⟩ hn ho 1000 v (if ((nI n) - 1) < (p1 + 3) then ((nI n) - 1) else (p1 + 3)) (p1 + 1))
theorem tX3_isOnCloseAbove {l : Launch} {D : va_G} {A : Nat → Prop} {cI cS cF cZ cJ : ClassId} {ad : Nat → Nat} {X : va_W} {n : Nat} (hn : n ≤ 24) {o : Nat} {p1 : Int32} (ho : kC n o = 3) (v : Mem) : CI l yX3_isOnCloseAbove wsX3_isOnCloseAbove rmX3_isOnCloseAbove D A (ty5 cI cS cF cZ cJ) (Wc cI cS cF ad n X) [.ref (ad o), .int p1] v (fX3_isOnCloseAbove n o p1 v) :=
  CI_of (cc := cX3_isOnCloseAbove) (maxL := 4) (ret := (some .boolean)) (by decide) rfl (Nat.le_of_ble_eq_true rfl) (fun p e s m below meth c G => kX3_isOnCloseAbove_0 G hn ho v)
def rmX3_leastOfPair : Room := { frames := 2, cells := 0, slots := 0, locals := 44 }
theorem iX3_leastOfPair_3 : ∀ w ∈ wsX30, w ∈ wsX3_leastOfPair := by decide +kernel
def fX3_leastOfPair_2 (n : Nat) (o : Nat) : Nat → Mem → Int32 → Option (Int32 × Mem)
  | 0, _, _ => none
  | fuel + 1, v, l1 => if (nI n) ≤ l1 then some ((-1), v) else gd (inb l1 n) (bd (fX2_isOn (o + 17 + l1.toNatClampNeg) v) fun x5 v4 => if x5 = 0 then fX3_leastOfPair_2 n o fuel v4 (l1 + 1) else bd (fX3_isOnCloseAbove n o l1 v4) fun x9 v8 => if x9 = 0 then fX3_leastOfPair_2 n o fuel v8 (l1 + 1) else some (l1, v8))
set_option maxRecDepth 100000 in
set_option maxHeartbeats 4000000 in
theorem kX3_leastOfPair_2 {p : Program} {l : Launch} {e : Env} {s : State} {m : MethodId} {args : Array Value} {below : List Frame} {meth : Method} {c : Code} {D : va_G} {A : Nat → Prop} {cI cS cF cZ cJ : ClassId} {ad : Nat → Nat} {X : va_W} {n : Nat} {o : Nat} (G : cx p s m args meth c cX3_leastOfPair 2 wsX3_leastOfPair RX3 D (ty5 cI cS cF cZ cJ) A (some .int)) (hn : n ≤ 24) (ho : kC n o = 3) : ∀ (fuel : Nat) (v : Mem) (l1 : Int32), sk p l e rmX3_leastOfPair s m args below meth c D A 2 0 0 (fun res => MQ below (qi D A (ty5 cI cS cF cZ cJ) (Wc cI cS cF ad n X) res) args s 0 0 A) (Wc cI cS cF ad n X v) 2 [(0, .ref (ad o)), (1, .int l1)] [] (fX3_leastOfPair_2 n o fuel v l1) := by
  obtain ⟨F, hK, hA, hZ, hr, hlocks⟩ := G
  intro fuel
  induction fuel with
  | zero => intro v l1; exact sk_none
  | succ fuel ih =>
    intro v l1
    refine sk_eq (K' := if (nI n) ≤ l1 then some ((-1), v) else gd (inb l1 n) (bd (fX2_isOn (o + 17 + l1.toNatClampNeg) v) fun x5 v4 => if x5 = 0 then fX3_leastOfPair_2 n o fuel v4 (l1 + 1) else bd (fX3_isOnCloseAbove n o l1 v4) fun x9 v8 => if x9 = 0 then fX3_leastOfPair_2 n o fuel v8 (l1 + 1) else some (l1, v8))) rfl ?_
    refine sk_iload_n F dX3_leastOfPair_2 rfl 1 rfl ?_
    refine sk_aload_n F dX3_leastOfPair_3 rfl 0 rfl ?_
    refine sk_g3 (ref := "TunnelWatch$Tube") F hK ho iX3_leastOfPair_3 0 (by decide) (by decide +kernel) (fun _ h9 => h9) rfl dX3_leastOfPair_4 ?_
    refine sk_lenS F hK ho dX3_leastOfPair_7 ?_
    refine sk_icmp_ge F 39 dX3_leastOfPair_8 (by decide) (fun h1 => ?_) (fun h1 => ?_)
    · refine sk_iconst (x := (-1)) F dX3_leastOfPair_39 (by decide) ?_
      exact sk_iret F hK hr hlocks dX3_leastOfPair_40
    · refine sk_aload_n F dX3_leastOfPair_11 rfl 0 rfl ?_
      refine sk_g3 (ref := "TunnelWatch$Tube") F hK ho iX3_leastOfPair_3 0 (by decide) (by decide +kernel) (fun _ h9 => h9) rfl dX3_leastOfPair_12 ?_
      refine sk_iload_n F dX3_leastOfPair_15 rfl 1 rfl ?_
      refine sk_aldS F hK ho dX3_leastOfPair_16 (fun h2 => ?_)
      refine sk_callVi (As := []) (rest := []) F hK hA hZ _ (tX2_isOn hn (kC_s ho hn (inb_lt h2)) _) (cwV 0 F.2.2.2.2 gX3_leastOfPair_X2_isOn rfl rfl rfl (by decide +kernel) ⟨Nat.le_of_ble_eq_true rfl, Nat.le_of_ble_eq_true rfl⟩) (rc2 hK (kC_s ho hn (inb_lt h2))) rfl rfl (Nat.le_of_ble_eq_true rfl) (by decide) dX3_leastOfPair_17 (fun x5 v4 c3 => ?_)
      refine sk_if_eq F 33 dX3_leastOfPair_20 (by decide) (fun h6 => ?_) (fun h6 => ?_)
      · refine sk_iinc (y := l1 + 1) F dX3_leastOfPair_33 1 rfl rfl (by decide) rfl ?_
        refine sk_goto F 2 dX3_leastOfPair_36 (by decide) ?_
        exact sk_lv [1, 0] rfl (ih v4 (l1 + 1))
      · refine sk_aload_n F dX3_leastOfPair_23 rfl 0 rfl ?_
        refine sk_iload_n F dX3_leastOfPair_24 rfl 1 rfl ?_
        refine sk_callVi (As := [.int l1]) (rest := []) F hK hA hZ _ (tX3_isOnCloseAbove hn ho _) (cwV 1 F.2.2.2.2 gX3_leastOfPair_X3_isOnCloseAbove rfl rfl rfl (by decide +kernel) ⟨Nat.le_of_ble_eq_true rfl, Nat.le_of_ble_eq_true rfl⟩) (rc3 hK ho) rfl rfl (Nat.le_of_ble_eq_true rfl) (by decide) dX3_leastOfPair_25 (fun x9 v8 c7 => ?_)
        refine sk_if_eq F 33 dX3_leastOfPair_28 (by decide) (fun h10 => ?_) (fun h10 => ?_)
        · refine sk_iinc (y := l1 + 1) F dX3_leastOfPair_33 1 rfl rfl (by decide) rfl ?_
          refine sk_goto F 2 dX3_leastOfPair_36 (by decide) ?_
          exact sk_lv [1, 0] rfl (ih v8 (l1 + 1))
        · refine sk_iload_n F dX3_leastOfPair_31 rfl 1 rfl ?_
          exact sk_iret F hK hr hlocks dX3_leastOfPair_32
def fX3_leastOfPair (n : Nat) (o : Nat) (v : Mem) : Option (Int32 × Mem) := fX3_leastOfPair_2 n o 1000 v 0
set_option maxRecDepth 100000 in
set_option maxHeartbeats 4000000 in
theorem kX3_leastOfPair_0 {p : Program} {l : Launch} {e : Env} {s : State} {m : MethodId} {args : Array Value} {below : List Frame} {meth : Method} {c : Code} {D : va_G} {A : Nat → Prop} {cI cS cF cZ cJ : ClassId} {ad : Nat → Nat} {X : va_W} {n : Nat} {o : Nat} (G : cx p s m args meth c cX3_leastOfPair 2 wsX3_leastOfPair RX3 D (ty5 cI cS cF cZ cJ) A (some .int)) (hn : n ≤ 24) (ho : kC n o = 3) (v : Mem) : sk p l e rmX3_leastOfPair s m args below meth c D A 2 0 0 (fun res => MQ below (qi D A (ty5 cI cS cF cZ cJ) (Wc cI cS cF ad n X) res) args s 0 0 A) (Wc cI cS cF ad n X v) 0 [(0, .ref (ad o))] [] (fX3_leastOfPair n o v) := by
  obtain ⟨F, hK, hA, hZ, hr, hlocks⟩ := G
  refine sk_eq (K' := fX3_leastOfPair_2 n o 1000 v 0) rfl ?_
  refine sk_iconst (x := 0) F dX3_leastOfPair_0 (by decide) ?_
  refine sk_istore_n F dX3_leastOfPair_1 rfl (by decide) rfl ?_
  exact sk_lv [1, 0] rfl (kX3_leastOfPair_2 ⟨F, hK, hA, hZ, hr, hlocks⟩ hn ho 1000 v 0)
theorem tX3_leastOfPair {l : Launch} {D : va_G} {A : Nat → Prop} {cI cS cF cZ cJ : ClassId} {ad : Nat → Nat} {X : va_W} {n : Nat} (hn : n ≤ 24) {o : Nat} (ho : kC n o = 3) (v : Mem) : CI l yX3_leastOfPair wsX3_leastOfPair rmX3_leastOfPair D A (ty5 cI cS cF cZ cJ) (Wc cI cS cF ad n X) [.ref (ad o)] v (fX3_leastOfPair n o v) :=
  CI_of (cc := cX3_leastOfPair) (maxL := 2) (ret := (some .int)) (by decide) rfl (Nat.le_of_ble_eq_true rfl) (fun p e s m below meth c G => kX3_leastOfPair_0 G hn ho v)
def rmX3_bestCandidate : Room := { frames := 3, cells := 0, slots := 0, locals := 65 }
theorem iX3_bestCandidate_2 : ∀ w ∈ wsX20, w ∈ wsX3_bestCandidate := by decide +kernel
theorem iX3_bestCandidate_3 : ∀ w ∈ wsX30, w ∈ wsX3_bestCandidate := by decide +kernel
def fX3_bestCandidate_73 (kb9 : Mem → Int32 → Int32 → Int32 → Option (Int32 × Mem)) (n : Nat) (o : Nat) (v : Mem) (l1 : Int32) (l3 : Int32) : Option (Int32 × Mem) := kb9 v l1 l3 (l3 + 1)
set_option maxRecDepth 100000 in
set_option maxHeartbeats 4000000 in
theorem kX3_bestCandidate_73 {p : Program} {l : Launch} {e : Env} {s : State} {m : MethodId} {args : Array Value} {below : List Frame} {meth : Method} {c : Code} {D : va_G} {A : Nat → Prop} {cI cS cF cZ cJ : ClassId} {ad : Nat → Nat} {X : va_W} {n : Nat} {o : Nat} {kb9 : Mem → Int32 → Int32 → Int32 → Option (Int32 × Mem)} (G : cx p s m args meth c cX3_bestCandidate 5 wsX3_bestCandidate RX3 D (ty5 cI cS cF cZ cJ) A (some .int)) (hn : n ≤ 24) (ho : kC n o = 3) (hkb9 : ∀ (v : Mem) (l1 : Int32) (l2 : Int32) (l3 : Int32), sk p l e rmX3_bestCandidate s m args below meth c D A 5 0 0 (fun res => MQ below (qi D A (ty5 cI cS cF cZ cJ) (Wc cI cS cF ad n X) res) args s 0 0 A) (Wc cI cS cF ad n X v) 9 [(0, .ref (ad o)), (1, .int l1), (2, .int l2), (3, .int l3)] [] (kb9 v l1 l2 l3)) (v : Mem) (l1 : Int32) (l3 : Int32) : sk p l e rmX3_bestCandidate s m args below meth c D A 5 0 0 (fun res => MQ below (qi D A (ty5 cI cS cF cZ cJ) (Wc cI cS cF ad n X) res) args s 0 0 A) (Wc cI cS cF ad n X v) 73 [(0, .ref (ad o)), (1, .int l1), (3, .int l3)] [] (fX3_bestCandidate_73 kb9 n o v l1 l3) := by
  obtain ⟨F, hK, hA, hZ, hr, hlocks⟩ := G
  refine sk_eq (K' := kb9 v l1 l3 (l3 + 1)) rfl ?_
  refine sk_iload_n F dX3_bestCandidate_73 rfl 2 rfl ?_
  refine sk_istore_n F dX3_bestCandidate_74 rfl (by decide) rfl ?_
  refine sk_iinc (y := l3 + 1) F dX3_bestCandidate_75 3 rfl rfl (by decide) rfl ?_
  refine sk_goto F 9 dX3_bestCandidate_78 (by decide) ?_
  exact sk_lv [2, 3, 1, 0] rfl (hkb9 v l1 l3 (l3 + 1))
def fX3_bestCandidate_40 (kb9 : Mem → Int32 → Int32 → Int32 → Option (Int32 × Mem)) (n : Nat) (o : Nat) (v : Mem) (l1 : Int32) (l2 : Int32) (l3 : Int32) (s0 : Int32) : Option (Int32 × Mem) := if s0 = 0 then kb9 v l1 l2 (l3 + 1) else if l2 = (-1) then fX3_bestCandidate_73 kb9 n o v l1 l3 else gd (inb l3 n) (gd (inb l2 n) (if (v (o + 17 + l3.toNatClampNeg) 3) ≤ (v (o + 17 + l2.toNatClampNeg) 3) then kb9 v l1 l2 (l3 + 1) else fX3_bestCandidate_73 kb9 n o v l1 l3))
set_option maxRecDepth 100000 in
set_option maxHeartbeats 4000000 in
theorem kX3_bestCandidate_40 {p : Program} {l : Launch} {e : Env} {s : State} {m : MethodId} {args : Array Value} {below : List Frame} {meth : Method} {c : Code} {D : va_G} {A : Nat → Prop} {cI cS cF cZ cJ : ClassId} {ad : Nat → Nat} {X : va_W} {n : Nat} {o : Nat} {kb9 : Mem → Int32 → Int32 → Int32 → Option (Int32 × Mem)} (G : cx p s m args meth c cX3_bestCandidate 5 wsX3_bestCandidate RX3 D (ty5 cI cS cF cZ cJ) A (some .int)) (hn : n ≤ 24) (ho : kC n o = 3) (hkb9 : ∀ (v : Mem) (l1 : Int32) (l2 : Int32) (l3 : Int32), sk p l e rmX3_bestCandidate s m args below meth c D A 5 0 0 (fun res => MQ below (qi D A (ty5 cI cS cF cZ cJ) (Wc cI cS cF ad n X) res) args s 0 0 A) (Wc cI cS cF ad n X v) 9 [(0, .ref (ad o)), (1, .int l1), (2, .int l2), (3, .int l3)] [] (kb9 v l1 l2 l3)) (v : Mem) (l1 : Int32) (l2 : Int32) (l3 : Int32) (s0 : Int32) : sk p l e rmX3_bestCandidate s m args below meth c D A 5 0 0 (fun res => MQ below (qi D A (ty5 cI cS cF cZ cJ) (Wc cI cS cF ad n X) res) args s 0 0 A) (Wc cI cS cF ad n X v) 40 [(0, .ref (ad o)), (1, .int l1), (2, .int l2), (3, .int l3)] [.int s0] (fX3_bestCandidate_40 kb9 n o v l1 l2 l3 s0) := by
  obtain ⟨F, hK, hA, hZ, hr, hlocks⟩ := G
  refine sk_eq (K' := if s0 = 0 then kb9 v l1 l2 (l3 + 1) else if l2 = (-1) then fX3_bestCandidate_73 kb9 n o v l1 l3 else gd (inb l3 n) (gd (inb l2 n) (if (v (o + 17 + l3.toNatClampNeg) 3) ≤ (v (o + 17 + l2.toNatClampNeg) 3) then kb9 v l1 l2 (l3 + 1) else fX3_bestCandidate_73 kb9 n o v l1 l3))) rfl ?_
  refine sk_istore F dX3_bestCandidate_40 (by decide) rfl ?_
  refine sk_iload F dX3_bestCandidate_42 0 rfl ?_
  refine sk_if_eq F 75 dX3_bestCandidate_44 (by decide) (fun h8 => ?_) (fun h8 => ?_)
  · refine sk_iinc (y := l3 + 1) F dX3_bestCandidate_75 4 rfl rfl (by decide) rfl ?_
    refine sk_goto F 9 dX3_bestCandidate_78 (by decide) ?_
    exact sk_lv [2, 3, 4, 0] rfl (hkb9 v l1 l2 (l3 + 1))
  · refine sk_iload_n F dX3_bestCandidate_47 rfl 3 rfl ?_
    refine sk_iconst (x := (-1)) F dX3_bestCandidate_48 (by decide) ?_
    refine sk_icmp_eq F 73 dX3_bestCandidate_49 (by decide) (fun h9 => ?_) (fun h9 => ?_)
    · exact sk_lv [1, 2, 4] rfl (kX3_bestCandidate_73 ⟨F, hK, hA, hZ, hr, hlocks⟩ hn ho hkb9 v l1 l3)
    · refine sk_aload_n F dX3_bestCandidate_52 rfl 1 rfl ?_
      refine sk_g3 (ref := "TunnelWatch$Tube") F hK ho iX3_bestCandidate_3 0 (by decide) (by decide +kernel) (fun _ h9 => h9) rfl dX3_bestCandidate_53 ?_
      refine sk_iload_n F dX3_bestCandidate_56 rfl 4 rfl ?_
      refine sk_aldS F hK ho dX3_bestCandidate_57 (fun h10 => ?_)
      refine sk_g2 (ref := "TunnelWatch$Section") F hK (kC_s ho hn (inb_lt h10)) iX3_bestCandidate_2 3 (by decide) (by decide +kernel) (fun _ h9 => h9) rfl dX3_bestCandidate_58 ?_
      refine sk_aload_n F dX3_bestCandidate_61 rfl 1 rfl ?_
      refine sk_g3 (ref := "TunnelWatch$Tube") F hK ho iX3_bestCandidate_3 0 (by decide) (by decide +kernel) (fun _ h9 => h9) rfl dX3_bestCandidate_62 ?_
      refine sk_iload_n F dX3_bestCandidate_65 rfl 3 rfl ?_
      refine sk_aldS F hK ho dX3_bestCandidate_66 (fun h11 => ?_)
      refine sk_g2 (ref := "TunnelWatch$Section") F hK (kC_s ho hn (inb_lt h11)) iX3_bestCandidate_2 3 (by decide) (by decide +kernel) (fun _ h9 => h9) rfl dX3_bestCandidate_67 ?_
      refine sk_icmp_le F 75 dX3_bestCandidate_70 (by decide) (fun h12 => ?_) (fun h12 => ?_)
      · refine sk_iinc (y := l3 + 1) F dX3_bestCandidate_75 4 rfl rfl (by decide) rfl ?_
        refine sk_goto F 9 dX3_bestCandidate_78 (by decide) ?_
        exact sk_lv [2, 3, 4, 0] rfl (hkb9 v l1 l2 (l3 + 1))
      · exact sk_lv [1, 2, 4] rfl (kX3_bestCandidate_73 ⟨F, hK, hA, hZ, hr, hlocks⟩ hn ho hkb9 v l1 l3)
def fX3_bestCandidate_9 (n : Nat) (o : Nat) : Nat → Mem → Int32 → Int32 → Int32 → Option (Int32 × Mem)
  | 0, _, _, _, _ => none
  | fuel + 1, v, l1, l2, l3 => if (nI n) ≤ l3 then some (l2, v) else gd (inb l3 n) (if (v (o + 17 + l3.toNatClampNeg) 2) = 0 then if l3 = l1 then fX3_bestCandidate_40 (fun v l1 l2 l3 => fX3_bestCandidate_9 n o fuel v l1 l2 l3) n o v l1 l2 l3 1 else fX3_bestCandidate_40 (fun v l1 l2 l3 => fX3_bestCandidate_9 n o fuel v l1 l2 l3) n o v l1 l2 l3 0 else fX3_bestCandidate_40 (fun v l1 l2 l3 => fX3_bestCandidate_9 n o fuel v l1 l2 l3) n o v l1 l2 l3 1)
set_option maxRecDepth 100000 in
set_option maxHeartbeats 4000000 in
theorem kX3_bestCandidate_9 {p : Program} {l : Launch} {e : Env} {s : State} {m : MethodId} {args : Array Value} {below : List Frame} {meth : Method} {c : Code} {D : va_G} {A : Nat → Prop} {cI cS cF cZ cJ : ClassId} {ad : Nat → Nat} {X : va_W} {n : Nat} {o : Nat} (G : cx p s m args meth c cX3_bestCandidate 5 wsX3_bestCandidate RX3 D (ty5 cI cS cF cZ cJ) A (some .int)) (hn : n ≤ 24) (ho : kC n o = 3) : ∀ (fuel : Nat) (v : Mem) (l1 : Int32) (l2 : Int32) (l3 : Int32), sk p l e rmX3_bestCandidate s m args below meth c D A 5 0 0 (fun res => MQ below (qi D A (ty5 cI cS cF cZ cJ) (Wc cI cS cF ad n X) res) args s 0 0 A) (Wc cI cS cF ad n X v) 9 [(0, .ref (ad o)), (1, .int l1), (2, .int l2), (3, .int l3)] [] (fX3_bestCandidate_9 n o fuel v l1 l2 l3) := by
  obtain ⟨F, hK, hA, hZ, hr, hlocks⟩ := G
  intro fuel
  induction fuel with
  | zero => intro v l1 l2 l3; exact sk_none
  | succ fuel ih =>
    intro v l1 l2 l3
    refine sk_eq (K' := if (nI n) ≤ l3 then some (l2, v) else gd (inb l3 n) (if (v (o + 17 + l3.toNatClampNeg) 2) = 0 then if l3 = l1 then fX3_bestCandidate_40 (fun v l1 l2 l3 => fX3_bestCandidate_9 n o fuel v l1 l2 l3) n o v l1 l2 l3 1 else fX3_bestCandidate_40 (fun v l1 l2 l3 => fX3_bestCandidate_9 n o fuel v l1 l2 l3) n o v l1 l2 l3 0 else fX3_bestCandidate_40 (fun v l1 l2 l3 => fX3_bestCandidate_9 n o fuel v l1 l2 l3) n o v l1 l2 l3 1)) rfl ?_
    refine sk_iload_n F dX3_bestCandidate_9 rfl 3 rfl ?_
    refine sk_aload_n F dX3_bestCandidate_10 rfl 0 rfl ?_
    refine sk_g3 (ref := "TunnelWatch$Tube") F hK ho iX3_bestCandidate_3 0 (by decide) (by decide +kernel) (fun _ h9 => h9) rfl dX3_bestCandidate_11 ?_
    refine sk_lenS F hK ho dX3_bestCandidate_14 ?_
    refine sk_icmp_ge F 81 dX3_bestCandidate_15 (by decide) (fun h4 => ?_) (fun h4 => ?_)
    · refine sk_iload_n F dX3_bestCandidate_81 rfl 2 rfl ?_
      exact sk_iret F hK hr hlocks dX3_bestCandidate_82
    · refine sk_aload_n F dX3_bestCandidate_18 rfl 0 rfl ?_
      refine sk_g3 (ref := "TunnelWatch$Tube") F hK ho iX3_bestCandidate_3 0 (by decide) (by decide +kernel) (fun _ h9 => h9) rfl dX3_bestCandidate_19 ?_
      refine sk_iload_n F dX3_bestCandidate_22 rfl 3 rfl ?_
      refine sk_aldS F hK ho dX3_bestCandidate_23 (fun h5 => ?_)
      refine sk_g2 (ref := "TunnelWatch$Section") F hK (kC_s ho hn (inb_lt h5)) iX3_bestCandidate_2 2 (by decide) (by decide +kernel) (fun _ h9 => h9) rfl dX3_bestCandidate_24 ?_
      refine sk_if_ne F 35 dX3_bestCandidate_27 (by decide) (fun h6 => ?_) (fun h6 => ?_)
      · refine sk_iconst (x := 1) F dX3_bestCandidate_35 (by decide) ?_
        refine sk_goto F 40 dX3_bestCandidate_36 (by decide) ?_
        exact kX3_bestCandidate_40 ⟨F, hK, hA, hZ, hr, hlocks⟩ hn ho ih v l1 l2 l3 1
      · refine sk_iload_n F dX3_bestCandidate_30 rfl 3 rfl ?_
        refine sk_iload_n F dX3_bestCandidate_31 rfl 1 rfl ?_
        refine sk_icmp_ne F 39 dX3_bestCandidate_32 (by decide) (fun h7 => ?_) (fun h7 => ?_)
        · refine sk_iconst (x := 0) F dX3_bestCandidate_39 (by decide) ?_
          exact kX3_bestCandidate_40 ⟨F, hK, hA, hZ, hr, hlocks⟩ hn ho ih v l1 l2 l3 0
        · refine sk_iconst (x := 1) F dX3_bestCandidate_35 (by decide) ?_
          refine sk_goto F 40 dX3_bestCandidate_36 (by decide) ?_
          exact kX3_bestCandidate_40 ⟨F, hK, hA, hZ, hr, hlocks⟩ hn ho ih v l1 l2 l3 1
def fX3_bestCandidate (n : Nat) (o : Nat) (v : Mem) : Option (Int32 × Mem) := bd (fX3_leastOfPair n o v) fun x3 v2 => fX3_bestCandidate_9 n o 1000 v2 x3 (-1) 0
set_option maxRecDepth 100000 in
set_option maxHeartbeats 4000000 in
theorem kX3_bestCandidate_0 {p : Program} {l : Launch} {e : Env} {s : State} {m : MethodId} {args : Array Value} {below : List Frame} {meth : Method} {c : Code} {D : va_G} {A : Nat → Prop} {cI cS cF cZ cJ : ClassId} {ad : Nat → Nat} {X : va_W} {n : Nat} {o : Nat} (G : cx p s m args meth c cX3_bestCandidate 5 wsX3_bestCandidate RX3 D (ty5 cI cS cF cZ cJ) A (some .int)) (hn : n ≤ 24) (ho : kC n o = 3) (v : Mem) : sk p l e rmX3_bestCandidate s m args below meth c D A 5 0 0 (fun res => MQ below (qi D A (ty5 cI cS cF cZ cJ) (Wc cI cS cF ad n X) res) args s 0 0 A) (Wc cI cS cF ad n X v) 0 [(0, .ref (ad o))] [] (fX3_bestCandidate n o v) := by
  obtain ⟨F, hK, hA, hZ, hr, hlocks⟩ := G
  refine sk_eq (K' := bd (fX3_leastOfPair n o v) fun x3 v2 => fX3_bestCandidate_9 n o 1000 v2 x3 (-1) 0) rfl ?_
  refine sk_aload_n F dX3_bestCandidate_0 rfl 0 rfl ?_
  refine sk_callVi (As := []) (rest := []) F hK hA hZ _ (tX3_leastOfPair hn ho _) (cwV 0 F.2.2.2.2 gX3_bestCandidate_X3_leastOfPair rfl rfl rfl (by decide +kernel) ⟨Nat.le_of_ble_eq_true rfl, Nat.le_of_ble_eq_true rfl⟩) (rc3 hK ho) rfl rfl (Nat.le_of_ble_eq_true rfl) (by decide) dX3_bestCandidate_1 (fun x3 v2 c1 => ?_)
  refine sk_istore_n F dX3_bestCandidate_4 rfl (by decide) rfl ?_
  refine sk_iconst (x := (-1)) F dX3_bestCandidate_5 (by decide) ?_
  refine sk_istore_n F dX3_bestCandidate_6 rfl (by decide) rfl ?_
  refine sk_iconst (x := 0) F dX3_bestCandidate_7 (by decide) ?_
  refine sk_istore_n F dX3_bestCandidate_8 rfl (by decide) rfl ?_
  exact sk_lv [3, 2, 1, 0] rfl (kX3_bestCandidate_9 ⟨F, hK, hA, hZ, hr, hlocks⟩ hn ho 1000 v2 x3 (-1) 0)
theorem tX3_bestCandidate {l : Launch} {D : va_G} {A : Nat → Prop} {cI cS cF cZ cJ : ClassId} {ad : Nat → Nat} {X : va_W} {n : Nat} (hn : n ≤ 24) {o : Nat} (ho : kC n o = 3) (v : Mem) : CI l yX3_bestCandidate wsX3_bestCandidate rmX3_bestCandidate D A (ty5 cI cS cF cZ cJ) (Wc cI cS cF ad n X) [.ref (ad o)] v (fX3_bestCandidate n o v) :=
  CI_of (cc := cX3_bestCandidate) (maxL := 5) (ret := (some .int)) (by decide) rfl (Nat.le_of_ble_eq_true rfl) (fun p e s m below meth c G => kX3_bestCandidate_0 G hn ho v)
def rmX3_leastOn : Room := { frames := 1, cells := 0, slots := 0, locals := 20 }
theorem iX3_leastOn_3 : ∀ w ∈ wsX30, w ∈ wsX3_leastOn := by decide +kernel
def fX3_leastOn_2 (n : Nat) (o : Nat) : Nat → Mem → Int32 → Option (Int32 × Mem)
  | 0, _, _ => none
  | fuel + 1, v, l1 => if (nI n) ≤ l1 then some ((-1), v) else gd (inb l1 n) (bd (fX2_isOn (o + 17 + l1.toNatClampNeg) v) fun x5 v4 => if x5 = 0 then fX3_leastOn_2 n o fuel v4 (l1 + 1) else some (l1, v4))
set_option maxRecDepth 100000 in
set_option maxHeartbeats 4000000 in
theorem kX3_leastOn_2 {p : Program} {l : Launch} {e : Env} {s : State} {m : MethodId} {args : Array Value} {below : List Frame} {meth : Method} {c : Code} {D : va_G} {A : Nat → Prop} {cI cS cF cZ cJ : ClassId} {ad : Nat → Nat} {X : va_W} {n : Nat} {o : Nat} (G : cx p s m args meth c cX3_leastOn 2 wsX3_leastOn RX3 D (ty5 cI cS cF cZ cJ) A (some .int)) (hn : n ≤ 24) (ho : kC n o = 3) : ∀ (fuel : Nat) (v : Mem) (l1 : Int32), sk p l e rmX3_leastOn s m args below meth c D A 2 0 0 (fun res => MQ below (qi D A (ty5 cI cS cF cZ cJ) (Wc cI cS cF ad n X) res) args s 0 0 A) (Wc cI cS cF ad n X v) 2 [(0, .ref (ad o)), (1, .int l1)] [] (fX3_leastOn_2 n o fuel v l1) := by
  obtain ⟨F, hK, hA, hZ, hr, hlocks⟩ := G
  intro fuel
  induction fuel with
  | zero => intro v l1; exact sk_none
  | succ fuel ih =>
    intro v l1
    refine sk_eq (K' := if (nI n) ≤ l1 then some ((-1), v) else gd (inb l1 n) (bd (fX2_isOn (o + 17 + l1.toNatClampNeg) v) fun x5 v4 => if x5 = 0 then fX3_leastOn_2 n o fuel v4 (l1 + 1) else some (l1, v4))) rfl ?_
    refine sk_iload_n F dX3_leastOn_2 rfl 1 rfl ?_
    refine sk_aload_n F dX3_leastOn_3 rfl 0 rfl ?_
    refine sk_g3 (ref := "TunnelWatch$Tube") F hK ho iX3_leastOn_3 0 (by decide) (by decide +kernel) (fun _ h9 => h9) rfl dX3_leastOn_4 ?_
    refine sk_lenS F hK ho dX3_leastOn_7 ?_
    refine sk_icmp_ge F 31 dX3_leastOn_8 (by decide) (fun h1 => ?_) (fun h1 => ?_)
    · refine sk_iconst (x := (-1)) F dX3_leastOn_31 (by decide) ?_
      exact sk_iret F hK hr hlocks dX3_leastOn_32
    · refine sk_aload_n F dX3_leastOn_11 rfl 0 rfl ?_
      refine sk_g3 (ref := "TunnelWatch$Tube") F hK ho iX3_leastOn_3 0 (by decide) (by decide +kernel) (fun _ h9 => h9) rfl dX3_leastOn_12 ?_
      refine sk_iload_n F dX3_leastOn_15 rfl 1 rfl ?_
      refine sk_aldS F hK ho dX3_leastOn_16 (fun h2 => ?_)
      refine sk_callVi (As := []) (rest := []) F hK hA hZ _ (tX2_isOn hn (kC_s ho hn (inb_lt h2)) _) (cwV 0 F.2.2.2.2 gX3_leastOn_X2_isOn rfl rfl rfl (by decide +kernel) ⟨Nat.le_of_ble_eq_true rfl, Nat.le_of_ble_eq_true rfl⟩) (rc2 hK (kC_s ho hn (inb_lt h2))) rfl rfl (Nat.le_of_ble_eq_true rfl) (by decide) dX3_leastOn_17 (fun x5 v4 c3 => ?_)
      refine sk_if_eq F 25 dX3_leastOn_20 (by decide) (fun h6 => ?_) (fun h6 => ?_)
      · refine sk_iinc (y := l1 + 1) F dX3_leastOn_25 1 rfl rfl (by decide) rfl ?_
        refine sk_goto F 2 dX3_leastOn_28 (by decide) ?_
        exact sk_lv [1, 0] rfl (ih v4 (l1 + 1))
      · refine sk_iload_n F dX3_leastOn_23 rfl 1 rfl ?_
        exact sk_iret F hK hr hlocks dX3_leastOn_24
def fX3_leastOn (n : Nat) (o : Nat) (v : Mem) : Option (Int32 × Mem) := fX3_leastOn_2 n o 1000 v 0
set_option maxRecDepth 100000 in
set_option maxHeartbeats 4000000 in
theorem kX3_leastOn_0 {p : Program} {l : Launch} {e : Env} {s : State} {m : MethodId} {args : Array Value} {below : List Frame} {meth : Method} {c : Code} {D : va_G} {A : Nat → Prop} {cI cS cF cZ cJ : ClassId} {ad : Nat → Nat} {X : va_W} {n : Nat} {o : Nat} (G : cx p s m args meth c cX3_leastOn 2 wsX3_leastOn RX3 D (ty5 cI cS cF cZ cJ) A (some .int)) (hn : n ≤ 24) (ho : kC n o = 3) (v : Mem) : sk p l e rmX3_leastOn s m args below meth c D A 2 0 0 (fun res => MQ below (qi D A (ty5 cI cS cF cZ cJ) (Wc cI cS cF ad n X) res) args s 0 0 A) (Wc cI cS cF ad n X v) 0 [(0, .ref (ad o))] [] (fX3_leastOn n o v) := by
  obtain ⟨F, hK, hA, hZ, hr, hlocks⟩ := G
  refine sk_eq (K' := fX3_leastOn_2 n o 1000 v 0) rfl ?_
  refine sk_iconst (x := 0) F dX3_leastOn_0 (by decide) ?_
  refine sk_istore_n F dX3_leastOn_1 rfl (by decide) rfl ?_
  exact sk_lv [1, 0] rfl (kX3_leastOn_2 ⟨F, hK, hA, hZ, hr, hlocks⟩ hn ho 1000 v 0)
theorem tX3_leastOn {l : Launch} {D : va_G} {A : Nat → Prop} {cI cS cF cZ cJ : ClassId} {ad : Nat → Nat} {X : va_W} {n : Nat} (hn : n ≤ 24) {o : Nat} (ho : kC n o = 3) (v : Mem) : CI l yX3_leastOn wsX3_leastOn rmX3_leastOn D A (ty5 cI cS cF cZ cJ) (Wc cI cS cF ad n X) [.ref (ad o)] v (fX3_leastOn n o v) :=
  CI_of (cc := cX3_leastOn) (maxL := 2) (ret := (some .int)) (by decide) rfl (Nat.le_of_ble_eq_true rfl) (fun p e s m below meth c G => kX3_leastOn_0 G hn ho v)
def rmX3_judgeSuspicion : Room := { frames := 2, cells := 0, slots := 0, locals := 41 }
theorem iX3_judgeSuspicion_3 : ∀ w ∈ wsX30, w ∈ wsX3_judgeSuspicion := by decide +kernel
def fX3_judgeSuspicion_30 (n : Nat) (o : Nat) (v : Mem) (s0 : Int32) (s1 : Nat) : Option (Mem) := some (up2 v s1 10 s0)
set_option maxRecDepth 100000 in
set_option maxHeartbeats 4000000 in
theorem kX3_judgeSuspicion_30 {p : Program} {l : Launch} {e : Env} {s : State} {m : MethodId} {args : Array Value} {below : List Frame} {meth : Method} {c : Code} {D : va_G} {A : Nat → Prop} {cI cS cF cZ cJ : ClassId} {ad : Nat → Nat} {X : va_W} {n : Nat} {o : Nat} (G : cx p s m args meth c cX3_judgeSuspicion 1 wsX3_judgeSuspicion RX3 D (ty5 cI cS cF cZ cJ) A none) (hn : n ≤ 24) (ho : kC n o = 3) (v : Mem) (s0 : Int32) (s1 : Nat) (hs1 : kC n s1 = 3) : sk p l e rmX3_judgeSuspicion s m args below meth c D A 1 0 0 (fun res => MQ below (qv D A (ty5 cI cS cF cZ cJ) (Wc cI cS cF ad n X) res) args s 0 0 A) (Wc cI cS cF ad n X v) 30 [] [.int s0, .ref (ad s1)] (fX3_judgeSuspicion_30 n o v s0 s1) := by
  obtain ⟨F, hK, hA, hZ, hr, hlocks⟩ := G
  refine sk_eq (K' := some (up2 v s1 10 s0)) rfl ?_
  refine sk_p3 (ref := "TunnelWatch$Tube") (ty := .int) F hK hs1 iX3_judgeSuspicion_3 10 (by decide) (by decide +kernel) (fun _ h9 => h9) rfl (by decide +kernel) rfl rfl rfl dX3_judgeSuspicion_30 ?_
  exact sk_vret F hK hr hlocks dX3_judgeSuspicion_33
def fX3_judgeSuspicion (n : Nat) (o : Nat) (v : Mem) : Option (Mem) := if (v o 10) = 2 then some v else bd (fX3_leastOn n o v) fun x4 v3 => if ((up2 v3 o 11 x4) o 11) = (-1) then fX3_judgeSuspicion_30 n o (up2 v3 o 11 x4) 0 o else fX3_judgeSuspicion_30 n o (up2 v3 o 11 x4) 1 o
set_option maxRecDepth 100000 in
set_option maxHeartbeats 4000000 in
theorem kX3_judgeSuspicion_0 {p : Program} {l : Launch} {e : Env} {s : State} {m : MethodId} {args : Array Value} {below : List Frame} {meth : Method} {c : Code} {D : va_G} {A : Nat → Prop} {cI cS cF cZ cJ : ClassId} {ad : Nat → Nat} {X : va_W} {n : Nat} {o : Nat} (G : cx p s m args meth c cX3_judgeSuspicion 1 wsX3_judgeSuspicion RX3 D (ty5 cI cS cF cZ cJ) A none) (hn : n ≤ 24) (ho : kC n o = 3) (v : Mem) : sk p l e rmX3_judgeSuspicion s m args below meth c D A 1 0 0 (fun res => MQ below (qv D A (ty5 cI cS cF cZ cJ) (Wc cI cS cF ad n X) res) args s 0 0 A) (Wc cI cS cF ad n X v) 0 [(0, .ref (ad o))] [] (fX3_judgeSuspicion n o v) := by
  obtain ⟨F, hK, hA, hZ, hr, hlocks⟩ := G
  refine sk_eq (K' := if (v o 10) = 2 then some v else bd (fX3_leastOn n o v) fun x4 v3 => if ((up2 v3 o 11 x4) o 11) = (-1) then fX3_judgeSuspicion_30 n o (up2 v3 o 11 x4) 0 o else fX3_judgeSuspicion_30 n o (up2 v3 o 11 x4) 1 o) rfl ?_
  refine sk_aload_n F dX3_judgeSuspicion_0 rfl 0 rfl ?_
  refine sk_g3 (ref := "TunnelWatch$Tube") F hK ho iX3_judgeSuspicion_3 10 (by decide) (by decide +kernel) (fun _ h9 => h9) rfl dX3_judgeSuspicion_1 ?_
  refine sk_iconst (x := 2) F dX3_judgeSuspicion_4 (by decide) ?_
  refine sk_icmp_eq F 33 dX3_judgeSuspicion_5 (by decide) (fun h1 => ?_) (fun h1 => ?_)
  · exact sk_vret F hK hr hlocks dX3_judgeSuspicion_33
  · refine sk_aload_n F dX3_judgeSuspicion_8 rfl 0 rfl ?_
    refine sk_aload_n F dX3_judgeSuspicion_9 rfl 0 rfl ?_
    refine sk_callVi (As := []) (rest := [.ref (ad o)]) F hK hA hZ _ (tX3_leastOn hn ho _) (cwV 0 F.2.2.2.2 gX3_judgeSuspicion_X3_leastOn rfl rfl rfl (by decide +kernel) ⟨Nat.le_of_ble_eq_true rfl, Nat.le_of_ble_eq_true rfl⟩) (rc3 hK ho) rfl rfl (Nat.le_of_ble_eq_true rfl) (by decide) dX3_judgeSuspicion_10 (fun x4 v3 c2 => ?_)
    refine sk_p3 (ref := "TunnelWatch$Tube") (ty := .int) F hK ho iX3_judgeSuspicion_3 11 (by decide) (by decide +kernel) (fun _ h9 => h9) rfl (by decide +kernel) rfl rfl rfl dX3_judgeSuspicion_13 ?_
    refine sk_aload_n F dX3_judgeSuspicion_16 rfl 0 rfl ?_
    refine sk_aload_n F dX3_judgeSuspicion_17 rfl 0 rfl ?_
    refine sk_g3 (ref := "TunnelWatch$Tube") F hK ho iX3_judgeSuspicion_3 11 (by decide) (by decide +kernel) (fun _ h9 => h9) rfl dX3_judgeSuspicion_18 ?_
    refine sk_iconst (x := (-1)) F dX3_judgeSuspicion_21 (by decide) ?_
    refine sk_icmp_ne F 29 dX3_judgeSuspicion_22 (by decide) (fun h5 => ?_) (fun h5 => ?_)
    · refine sk_iconst (x := 1) F dX3_judgeSuspicion_29 (by decide) ?_
      exact sk_lv [] rfl (kX3_judgeSuspicion_30 ⟨F, hK, hA, hZ, hr, hlocks⟩ hn ho (up2 v3 o 11 x4) 1 o ho)
    · refine sk_iconst (x := 0) F dX3_judgeSuspicion_25 (by decide) ?_
      refine sk_goto F 30 dX3_judgeSuspicion_26 (by decide) ?_
      exact sk_lv [] rfl (kX3_judgeSuspicion_30 ⟨F, hK, hA, hZ, hr, hlocks⟩ hn ho (up2 v3 o 11 x4) 0 o ho)
theorem tX3_judgeSuspicion {l : Launch} {D : va_G} {A : Nat → Prop} {cI cS cF cZ cJ : ClassId} {ad : Nat → Nat} {X : va_W} {n : Nat} (hn : n ≤ 24) {o : Nat} (ho : kC n o = 3) (v : Mem) : CV l yX3_judgeSuspicion wsX3_judgeSuspicion rmX3_judgeSuspicion D A (ty5 cI cS cF cZ cJ) (Wc cI cS cF ad n X) [.ref (ad o)] v (fX3_judgeSuspicion n o v) :=
  CV_of (cc := cX3_judgeSuspicion) (maxL := 1) (ret := none) (by decide) rfl (Nat.le_of_ble_eq_true rfl) (fun p e s m below meth c G => kX3_judgeSuspicion_0 G hn ho v)
def rmX3_fireRank : Room := { frames := 0, cells := 0, slots := 0, locals := 0 }
theorem iX3_fireRank_2 : ∀ w ∈ wsX20, w ∈ wsX3_fireRank := by decide +kernel
theorem iX3_fireRank_3 : ∀ w ∈ wsX30, w ∈ wsX3_fireRank := by decide +kernel
def fX3_fireRank (n : Nat) (o : Nat) (v : Mem) : Option (Int32 × Mem) := if (v o 11) = (-1) then some ((-1), v) else gd (inb (v o 11) n) (some (v (o + 17 + (v o 11).toNatClampNeg) 3, v))
set_option maxRecDepth 100000 in
set_option maxHeartbeats 4000000 in
theorem kX3_fireRank_0 {p : Program} {l : Launch} {e : Env} {s : State} {m : MethodId} {args : Array Value} {below : List Frame} {meth : Method} {c : Code} {D : va_G} {A : Nat → Prop} {cI cS cF cZ cJ : ClassId} {ad : Nat → Nat} {X : va_W} {n : Nat} {o : Nat} (G : cx p s m args meth c cX3_fireRank 1 wsX3_fireRank RX3 D (ty5 cI cS cF cZ cJ) A (some .int)) (hn : n ≤ 24) (ho : kC n o = 3) (v : Mem) : sk p l e rmX3_fireRank s m args below meth c D A 1 0 0 (fun res => MQ below (qi D A (ty5 cI cS cF cZ cJ) (Wc cI cS cF ad n X) res) args s 0 0 A) (Wc cI cS cF ad n X v) 0 [(0, .ref (ad o))] [] (fX3_fireRank n o v) := by
  obtain ⟨F, hK, hA, hZ, hr, hlocks⟩ := G
  refine sk_eq (K' := if (v o 11) = (-1) then some ((-1), v) else gd (inb (v o 11) n) (some (v (o + 17 + (v o 11).toNatClampNeg) 3, v))) rfl ?_
  refine sk_aload_n F dX3_fireRank_0 rfl 0 rfl ?_
  refine sk_g3 (ref := "TunnelWatch$Tube") F hK ho iX3_fireRank_3 11 (by decide) (by decide +kernel) (fun _ h9 => h9) rfl dX3_fireRank_1 ?_
  refine sk_iconst (x := (-1)) F dX3_fireRank_4 (by decide) ?_
  refine sk_icmp_ne F 12 dX3_fireRank_5 (by decide) (fun h1 => ?_) (fun h1 => ?_)
  · refine sk_aload_n F dX3_fireRank_12 rfl 0 rfl ?_
    refine sk_g3 (ref := "TunnelWatch$Tube") F hK ho iX3_fireRank_3 0 (by decide) (by decide +kernel) (fun _ h9 => h9) rfl dX3_fireRank_13 ?_
    refine sk_aload_n F dX3_fireRank_16 rfl 0 rfl ?_
    refine sk_g3 (ref := "TunnelWatch$Tube") F hK ho iX3_fireRank_3 11 (by decide) (by decide +kernel) (fun _ h9 => h9) rfl dX3_fireRank_17 ?_
    refine sk_aldS F hK ho dX3_fireRank_20 (fun h2 => ?_)
    refine sk_g2 (ref := "TunnelWatch$Section") F hK (kC_s ho hn (inb_lt h2)) iX3_fireRank_2 3 (by decide) (by decide +kernel) (fun _ h9 => h9) rfl dX3_fireRank_21 ?_
    exact sk_iret F hK hr hlocks dX3_fireRank_24
  · refine sk_iconst (x := (-1)) F dX3_fireRank_8 (by decide) ?_
    refine sk_goto F 24 dX3_fireRank_9 (by decide) ?_
    exact sk_iret F hK hr hlocks dX3_fireRank_24
theorem tX3_fireRank {l : Launch} {D : va_G} {A : Nat → Prop} {cI cS cF cZ cJ : ClassId} {ad : Nat → Nat} {X : va_W} {n : Nat} (hn : n ≤ 24) {o : Nat} (ho : kC n o = 3) (v : Mem) : CI l yX3_fireRank wsX3_fireRank rmX3_fireRank D A (ty5 cI cS cF cZ cJ) (Wc cI cS cF ad n X) [.ref (ad o)] v (fX3_fireRank n o v) :=
  CI_of (cc := cX3_fireRank) (maxL := 1) (ret := (some .int)) (by decide) rfl (Nat.le_of_ble_eq_true rfl) (fun p e s m below meth c G => kX3_fireRank_0 G hn ho v)
def rmX3_judgeFire : Room := { frames := 4, cells := 0, slots := 0, locals := 89 }
theorem iX3_judgeFire_2 : ∀ w ∈ wsX20, w ∈ wsX3_judgeFire := by decide +kernel
theorem iX3_judgeFire_3 : ∀ w ∈ wsX30, w ∈ wsX3_judgeFire := by decide +kernel
def fX3_judgeFire_41 (n : Nat) (o : Nat) (v : Mem) (l1 : Int32) : Option (Mem) := some (up2 (up2 v o 10 2) o 11 l1)
set_option maxRecDepth 100000 in
set_option maxHeartbeats 4000000 in
theorem kX3_judgeFire_41 {p : Program} {l : Launch} {e : Env} {s : State} {m : MethodId} {args : Array Value} {below : List Frame} {meth : Method} {c : Code} {D : va_G} {A : Nat → Prop} {cI cS cF cZ cJ : ClassId} {ad : Nat → Nat} {X : va_W} {n : Nat} {o : Nat} (G : cx p s m args meth c cX3_judgeFire 2 wsX3_judgeFire RX3 D (ty5 cI cS cF cZ cJ) A none) (hn : n ≤ 24) (ho : kC n o = 3) (v : Mem) (l1 : Int32) : sk p l e rmX3_judgeFire s m args below meth c D A 2 0 0 (fun res => MQ below (qv D A (ty5 cI cS cF cZ cJ) (Wc cI cS cF ad n X) res) args s 0 0 A) (Wc cI cS cF ad n X v) 41 [(0, .ref (ad o)), (1, .int l1)] [] (fX3_judgeFire_41 n o v l1) := by
  obtain ⟨F, hK, hA, hZ, hr, hlocks⟩ := G
  refine sk_eq (K' := some (up2 (up2 v o 10 2) o 11 l1)) rfl ?_
  refine sk_aload_n F dX3_judgeFire_41 rfl 0 rfl ?_
  refine sk_iconst (x := 2) F dX3_judgeFire_42 (by decide) ?_
  refine sk_p3 (ref := "TunnelWatch$Tube") (ty := .int) F hK ho iX3_judgeFire_3 10 (by decide) (by decide +kernel) (fun _ h9 => h9) rfl (by decide +kernel) rfl rfl rfl dX3_judgeFire_43 ?_
  refine sk_aload_n F dX3_judgeFire_46 rfl 0 rfl ?_
  refine sk_iload_n F dX3_judgeFire_47 rfl 1 rfl ?_
  refine sk_p3 (ref := "TunnelWatch$Tube") (ty := .int) F hK ho iX3_judgeFire_3 11 (by decide) (by decide +kernel) (fun _ h9 => h9) rfl (by decide +kernel) rfl rfl rfl dX3_judgeFire_48 ?_
  exact sk_vret F hK hr hlocks dX3_judgeFire_51
def fX3_judgeFire (n : Nat) (o : Nat) (v : Mem) : Option (Mem) := bd (fX3_bestCandidate n o v) fun x3 v2 => if x3 = (-1) then (fX3_judgeSuspicion n o v2).bind fun v12 => some v12 else if (v2 o 10) = 2 then gd (inb x3 n) (bd (fX3_fireRank n o v2) fun x9 v8 => if (v2 (o + 17 + x3.toNatClampNeg) 3) ≤ x9 then some v8 else fX3_judgeFire_41 n o v8 x3) else fX3_judgeFire_41 n o v2 x3
set_option maxRecDepth 100000 in
set_option maxHeartbeats 4000000 in
theorem kX3_judgeFire_0 {p : Program} {l : Launch} {e : Env} {s : State} {m : MethodId} {args : Array Value} {below : List Frame} {meth : Method} {c : Code} {D : va_G} {A : Nat → Prop} {cI cS cF cZ cJ : ClassId} {ad : Nat → Nat} {X : va_W} {n : Nat} {o : Nat} (G : cx p s m args meth c cX3_judgeFire 2 wsX3_judgeFire RX3 D (ty5 cI cS cF cZ cJ) A none) (hn : n ≤ 24) (ho : kC n o = 3) (v : Mem) : sk p l e rmX3_judgeFire s m args below meth c D A 2 0 0 (fun res => MQ below (qv D A (ty5 cI cS cF cZ cJ) (Wc cI cS cF ad n X) res) args s 0 0 A) (Wc cI cS cF ad n X v) 0 [(0, .ref (ad o))] [] (fX3_judgeFire n o v) := by
  obtain ⟨F, hK, hA, hZ, hr, hlocks⟩ := G
  refine sk_eq (K' := bd (fX3_bestCandidate n o v) fun x3 v2 => if x3 = (-1) then (fX3_judgeSuspicion n o v2).bind fun v12 => some v12 else if (v2 o 10) = 2 then gd (inb x3 n) (bd (fX3_fireRank n o v2) fun x9 v8 => if (v2 (o + 17 + x3.toNatClampNeg) 3) ≤ x9 then some v8 else fX3_judgeFire_41 n o v8 x3) else fX3_judgeFire_41 n o v2 x3) rfl ?_
  refine sk_aload_n F dX3_judgeFire_0 rfl 0 rfl ?_
  refine sk_callVi (As := []) (rest := []) F hK hA hZ _ (tX3_bestCandidate hn ho _) (cwV 0 F.2.2.2.2 gX3_judgeFire_X3_bestCandidate rfl rfl rfl (by decide +kernel) ⟨Nat.le_of_ble_eq_true rfl, Nat.le_of_ble_eq_true rfl⟩) (rc3 hK ho) rfl rfl (Nat.le_of_ble_eq_true rfl) (by decide) dX3_judgeFire_1 (fun x3 v2 c1 => ?_)
  refine sk_istore_n F dX3_judgeFire_4 rfl (by decide) rfl ?_
  refine sk_iload_n F dX3_judgeFire_5 rfl 0 rfl ?_
  refine sk_iconst (x := (-1)) F dX3_judgeFire_6 (by decide) ?_
  refine sk_icmp_ne F 17 dX3_judgeFire_7 (by decide) (fun h4 => ?_) (fun h4 => ?_)
  · refine sk_aload_n F dX3_judgeFire_17 rfl 1 rfl ?_
    refine sk_g3 (ref := "TunnelWatch$Tube") F hK ho iX3_judgeFire_3 10 (by decide) (by decide +kernel) (fun _ h9 => h9) rfl dX3_judgeFire_18 ?_
    refine sk_iconst (x := 2) F dX3_judgeFire_21 (by decide) ?_
    refine sk_icmp_ne F 41 dX3_judgeFire_22 (by decide) (fun h5 => ?_) (fun h5 => ?_)
    · exact sk_lv [1, 0] rfl (kX3_judgeFire_41 ⟨F, hK, hA, hZ, hr, hlocks⟩ hn ho v2 x3)
    · refine sk_aload_n F dX3_judgeFire_25 rfl 1 rfl ?_
      refine sk_g3 (ref := "TunnelWatch$Tube") F hK ho iX3_judgeFire_3 0 (by decide) (by decide +kernel) (fun _ h9 => h9) rfl dX3_judgeFire_26 ?_
      refine sk_iload_n F dX3_judgeFire_29 rfl 0 rfl ?_
      refine sk_aldS F hK ho dX3_judgeFire_30 (fun h6 => ?_)
      refine sk_g2 (ref := "TunnelWatch$Section") F hK (kC_s ho hn (inb_lt h6)) iX3_judgeFire_2 3 (by decide) (by decide +kernel) (fun _ h9 => h9) rfl dX3_judgeFire_31 ?_
      refine sk_aload_n F dX3_judgeFire_34 rfl 1 rfl ?_
      refine sk_callVi (As := []) (rest := [.int (v2 (o + 17 + x3.toNatClampNeg) 3)]) F hK hA hZ _ (tX3_fireRank hn ho _) (cwV 0 F.2.2.2.2 gX3_judgeFire_X3_fireRank rfl rfl rfl (by decide +kernel) ⟨Nat.le_of_ble_eq_true rfl, Nat.le_of_ble_eq_true rfl⟩) (rc3 hK ho) rfl rfl (Nat.le_of_ble_eq_true rfl) (by decide) dX3_judgeFire_35 (fun x9 v8 c7 => ?_)
      refine sk_icmp_le F 51 dX3_judgeFire_38 (by decide) (fun h10 => ?_) (fun h10 => ?_)
      · exact sk_vret F hK hr hlocks dX3_judgeFire_51
      · exact sk_lv [1, 0] rfl (kX3_judgeFire_41 ⟨F, hK, hA, hZ, hr, hlocks⟩ hn ho v8 x3)
  · refine sk_aload_n F dX3_judgeFire_10 rfl 1 rfl ?_
    refine sk_callVv (As := []) (rest := []) F hK hA hZ _ (tX3_judgeSuspicion hn ho _) (cwV 0 F.2.2.2.2 gX3_judgeFire_X3_judgeSuspicion rfl rfl rfl (by decide +kernel) ⟨Nat.le_of_ble_eq_true rfl, Nat.le_of_ble_eq_true rfl⟩) (rc3 hK ho) rfl rfl (Nat.le_of_ble_eq_true rfl) (by decide) dX3_judgeFire_11 (fun v12 c11 => ?_)
    refine sk_goto F 51 dX3_judgeFire_14 (by decide) ?_
    exact sk_vret F hK hr hlocks dX3_judgeFire_51
theorem tX3_judgeFire {l : Launch} {D : va_G} {A : Nat → Prop} {cI cS cF cZ cJ : ClassId} {ad : Nat → Nat} {X : va_W} {n : Nat} (hn : n ≤ 24) {o : Nat} (ho : kC n o = 3) (v : Mem) : CV l yX3_judgeFire wsX3_judgeFire rmX3_judgeFire D A (ty5 cI cS cF cZ cJ) (Wc cI cS cF ad n X) [.ref (ad o)] v (fX3_judgeFire n o v) :=
  CV_of (cc := cX3_judgeFire) (maxL := 2) (ret := none) (by decide) rfl (Nat.le_of_ble_eq_true rfl) (fun p e s m below meth c G => kX3_judgeFire_0 G hn ho v)
def rmX3_pullWhereSuspected : Room := { frames := 0, cells := 0, slots := 0, locals := 0 }
theorem iX3_pullWhereSuspected_2 : ∀ w ∈ wsX20, w ∈ wsX3_pullWhereSuspected := by decide +kernel
theorem iX3_pullWhereSuspected_3 : ∀ w ∈ wsX30, w ∈ wsX3_pullWhereSuspected := by decide +kernel
def fX3_pullWhereSuspected (n : Nat) (o : Nat) (v : Mem) : Option (Int32 × Mem) := if (v o 10) = 1 then if (v o 11) = (-1) then some (0, v) else gd (inb (v o 11) n) (some (1, up2 v (o + 17 + (v o 11).toNatClampNeg) 2 1)) else some (0, v)
set_option maxRecDepth 100000 in
set_option maxHeartbeats 4000000 in
theorem kX3_pullWhereSuspected_0 {p : Program} {l : Launch} {e : Env} {s : State} {m : MethodId} {args : Array Value} {below : List Frame} {meth : Method} {c : Code} {D : va_G} {A : Nat → Prop} {cI cS cF cZ cJ : ClassId} {ad : Nat → Nat} {X : va_W} {n : Nat} {o : Nat} (G : cx p s m args meth c cX3_pullWhereSuspected 1 wsX3_pullWhereSuspected RX3 D (ty5 cI cS cF cZ cJ) A (some .boolean)) (hn : n ≤ 24) (ho : kC n o = 3) (v : Mem) : sk p l e rmX3_pullWhereSuspected s m args below meth c D A 1 0 0 (fun res => MQ below (qi D A (ty5 cI cS cF cZ cJ) (Wc cI cS cF ad n X) res) args s 0 0 A) (Wc cI cS cF ad n X v) 0 [(0, .ref (ad o))] [] (fX3_pullWhereSuspected n o v) := by
  obtain ⟨F, hK, hA, hZ, hr, hlocks⟩ := G
  refine sk_eq (K' := if (v o 10) = 1 then if (v o 11) = (-1) then some (0, v) else gd (inb (v o 11) n) (some (1, up2 v (o + 17 + (v o 11).toNatClampNeg) 2 1)) else some (0, v)) rfl ?_
  refine sk_aload_n F dX3_pullWhereSuspected_0 rfl 0 rfl ?_
  refine sk_g3 (ref := "TunnelWatch$Tube") F hK ho iX3_pullWhereSuspected_3 10 (by decide) (by decide +kernel) (fun _ h9 => h9) rfl dX3_pullWhereSuspected_1 ?_
  refine sk_iconst (x := 1) F dX3_pullWhereSuspected_4 (by decide) ?_
  refine sk_icmp_ne F 16 dX3_pullWhereSuspected_5 (by decide) (fun h1 => ?_) (fun h1 => ?_)
  · refine sk_iconst (x := 0) F dX3_pullWhereSuspected_16 (by decide) ?_
    exact sk_zretc F hK hr hlocks (by decide) dX3_pullWhereSuspected_17
  · refine sk_aload_n F dX3_pullWhereSuspected_8 rfl 0 rfl ?_
    refine sk_g3 (ref := "TunnelWatch$Tube") F hK ho iX3_pullWhereSuspected_3 11 (by decide) (by decide +kernel) (fun _ h9 => h9) rfl dX3_pullWhereSuspected_9 ?_
    refine sk_iconst (x := (-1)) F dX3_pullWhereSuspected_12 (by decide) ?_
    refine sk_icmp_ne F 18 dX3_pullWhereSuspected_13 (by decide) (fun h2 => ?_) (fun h2 => ?_)
    · refine sk_aload_n F dX3_pullWhereSuspected_18 rfl 0 rfl ?_
      refine sk_g3 (ref := "TunnelWatch$Tube") F hK ho iX3_pullWhereSuspected_3 0 (by decide) (by decide +kernel) (fun _ h9 => h9) rfl dX3_pullWhereSuspected_19 ?_
      refine sk_aload_n F dX3_pullWhereSuspected_22 rfl 0 rfl ?_
      refine sk_g3 (ref := "TunnelWatch$Tube") F hK ho iX3_pullWhereSuspected_3 11 (by decide) (by decide +kernel) (fun _ h9 => h9) rfl dX3_pullWhereSuspected_23 ?_
      refine sk_aldS F hK ho dX3_pullWhereSuspected_26 (fun h3 => ?_)
      refine sk_iconst (x := 1) F dX3_pullWhereSuspected_27 (by decide) ?_
      refine sk_p2 (ref := "TunnelWatch$Section") (ty := .boolean) F hK (kC_s ho hn (inb_lt h3)) iX3_pullWhereSuspected_2 2 (by decide) (by decide +kernel) (fun _ h9 => h9) rfl (by decide +kernel) rfl rfl rfl dX3_pullWhereSuspected_28 ?_
      refine sk_iconst (x := 1) F dX3_pullWhereSuspected_31 (by decide) ?_
      exact sk_zretc F hK hr hlocks (by decide) dX3_pullWhereSuspected_32
    · refine sk_iconst (x := 0) F dX3_pullWhereSuspected_16 (by decide) ?_
      exact sk_zretc F hK hr hlocks (by decide) dX3_pullWhereSuspected_17
theorem tX3_pullWhereSuspected {l : Launch} {D : va_G} {A : Nat → Prop} {cI cS cF cZ cJ : ClassId} {ad : Nat → Nat} {X : va_W} {n : Nat} (hn : n ≤ 24) {o : Nat} (ho : kC n o = 3) (v : Mem) : CI l yX3_pullWhereSuspected wsX3_pullWhereSuspected rmX3_pullWhereSuspected D A (ty5 cI cS cF cZ cJ) (Wc cI cS cF ad n X) [.ref (ad o)] v (fX3_pullWhereSuspected n o v) :=
  CI_of (cc := cX3_pullWhereSuspected) (maxL := 1) (ret := (some .boolean)) (by decide) rfl (Nat.le_of_ble_eq_true rfl) (fun p e s m below meth c G => kX3_pullWhereSuspected_0 G hn ho v)
def rmX3_endFire : Room := { frames := 2, cells := 0, slots := 0, locals := 41 }
theorem iX3_endFire_2 : ∀ w ∈ wsX20, w ∈ wsX3_endFire := by decide +kernel
theorem iX3_endFire_3 : ∀ w ∈ wsX30, w ∈ wsX3_endFire := by decide +kernel
def fX3_endFire_12 (n : Nat) (o : Nat) : Nat → Mem → Int32 → Option (Int32 × Mem)
  | 0, _, _ => none
  | fuel + 1, v, l1 => if (nI n) ≤ l1 then some (1, up2 (up2 v o 10 0) o 11 (-1)) else gd (inb l1 n) (fX3_endFire_12 n o fuel (up2 v (o + 17 + l1.toNatClampNeg) 2 0) (l1 + 1))
set_option maxRecDepth 100000 in
set_option maxHeartbeats 4000000 in
theorem kX3_endFire_12 {p : Program} {l : Launch} {e : Env} {s : State} {m : MethodId} {args : Array Value} {below : List Frame} {meth : Method} {c : Code} {D : va_G} {A : Nat → Prop} {cI cS cF cZ cJ : ClassId} {ad : Nat → Nat} {X : va_W} {n : Nat} {o : Nat} (G : cx p s m args meth c cX3_endFire 2 wsX3_endFire RX3 D (ty5 cI cS cF cZ cJ) A (some .boolean)) (hn : n ≤ 24) (ho : kC n o = 3) : ∀ (fuel : Nat) (v : Mem) (l1 : Int32), sk p l e rmX3_endFire s m args below meth c D A 2 0 0 (fun res => MQ below (qi D A (ty5 cI cS cF cZ cJ) (Wc cI cS cF ad n X) res) args s 0 0 A) (Wc cI cS cF ad n X v) 12 [(0, .ref (ad o)), (1, .int l1)] [] (fX3_endFire_12 n o fuel v l1) := by
  obtain ⟨F, hK, hA, hZ, hr, hlocks⟩ := G
  intro fuel
  induction fuel with
  | zero => intro v l1; exact sk_none
  | succ fuel ih =>
    intro v l1
    refine sk_eq (K' := if (nI n) ≤ l1 then some (1, up2 (up2 v o 10 0) o 11 (-1)) else gd (inb l1 n) (fX3_endFire_12 n o fuel (up2 v (o + 17 + l1.toNatClampNeg) 2 0) (l1 + 1))) rfl ?_
    refine sk_iload_n F dX3_endFire_12 rfl 1 rfl ?_
    refine sk_aload_n F dX3_endFire_13 rfl 0 rfl ?_
    refine sk_g3 (ref := "TunnelWatch$Tube") F hK ho iX3_endFire_3 0 (by decide) (by decide +kernel) (fun _ h9 => h9) rfl dX3_endFire_14 ?_
    refine sk_lenS F hK ho dX3_endFire_17 ?_
    refine sk_icmp_ge F 37 dX3_endFire_18 (by decide) (fun h5 => ?_) (fun h5 => ?_)
    · refine sk_aload_n F dX3_endFire_37 rfl 0 rfl ?_
      refine sk_iconst (x := 0) F dX3_endFire_38 (by decide) ?_
      refine sk_p3 (ref := "TunnelWatch$Tube") (ty := .int) F hK ho iX3_endFire_3 10 (by decide) (by decide +kernel) (fun _ h9 => h9) rfl (by decide +kernel) rfl rfl rfl dX3_endFire_39 ?_
      refine sk_aload_n F dX3_endFire_42 rfl 0 rfl ?_
      refine sk_iconst (x := (-1)) F dX3_endFire_43 (by decide) ?_
      refine sk_p3 (ref := "TunnelWatch$Tube") (ty := .int) F hK ho iX3_endFire_3 11 (by decide) (by decide +kernel) (fun _ h9 => h9) rfl (by decide +kernel) rfl rfl rfl dX3_endFire_44 ?_
      refine sk_iconst (x := 1) F dX3_endFire_47 (by decide) ?_
      exact sk_zretc F hK hr hlocks (by decide) dX3_endFire_48
    · refine sk_aload_n F dX3_endFire_21 rfl 0 rfl ?_
      refine sk_g3 (ref := "TunnelWatch$Tube") F hK ho iX3_endFire_3 0 (by decide) (by decide +kernel) (fun _ h9 => h9) rfl dX3_endFire_22 ?_
      refine sk_iload_n F dX3_endFire_25 rfl 1 rfl ?_
      refine sk_aldS F hK ho dX3_endFire_26 (fun h6 => ?_)
      refine sk_iconst (x := 0) F dX3_endFire_27 (by decide) ?_
      refine sk_p2 (ref := "TunnelWatch$Section") (ty := .boolean) F hK (kC_s ho hn (inb_lt h6)) iX3_endFire_2 2 (by decide) (by decide +kernel) (fun _ h9 => h9) rfl (by decide +kernel) rfl rfl rfl dX3_endFire_28 ?_
      refine sk_iinc (y := l1 + 1) F dX3_endFire_31 1 rfl rfl (by decide) rfl ?_
      refine sk_goto F 12 dX3_endFire_34 (by decide) ?_
      exact sk_lv [1, 0] rfl (ih (up2 v (o + 17 + l1.toNatClampNeg) 2 0) (l1 + 1))
def fX3_endFire (n : Nat) (o : Nat) (v : Mem) : Option (Int32 × Mem) := bd (fX3_leastOn n o v) fun x3 v2 => if x3 = (-1) then fX3_endFire_12 n o 1000 v2 0 else some (0, v2)
set_option maxRecDepth 100000 in
set_option maxHeartbeats 4000000 in
theorem kX3_endFire_0 {p : Program} {l : Launch} {e : Env} {s : State} {m : MethodId} {args : Array Value} {below : List Frame} {meth : Method} {c : Code} {D : va_G} {A : Nat → Prop} {cI cS cF cZ cJ : ClassId} {ad : Nat → Nat} {X : va_W} {n : Nat} {o : Nat} (G : cx p s m args meth c cX3_endFire 2 wsX3_endFire RX3 D (ty5 cI cS cF cZ cJ) A (some .boolean)) (hn : n ≤ 24) (ho : kC n o = 3) (v : Mem) : sk p l e rmX3_endFire s m args below meth c D A 2 0 0 (fun res => MQ below (qi D A (ty5 cI cS cF cZ cJ) (Wc cI cS cF ad n X) res) args s 0 0 A) (Wc cI cS cF ad n X v) 0 [(0, .ref (ad o))] [] (fX3_endFire n o v) := by
  obtain ⟨F, hK, hA, hZ, hr, hlocks⟩ := G
  refine sk_eq (K' := bd (fX3_leastOn n o v) fun x3 v2 => if x3 = (-1) then fX3_endFire_12 n o 1000 v2 0 else some (0, v2)) rfl ?_
  refine sk_aload_n F dX3_endFire_0 rfl 0 rfl ?_
  refine sk_callVi (As := []) (rest := []) F hK hA hZ _ (tX3_leastOn hn ho _) (cwV 0 F.2.2.2.2 gX3_endFire_X3_leastOn rfl rfl rfl (by decide +kernel) ⟨Nat.le_of_ble_eq_true rfl, Nat.le_of_ble_eq_true rfl⟩) (rc3 hK ho) rfl rfl (Nat.le_of_ble_eq_true rfl) (by decide) dX3_endFire_1 (fun x3 v2 c1 => ?_)
  refine sk_iconst (x := (-1)) F dX3_endFire_4 (by decide) ?_
  refine sk_icmp_eq F 10 dX3_endFire_5 (by decide) (fun h4 => ?_) (fun h4 => ?_)
  · refine sk_iconst (x := 0) F dX3_endFire_10 (by decide) ?_
    refine sk_istore_n F dX3_endFire_11 rfl (by decide) rfl ?_
    exact sk_lv [1, 0] rfl (kX3_endFire_12 ⟨F, hK, hA, hZ, hr, hlocks⟩ hn ho 1000 v2 0)
  · refine sk_iconst (x := 0) F dX3_endFire_8 (by decide) ?_
    exact sk_zretc F hK hr hlocks (by decide) dX3_endFire_9
theorem tX3_endFire {l : Launch} {D : va_G} {A : Nat → Prop} {cI cS cF cZ cJ : ClassId} {ad : Nat → Nat} {X : va_W} {n : Nat} (hn : n ≤ 24) {o : Nat} (ho : kC n o = 3) (v : Mem) : CI l yX3_endFire wsX3_endFire rmX3_endFire D A (ty5 cI cS cF cZ cJ) (Wc cI cS cF ad n X) [.ref (ad o)] v (fX3_endFire n o v) :=
  CI_of (cc := cX3_endFire) (maxL := 2) (ret := (some .boolean)) (by decide) rfl (Nat.le_of_ble_eq_true rfl) (fun p e s m below meth c G => kX3_endFire_0 G hn ho v)
def rmX3_want : Room := { frames := 0, cells := 0, slots := 0, locals := 0 }
theorem iX3_want_3 : ∀ w ∈ wsX30, w ∈ wsX3_want := by decide +kernel
def fX3_want (o : Nat) (p1 : Int32) (p2 : Int32) (v : Mem) : Option (Mem) := some (up2 (up2 v o 8 p1) o 9 p2)
set_option maxRecDepth 100000 in
set_option maxHeartbeats 4000000 in
theorem kX3_want_0 {p : Program} {l : Launch} {e : Env} {s : State} {m : MethodId} {args : Array Value} {below : List Frame} {meth : Method} {c : Code} {D : va_G} {A : Nat → Prop} {cI cS cF cZ cJ : ClassId} {ad : Nat → Nat} {X : va_W} {n : Nat} {o : Nat} {p1 : Int32} {p2 : Int32} (G : cx p s m args meth c cX3_want 3 wsX3_want RX3 D (ty5 cI cS cF cZ cJ) A none) (hn : n ≤ 24) (ho : kC n o = 3) (v : Mem) : sk p l e rmX3_want s m args below meth c D A 3 0 0 (fun res => MQ below (qv D A (ty5 cI cS cF cZ cJ) (Wc cI cS cF ad n X) res) args s 0 0 A) (Wc cI cS cF ad n X v) 0 [(0, .ref (ad o)), (1, .int p1), (2, .int p2)] [] (fX3_want o p1 p2 v) := by
  obtain ⟨F, hK, hA, hZ, hr, hlocks⟩ := G
  refine sk_eq (K' := some (up2 (up2 v o 8 p1) o 9 p2)) rfl ?_
  refine sk_aload_n F dX3_want_0 rfl 0 rfl ?_
  refine sk_iload_n F dX3_want_1 rfl 1 rfl ?_
  refine sk_p3 (ref := "TunnelWatch$Tube") (ty := .int) F hK ho iX3_want_3 8 (by decide) (by decide +kernel) (fun _ h9 => h9) rfl (by decide +kernel) rfl rfl rfl dX3_want_2 ?_
  refine sk_aload_n F dX3_want_5 rfl 0 rfl ?_
  refine sk_iload_n F dX3_want_6 rfl 2 rfl ?_
  refine sk_p3 (ref := "TunnelWatch$Tube") (ty := .int) F hK ho iX3_want_3 9 (by decide) (by decide +kernel) (fun _ h9 => h9) rfl (by decide +kernel) rfl rfl rfl dX3_want_7 ?_
  exact sk_vret F hK hr hlocks dX3_want_10
theorem tX3_want {l : Launch} {D : va_G} {A : Nat → Prop} {cI cS cF cZ cJ : ClassId} {ad : Nat → Nat} {X : va_W} {n : Nat} (hn : n ≤ 24) {o : Nat} {p1 : Int32} {p2 : Int32} (ho : kC n o = 3) (v : Mem) : CV l yX3_want wsX3_want rmX3_want D A (ty5 cI cS cF cZ cJ) (Wc cI cS cF ad n X) [.ref (ad o), .int p1, .int p2] v (fX3_want o p1 p2 v) :=
  CV_of (cc := cX3_want) (maxL := 3) (ret := none) (by decide) rfl (Nat.le_of_ble_eq_true rfl) (fun p e s m below meth c G => kX3_want_0 G hn ho v)
