def rmX0_send : Room := { frames := 0, cells := 0, slots := 0, locals := 0 }
theorem iX0_send_0 : ∀ w ∈ wsX00, w ∈ wsX0_send := by decide +kernel
theorem iX0_send_1 : ∀ w ∈ wsX10, w ∈ wsX0_send := by decide +kernel
def fX0_send (o : Nat) (p1 : Int32) (p2 : Int32) (v : Mem) : Option (Mem) := if (v o 0) = p1 then some v else some (up2 (up2 v o 0 p1) o 2 p2)
set_option maxRecDepth 100000 in
set_option maxHeartbeats 4000000 in
theorem kX0_send_0 {p : Program} {l : Launch} {e : Env} {s : State} {m : MethodId} {args : Array Value} {below : List Frame} {meth : Method} {c : Code} {D : va_G} {A : Nat → Prop} {cI cS cF cZ cJ : ClassId} {ad : Nat → Nat} {X : va_W} {n : Nat} {o : Nat} {p1 : Int32} {p2 : Int32} (G : cx p s m args meth c cX0_send 3 wsX0_send RX0 D (ty5 cI cS cF cZ cJ) A none) (hn : n ≤ 24) (ho : kC n o = 0 ∨ kC n o = 1) (v : Mem) : sk p l e rmX0_send s m args below meth c D A 3 0 0 (fun res => MQ below (qv D A (ty5 cI cS cF cZ cJ) (Wc cI cS cF ad n X) res) args s 0 0 A) (Wc cI cS cF ad n X v) 0 [(0, .ref (ad o)), (1, .int p1), (2, .int p2)] [] (fX0_send o p1 p2 v) := by
  obtain ⟨F, hK, hA, hZ, hr, hlocks⟩ := G
  refine sk_eq (K' := if (v o 0) = p1 then some v else some (up2 (up2 v o 0 p1) o 2 p2)) rfl ?_
  refine sk_aload_n F dX0_send_0 rfl 0 rfl ?_
  refine sk_gD F hK ho iX0_send_0 iX0_send_1 0 (by decide) (by decide +kernel) rfl rfl rfl rfl dX0_send_1 ?_
  refine sk_iload_n F dX0_send_4 rfl 1 rfl ?_
  refine sk_icmp_eq F 18 dX0_send_5 (by decide) (fun h1 => ?_) (fun h1 => ?_)
  · exact sk_vret F hK hr hlocks dX0_send_18
  · refine sk_aload_n F dX0_send_8 rfl 0 rfl ?_
    refine sk_iload_n F dX0_send_9 rfl 1 rfl ?_
    refine sk_pD (ty := .int) F hK ho iX0_send_0 iX0_send_1 0 (by decide) (by decide +kernel) rfl (by decide +kernel) rfl rfl rfl rfl rfl rfl dX0_send_10 ?_
    refine sk_aload_n F dX0_send_13 rfl 0 rfl ?_
    refine sk_iload_n F dX0_send_14 rfl 2 rfl ?_
    refine sk_pD (ty := .int) F hK ho iX0_send_0 iX0_send_1 2 (by decide) (by decide +kernel) rfl (by decide +kernel) rfl rfl rfl rfl rfl rfl dX0_send_15 ?_
    exact sk_vret F hK hr hlocks dX0_send_18
theorem tX0_send {l : Launch} {D : va_G} {A : Nat → Prop} {cI cS cF cZ cJ : ClassId} {ad : Nat → Nat} {X : va_W} {n : Nat} (hn : n ≤ 24) {o : Nat} {p1 : Int32} {p2 : Int32} (ho : kC n o = 0 ∨ kC n o = 1) (v : Mem) : CV l yX0_send wsX0_send rmX0_send D A (ty5 cI cS cF cZ cJ) (Wc cI cS cF ad n X) [.ref (ad o), .int p1, .int p2] v (fX0_send o p1 p2 v) :=
  CV_of (cc := cX0_send) (maxL := 3) (ret := none) (by decide) rfl (Nat.le_of_ble_eq_true rfl) (fun p e s m below meth c G => kX0_send_0 G hn ho v)
def rmX0_act : Room := { frames := 0, cells := 0, slots := 0, locals := 0 }
theorem iX0_act_0 : ∀ w ∈ wsX00, w ∈ wsX0_act := by decide +kernel
theorem iX0_act_1 : ∀ w ∈ wsX10, w ∈ wsX0_act := by decide +kernel
def fX0_act (o : Nat) (p1 : Int32) (v : Mem) : Option (Mem) := if (v o 4) = 0 then if (p1 - (v o 2)) < (v o 3) then some v else some (up2 v o 1 (v o 0)) else some v
set_option maxRecDepth 100000 in
set_option maxHeartbeats 4000000 in
theorem kX0_act_0 {p : Program} {l : Launch} {e : Env} {s : State} {m : MethodId} {args : Array Value} {below : List Frame} {meth : Method} {c : Code} {D : va_G} {A : Nat → Prop} {cI cS cF cZ cJ : ClassId} {ad : Nat → Nat} {X : va_W} {n : Nat} {o : Nat} {p1 : Int32} (G : cx p s m args meth c cX0_act 2 wsX0_act RX0 D (ty5 cI cS cF cZ cJ) A none) (hn : n ≤ 24) (ho : kC n o = 0 ∨ kC n o = 1) (v : Mem) : sk p l e rmX0_act s m args below meth c D A 2 0 0 (fun res => MQ below (qv D A (ty5 cI cS cF cZ cJ) (Wc cI cS cF ad n X) res) args s 0 0 A) (Wc cI cS cF ad n X v) 0 [(0, .ref (ad o)), (1, .int p1)] [] (fX0_act o p1 v) := by
  obtain ⟨F, hK, hA, hZ, hr, hlocks⟩ := G
  refine sk_eq (K' := if (v o 4) = 0 then if (p1 - (v o 2)) < (v o 3) then some v else some (up2 v o 1 (v o 0)) else some v) rfl ?_
  refine sk_aload_n F dX0_act_0 rfl 0 rfl ?_
  refine sk_gD F hK ho iX0_act_0 iX0_act_1 4 (by decide) (by decide +kernel) rfl rfl rfl rfl dX0_act_1 ?_
  refine sk_if_ne F 28 dX0_act_4 (by decide) (fun h1 => ?_) (fun h1 => ?_)
  · exact sk_vret F hK hr hlocks dX0_act_28
  · refine sk_iload_n F dX0_act_7 rfl 1 rfl ?_
    refine sk_aload_n F dX0_act_8 rfl 0 rfl ?_
    refine sk_gD F hK ho iX0_act_0 iX0_act_1 2 (by decide) (by decide +kernel) rfl rfl rfl rfl dX0_act_9 ?_
    refine sk_isub F dX0_act_12 ?_
    refine sk_aload_n F dX0_act_13 rfl 0 rfl ?_
    refine sk_gD F hK ho iX0_act_0 iX0_act_1 3 (by decide) (by decide +kernel) rfl rfl rfl rfl dX0_act_14 ?_
    refine sk_icmp_lt F 28 dX0_act_17 (by decide) (fun h2 => ?_) (fun h2 => ?_)
    · exact sk_vret F hK hr hlocks dX0_act_28
    · refine sk_aload_n F dX0_act_20 rfl 0 rfl ?_
      refine sk_aload_n F dX0_act_21 rfl 0 rfl ?_
      refine sk_gD F hK ho iX0_act_0 iX0_act_1 0 (by decide) (by decide +kernel) rfl rfl rfl rfl dX0_act_22 ?_
      refine sk_pD (ty := .int) F hK ho iX0_act_0 iX0_act_1 1 (by decide) (by decide +kernel) rfl (by decide +kernel) rfl rfl rfl rfl rfl rfl dX0_act_25 ?_
      exact sk_vret F hK hr hlocks dX0_act_28
theorem tX0_act {l : Launch} {D : va_G} {A : Nat → Prop} {cI cS cF cZ cJ : ClassId} {ad : Nat → Nat} {X : va_W} {n : Nat} (hn : n ≤ 24) {o : Nat} {p1 : Int32} (ho : kC n o = 0 ∨ kC n o = 1) (v : Mem) : CV l yX0_act wsX0_act rmX0_act D A (ty5 cI cS cF cZ cJ) (Wc cI cS cF ad n X) [.ref (ad o), .int p1] v (fX0_act o p1 v) :=
  CV_of (cc := cX0_act) (maxL := 2) (ret := none) (by decide) rfl (Nat.le_of_ble_eq_true rfl) (fun p e s m below meth c G => kX0_act_0 G hn ho v)
def rmX0_repair : Room := { frames := 0, cells := 0, slots := 0, locals := 0 }
theorem iX0_repair_0 : ∀ w ∈ wsX00, w ∈ wsX0_repair := by decide +kernel
theorem iX0_repair_1 : ∀ w ∈ wsX10, w ∈ wsX0_repair := by decide +kernel
def fX0_repair_19 (o : Nat) (v : Mem) (s0 : Int32) : Option (Int32 × Mem) := gd (bo s0) (some (s0, up2 (up2 (up2 v o 4 0) o 5 0) o 1 ((up2 (up2 v o 4 0) o 5 0) o 0)))
set_option maxRecDepth 100000 in
set_option maxHeartbeats 4000000 in
theorem kX0_repair_19 {p : Program} {l : Launch} {e : Env} {s : State} {m : MethodId} {args : Array Value} {below : List Frame} {meth : Method} {c : Code} {D : va_G} {A : Nat → Prop} {cI cS cF cZ cJ : ClassId} {ad : Nat → Nat} {X : va_W} {n : Nat} {o : Nat} (G : cx p s m args meth c cX0_repair 2 wsX0_repair RX0 D (ty5 cI cS cF cZ cJ) A (some .boolean)) (hn : n ≤ 24) (ho : kC n o = 0 ∨ kC n o = 1) (v : Mem) (s0 : Int32) : sk p l e rmX0_repair s m args below meth c D A 2 0 0 (fun res => MQ below (qi D A (ty5 cI cS cF cZ cJ) (Wc cI cS cF ad n X) res) args s 0 0 A) (Wc cI cS cF ad n X v) 19 [(0, .ref (ad o))] [.int s0] (fX0_repair_19 o v s0) := by
  obtain ⟨F, hK, hA, hZ, hr, hlocks⟩ := G
  refine sk_eq (K' := gd (bo s0) (some (s0, up2 (up2 (up2 v o 4 0) o 5 0) o 1 ((up2 (up2 v o 4 0) o 5 0) o 0)))) rfl ?_
  refine sk_istore_n F dX0_repair_19 rfl (by decide) rfl ?_
  refine sk_aload_n F dX0_repair_20 rfl 1 rfl ?_
  refine sk_iconst (x := 0) F dX0_repair_21 (by decide) ?_
  refine sk_pD (ty := .boolean) F hK ho iX0_repair_0 iX0_repair_1 4 (by decide) (by decide +kernel) rfl (by decide +kernel) rfl rfl rfl rfl rfl rfl dX0_repair_22 ?_
  refine sk_aload_n F dX0_repair_25 rfl 1 rfl ?_
  refine sk_iconst (x := 0) F dX0_repair_26 (by decide) ?_
  refine sk_pD (ty := .boolean) F hK ho iX0_repair_0 iX0_repair_1 5 (by decide) (by decide +kernel) rfl (by decide +kernel) rfl rfl rfl rfl rfl rfl dX0_repair_27 ?_
  refine sk_aload_n F dX0_repair_30 rfl 1 rfl ?_
  refine sk_aload_n F dX0_repair_31 rfl 1 rfl ?_
  refine sk_gD F hK ho iX0_repair_0 iX0_repair_1 0 (by decide) (by decide +kernel) rfl rfl rfl rfl dX0_repair_32 ?_
  refine sk_pD (ty := .int) F hK ho iX0_repair_0 iX0_repair_1 1 (by decide) (by decide +kernel) rfl (by decide +kernel) rfl rfl rfl rfl rfl rfl dX0_repair_35 ?_
  refine sk_iload_n F dX0_repair_38 rfl 0 rfl ?_
  exact sk_zret F hK hr hlocks dX0_repair_39
def fX0_repair (o : Nat) (v : Mem) : Option (Int32 × Mem) := if (v o 4) = 0 then if (v o 5) = 0 then fX0_repair_19 o v 0 else fX0_repair_19 o v 1 else fX0_repair_19 o v 1
set_option maxRecDepth 100000 in
set_option maxHeartbeats 4000000 in
theorem kX0_repair_0 {p : Program} {l : Launch} {e : Env} {s : State} {m : MethodId} {args : Array Value} {below : List Frame} {meth : Method} {c : Code} {D : va_G} {A : Nat → Prop} {cI cS cF cZ cJ : ClassId} {ad : Nat → Nat} {X : va_W} {n : Nat} {o : Nat} (G : cx p s m args meth c cX0_repair 2 wsX0_repair RX0 D (ty5 cI cS cF cZ cJ) A (some .boolean)) (hn : n ≤ 24) (ho : kC n o = 0 ∨ kC n o = 1) (v : Mem) : sk p l e rmX0_repair s m args below meth c D A 2 0 0 (fun res => MQ below (qi D A (ty5 cI cS cF cZ cJ) (Wc cI cS cF ad n X) res) args s 0 0 A) (Wc cI cS cF ad n X v) 0 [(0, .ref (ad o))] [] (fX0_repair o v) := by
  obtain ⟨F, hK, hA, hZ, hr, hlocks⟩ := G
  refine sk_eq (K' := if (v o 4) = 0 then if (v o 5) = 0 then fX0_repair_19 o v 0 else fX0_repair_19 o v 1 else fX0_repair_19 o v 1) rfl ?_
  refine sk_aload_n F dX0_repair_0 rfl 0 rfl ?_
  refine sk_gD F hK ho iX0_repair_0 iX0_repair_1 4 (by decide) (by decide +kernel) rfl rfl rfl rfl dX0_repair_1 ?_
  refine sk_if_ne F 14 dX0_repair_4 (by decide) (fun h1 => ?_) (fun h1 => ?_)
  · refine sk_iconst (x := 1) F dX0_repair_14 (by decide) ?_
    refine sk_goto F 19 dX0_repair_15 (by decide) ?_
    exact kX0_repair_19 ⟨F, hK, hA, hZ, hr, hlocks⟩ hn ho v 1
  · refine sk_aload_n F dX0_repair_7 rfl 0 rfl ?_
    refine sk_gD F hK ho iX0_repair_0 iX0_repair_1 5 (by decide) (by decide +kernel) rfl rfl rfl rfl dX0_repair_8 ?_
    refine sk_if_eq F 18 dX0_repair_11 (by decide) (fun h2 => ?_) (fun h2 => ?_)
    · refine sk_iconst (x := 0) F dX0_repair_18 (by decide) ?_
      exact kX0_repair_19 ⟨F, hK, hA, hZ, hr, hlocks⟩ hn ho v 0
    · refine sk_iconst (x := 1) F dX0_repair_14 (by decide) ?_
      refine sk_goto F 19 dX0_repair_15 (by decide) ?_
      exact kX0_repair_19 ⟨F, hK, hA, hZ, hr, hlocks⟩ hn ho v 1
theorem tX0_repair {l : Launch} {D : va_G} {A : Nat → Prop} {cI cS cF cZ cJ : ClassId} {ad : Nat → Nat} {X : va_W} {n : Nat} (hn : n ≤ 24) {o : Nat} (ho : kC n o = 0 ∨ kC n o = 1) (v : Mem) : CI l yX0_repair wsX0_repair rmX0_repair D A (ty5 cI cS cF cZ cJ) (Wc cI cS cF ad n X) [.ref (ad o)] v (fX0_repair o v) :=
  CI_of (cc := cX0_repair) (maxL := 2) (ret := (some .boolean)) (by decide) rfl (Nat.le_of_ble_eq_true rfl) (fun p e s m below meth c G => kX0_repair_0 G hn ho v)
