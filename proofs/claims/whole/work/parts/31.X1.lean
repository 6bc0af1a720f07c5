def rmX1_blow : Room := { frames := 1, cells := 0, slots := 0, locals := 22 }
theorem iX1_blow_1 : ∀ w ∈ wsX10, w ∈ wsX1_blow := by decide +kernel
def fX1_blow (o : Nat) (p1 : Int32) (p2 : Int32) (v : Mem) : Option (Mem) := (fX0_send o p1 p2 v).bind fun v2 => some (up2 v2 o 8 p1)
set_option maxRecDepth 100000 in
set_option maxHeartbeats 4000000 in
theorem kX1_blow_0 {p : Program} {l : Launch} {e : Env} {s : State} {m : MethodId} {args : Array Value} {below : List Frame} {meth : Method} {c : Code} {D : va_G} {A : Nat → Prop} {cI cS cF cZ cJ : ClassId} {ad : Nat → Nat} {X : va_W} {n : Nat} {o : Nat} {p1 : Int32} {p2 : Int32} (G : cx p s m args meth c cX1_blow 3 wsX1_blow RX1 D (ty5 cI cS cF cZ cJ) A none) (hn : n ≤ 24) (ho : kC n o = 1) (v : Mem) : sk p l e rmX1_blow s m args below meth c D A 3 0 0 (fun res => MQ below (qv D A (ty5 cI cS cF cZ cJ) (Wc cI cS cF ad n X) res) args s 0 0 A) (Wc cI cS cF ad n X v) 0 [(0, .ref (ad o)), (1, .int p1), (2, .int p2)] [] (fX1_blow o p1 p2 v) := by
  obtain ⟨F, hK, hA, hZ, hr, hlocks⟩ := G
  refine sk_eq (K' := (fX0_send o p1 p2 v).bind fun v2 => some (up2 v2 o 8 p1)) rfl ?_
  refine sk_aload_n F dX1_blow_0 rfl 0 rfl ?_
  refine sk_iload_n F dX1_blow_1 rfl 1 rfl ?_
  refine sk_iload_n F dX1_blow_2 rfl 2 rfl ?_
  refine sk_callUv (As := [.int p1, .int p2]) (rest := []) F hK hA hZ _ (tX0_send hn (Or.inr ho) _) (va_cwU 2 F.2.2.2.2 gX1_blow_X0_send_u9X1 rfl rfl rfl rfl (by decide +kernel) ⟨Nat.le_of_ble_eq_true rfl, Nat.le_of_ble_eq_true rfl⟩) (rc1 hK ho) rfl rfl (Nat.le_of_ble_eq_true rfl) (by decide) dX1_blow_3 (fun v2 c1 => ?_)
  refine sk_aload_n F dX1_blow_6 rfl 0 rfl ?_
  refine sk_iload_n F dX1_blow_7 rfl 1 rfl ?_
  refine sk_p1 (ref := "TunnelWatch$Fan") (ty := .int) F hK ho iX1_blow_1 8 (by decide) (by decide +kernel) (fun _ h9 => h9) rfl (by decide +kernel) rfl rfl rfl dX1_blow_8 ?_
  exact sk_vret F hK hr hlocks dX1_blow_11
theorem tX1_blow {l : Launch} {D : va_G} {A : Nat → Prop} {cI cS cF cZ cJ : ClassId} {ad : Nat → Nat} {X : va_W} {n : Nat} (hn : n ≤ 24) {o : Nat} {p1 : Int32} {p2 : Int32} (ho : kC n o = 1) (v : Mem) : CV l yX1_blow wsX1_blow rmX1_blow D A (ty5 cI cS cF cZ cJ) (Wc cI cS cF ad n X) [.ref (ad o), .int p1, .int p2] v (fX1_blow o p1 p2 v) :=
  CV_of (cc := cX1_blow) (maxL := 3) (ret := none) (by decide) rfl (Nat.le_of_ble_eq_true rfl) (fun p e s m below meth c G => kX1_blow_0 G hn ho v)
def rmX1_stand : Room := { frames := 1, cells := 0, slots := 0, locals := 22 }
def fX1_stand (o : Nat) (p1 : Int32) (v : Mem) : Option (Mem) := (fX0_send o 0 p1 v).bind fun v2 => some v2
set_option maxRecDepth 100000 in
set_option maxHeartbeats 4000000 in
theorem kX1_stand_0 {p : Program} {l : Launch} {e : Env} {s : State} {m : MethodId} {args : Array Value} {below : List Frame} {meth : Method} {c : Code} {D : va_G} {A : Nat → Prop} {cI cS cF cZ cJ : ClassId} {ad : Nat → Nat} {X : va_W} {n : Nat} {o : Nat} {p1 : Int32} (G : cx p s m args meth c cX1_stand 2 wsX1_stand RX1 D (ty5 cI cS cF cZ cJ) A none) (hn : n ≤ 24) (ho : kC n o = 1) (v : Mem) : sk p l e rmX1_stand s m args below meth c D A 2 0 0 (fun res => MQ below (qv D A (ty5 cI cS cF cZ cJ) (Wc cI cS cF ad n X) res) args s 0 0 A) (Wc cI cS cF ad n X v) 0 [(0, .ref (ad o)), (1, .int p1)] [] (fX1_stand o p1 v) := by
  obtain ⟨F, hK, hA, hZ, hr, hlocks⟩ := G
  refine sk_eq (K' := (fX0_send o 0 p1 v).bind fun v2 => some v2) rfl ?_
  refine sk_aload_n F dX1_stand_0 rfl 0 rfl ?_
  refine sk_iconst (x := 0) F dX1_stand_1 (by decide) ?_
  refine sk_iload_n F dX1_stand_2 rfl 1 rfl ?_
  refine sk_callUv (As := [.int 0, .int p1]) (rest := []) F hK hA hZ _ (tX0_send hn (Or.inr ho) _) (va_cwU 2 F.2.2.2.2 gX1_stand_X0_send_u9X1 rfl rfl rfl rfl (by decide +kernel) ⟨Nat.le_of_ble_eq_true rfl, Nat.le_of_ble_eq_true rfl⟩) (rc1 hK ho) rfl rfl (Nat.le_of_ble_eq_true rfl) (by decide) dX1_stand_3 (fun v2 c1 => ?_)
  exact sk_vret F hK hr hlocks dX1_stand_6
theorem tX1_stand {l : Launch} {D : va_G} {A : Nat → Prop} {cI cS cF cZ cJ : ClassId} {ad : Nat → Nat} {X : va_W} {n : Nat} (hn : n ≤ 24) {o : Nat} {p1 : Int32} (ho : kC n o = 1) (v : Mem) : CV l yX1_stand wsX1_stand rmX1_stand D A (ty5 cI cS cF cZ cJ) (Wc cI cS cF ad n X) [.ref (ad o), .int p1] v (fX1_stand o p1 v) :=
  CV_of (cc := cX1_stand) (maxL := 2) (ret := none) (by decide) rfl (Nat.le_of_ble_eq_true rfl) (fun p e s m below meth c G => kX1_stand_0 G hn ho v)
def rmX1_judgeOut : Room := { frames := 2, cells := 0, slots := 0, locals := 43 }
theorem iX1_judgeOut_1 : ∀ w ∈ wsX10, w ∈ wsX1_judgeOut := by decide +kernel
def fX1_judgeOut (o : Nat) (p1 : Int32) (v : Mem) : Option (Mem) := if (v o 1) = (v o 0) then some v else if (p1 - (v o 2)) < 10 then some v else (fX1_stand o p1 (up2 v o 5 1)).bind fun v4 => some v4
set_option maxRecDepth 100000 in
set_option maxHeartbeats 4000000 in
theorem kX1_judgeOut_0 {p : Program} {l : Launch} {e : Env} {s : State} {m : MethodId} {args : Array Value} {below : List Frame} {meth : Method} {c : Code} {D : va_G} {A : Nat → Prop} {cI cS cF cZ cJ : ClassId} {ad : Nat → Nat} {X : va_W} {n : Nat} {o : Nat} {p1 : Int32} (G : cx p s m args meth c cX1_judgeOut 2 wsX1_judgeOut RX1 D (ty5 cI cS cF cZ cJ) A none) (hn : n ≤ 24) (ho : kC n o = 1) (v : Mem) : sk p l e rmX1_judgeOut s m args below meth c D A 2 0 0 (fun res => MQ below (qv D A (ty5 cI cS cF cZ cJ) (Wc cI cS cF ad n X) res) args s 0 0 A) (Wc cI cS cF ad n X v) 0 [(0, .ref (ad o)), (1, .int p1)] [] (fX1_judgeOut o p1 v) := by
  obtain ⟨F, hK, hA, hZ, hr, hlocks⟩ := G
  refine sk_eq (K' := if (v o 1) = (v o 0) then some v else if (p1 - (v o 2)) < 10 then some v else (fX1_stand o p1 (up2 v o 5 1)).bind fun v4 => some v4) rfl ?_
  refine sk_aload_n F dX1_judgeOut_0 rfl 0 rfl ?_
  refine sk_g1 (ref := "TunnelWatch$Fan") F hK ho iX1_judgeOut_1 1 (by decide) (by decide +kernel) (u_same (F.2.2.2.2 (.sameField "TunnelWatch$Fan" "TunnelWatch$Device" "actual" "I") (by decide +kernel))) rfl dX1_judgeOut_1 ?_
  refine sk_aload_n F dX1_judgeOut_4 rfl 0 rfl ?_
  refine sk_g1 (ref := "TunnelWatch$Fan") F hK ho iX1_judgeOut_1 0 (by decide) (by decide +kernel) (u_same (F.2.2.2.2 (.sameField "TunnelWatch$Fan" "TunnelWatch$Device" "command" "I") (by decide +kernel))) rfl dX1_judgeOut_5 ?_
  refine sk_icmp_eq F 32 dX1_judgeOut_8 (by decide) (fun h1 => ?_) (fun h1 => ?_)
  · exact sk_vret F hK hr hlocks dX1_judgeOut_32
  · refine sk_iload_n F dX1_judgeOut_11 rfl 1 rfl ?_
    refine sk_aload_n F dX1_judgeOut_12 rfl 0 rfl ?_
    refine sk_g1 (ref := "TunnelWatch$Fan") F hK ho iX1_judgeOut_1 2 (by decide) (by decide +kernel) (u_same (F.2.2.2.2 (.sameField "TunnelWatch$Fan" "TunnelWatch$Device" "sentTick" "I") (by decide +kernel))) rfl dX1_judgeOut_13 ?_
    refine sk_isub F dX1_judgeOut_16 ?_
    refine sk_bipush (x := 10) F dX1_judgeOut_17 (by decide) ?_
    refine sk_icmp_lt F 32 dX1_judgeOut_19 (by decide) (fun h2 => ?_) (fun h2 => ?_)
    · exact sk_vret F hK hr hlocks dX1_judgeOut_32
    · refine sk_aload_n F dX1_judgeOut_22 rfl 0 rfl ?_
      refine sk_iconst (x := 1) F dX1_judgeOut_23 (by decide) ?_
      refine sk_p1 (ref := "TunnelWatch$Fan") (ty := .boolean) F hK ho iX1_judgeOut_1 5 (by decide) (by decide +kernel) (u_same (F.2.2.2.2 (.sameField "TunnelWatch$Fan" "TunnelWatch$Device" "out" "Z") (by decide +kernel))) rfl (by decide +kernel) rfl rfl rfl dX1_judgeOut_24 ?_
      refine sk_aload_n F dX1_judgeOut_27 rfl 0 rfl ?_
      refine sk_iload_n F dX1_judgeOut_28 rfl 1 rfl ?_
      refine sk_callVv (As := [.int p1]) (rest := []) F hK hA hZ _ (tX1_stand hn ho _) (cwV 1 F.2.2.2.2 gX1_judgeOut_X1_stand rfl rfl rfl (by decide +kernel) ⟨Nat.le_of_ble_eq_true rfl, Nat.le_of_ble_eq_true rfl⟩) (rc1 hK ho) rfl rfl (Nat.le_of_ble_eq_true rfl) (by decide) dX1_judgeOut_29 (fun v4 c3 => ?_)
      exact sk_vret F hK hr hlocks dX1_judgeOut_32
theorem tX1_judgeOut {l : Launch} {D : va_G} {A : Nat → Prop} {cI cS cF cZ cJ : ClassId} {ad : Nat → Nat} {X : va_W} {n : Nat} (hn : n ≤ 24) {o : Nat} {p1 : Int32} (ho : kC n o = 1) (v : Mem) : CV l yX1_judgeOut wsX1_judgeOut rmX1_judgeOut D A (ty5 cI cS cF cZ cJ) (Wc cI cS cF ad n X) [.ref (ad o), .int p1] v (fX1_judgeOut o p1 v) :=
  CV_of (cc := cX1_judgeOut) (maxL := 2) (ret := none) (by decide) rfl (Nat.le_of_ble_eq_true rfl) (fun p e s m below meth c G => kX1_judgeOut_0 G hn ho v)
def rmX1_drawnKw : Room := { frames := 0, cells := 0, slots := 0, locals := 0 }
theorem iX1_drawnKw_1 : ∀ w ∈ wsX10, w ∈ wsX1_drawnKw := by decide +kernel
def fX1_drawnKw (o : Nat) (p1 : Int32) (v : Mem) : Option (Int32 × Mem) := if (v o 0) = 0 then some (0, v) else if 10 ≤ (p1 - (v o 2)) then some (v o 6, v) else some (3 * (v o 6), v)
set_option maxRecDepth 100000 in
set_option maxHeartbeats 4000000 in
theorem kX1_drawnKw_0 {p : Program} {l : Launch} {e : Env} {s : State} {m : MethodId} {args : Array Value} {below : List Frame} {meth : Method} {c : Code} {D : va_G} {A : Nat → Prop} {cI cS cF cZ cJ : ClassId} {ad : Nat → Nat} {X : va_W} {n : Nat} {o : Nat} {p1 : Int32} (G : cx p s m args meth c cX1_drawnKw 2 wsX1_drawnKw RX1 D (ty5 cI cS cF cZ cJ) A (some .int)) (hn : n ≤ 24) (ho : kC n o = 1) (v : Mem) : sk p l e rmX1_drawnKw s m args below meth c D A 2 0 0 (fun res => MQ below (qi D A (ty5 cI cS cF cZ cJ) (Wc cI cS cF ad n X) res) args s 0 0 A) (Wc cI cS cF ad n X v) 0 [(0, .ref (ad o)), (1, .int p1)] [] (fX1_drawnKw o p1 v) := by
  obtain ⟨F, hK, hA, hZ, hr, hlocks⟩ := G
  refine sk_eq (K' := if (v o 0) = 0 then some (0, v) else if 10 ≤ (p1 - (v o 2)) then some (v o 6, v) else some (3 * (v o 6), v)) rfl ?_
  refine sk_aload_n F dX1_drawnKw_0 rfl 0 rfl ?_
  refine sk_g1 (ref := "TunnelWatch$Fan") F hK ho iX1_drawnKw_1 0 (by decide) (by decide +kernel) (u_same (F.2.2.2.2 (.sameField "TunnelWatch$Fan" "TunnelWatch$Device" "command" "I") (by decide +kernel))) rfl dX1_drawnKw_1 ?_
  refine sk_if_ne F 9 dX1_drawnKw_4 (by decide) (fun h1 => ?_) (fun h1 => ?_)
  · refine sk_iload_n F dX1_drawnKw_9 rfl 1 rfl ?_
    refine sk_aload_n F dX1_drawnKw_10 rfl 0 rfl ?_
    refine sk_g1 (ref := "TunnelWatch$Fan") F hK ho iX1_drawnKw_1 2 (by decide) (by decide +kernel) (u_same (F.2.2.2.2 (.sameField "TunnelWatch$Fan" "TunnelWatch$Device" "sentTick" "I") (by decide +kernel))) rfl dX1_drawnKw_11 ?_
    refine sk_isub F dX1_drawnKw_14 ?_
    refine sk_bipush (x := 10) F dX1_drawnKw_15 (by decide) ?_
    refine sk_icmp_ge F 29 dX1_drawnKw_17 (by decide) (fun h2 => ?_) (fun h2 => ?_)
    · refine sk_aload_n F dX1_drawnKw_29 rfl 0 rfl ?_
      refine sk_g1 (ref := "TunnelWatch$Fan") F hK ho iX1_drawnKw_1 6 (by decide) (by decide +kernel) (fun _ h9 => h9) rfl dX1_drawnKw_30 ?_
      exact sk_iret F hK hr hlocks dX1_drawnKw_33
    · refine sk_iconst (x := 3) F dX1_drawnKw_20 (by decide) ?_
      refine sk_aload_n F dX1_drawnKw_21 rfl 0 rfl ?_
      refine sk_g1 (ref := "TunnelWatch$Fan") F hK ho iX1_drawnKw_1 6 (by decide) (by decide +kernel) (fun _ h9 => h9) rfl dX1_drawnKw_22 ?_
      refine sk_imul F dX1_drawnKw_25 ?_
      refine sk_goto F 33 dX1_drawnKw_26 (by decide) ?_
      exact sk_iret F hK hr hlocks dX1_drawnKw_33
  · refine sk_iconst (x := 0) F dX1_drawnKw_7 (by decide) ?_
    exact sk_iret F hK hr hlocks dX1_drawnKw_8
theorem tX1_drawnKw {l : Launch} {D : va_G} {A : Nat → Prop} {cI cS cF cZ cJ : ClassId} {ad : Nat → Nat} {X : va_W} {n : Nat} (hn : n ≤ 24) {o : Nat} {p1 : Int32} (ho : kC n o = 1) (v : Mem) : CI l yX1_drawnKw wsX1_drawnKw rmX1_drawnKw D A (ty5 cI cS cF cZ cJ) (Wc cI cS cF ad n X) [.ref (ad o), .int p1] v (fX1_drawnKw o p1 v) :=
  CI_of (cc := cX1_drawnKw) (maxL := 2) (ret := (some .int)) (by decide) rfl (Nat.le_of_ble_eq_true rfl) (fun p e s m below meth c G => kX1_drawnKw_0 G hn ho v)
def rmX1_restLeft : Room := { frames := 0, cells := 0, slots := 0, locals := 0 }
theorem iX1_restLeft_1 : ∀ w ∈ wsX10, w ∈ wsX1_restLeft := by decide +kernel
def fX1_restLeft (o : Nat) (p1 : Int32) (p2 : Int32) (v : Mem) : Option (Int32 × Mem) := if (v o 8) = 0 then some (0, v) else if (v o 0) = 0 then if (p1 - (p2 - (v o 2))) ≤ 0 then some (0, v) else some (p1 - (p2 - (v o 2)), v) else some (p1, v)
set_option maxRecDepth 100000 in
set_option maxHeartbeats 4000000 in
theorem kX1_restLeft_0 {p : Program} {l : Launch} {e : Env} {s : State} {m : MethodId} {args : Array Value} {below : List Frame} {meth : Method} {c : Code} {D : va_G} {A : Nat → Prop} {cI cS cF cZ cJ : ClassId} {ad : Nat → Nat} {X : va_W} {n : Nat} {o : Nat} {p1 : Int32} {p2 : Int32} (G : cx p s m args meth c cX1_restLeft 4 wsX1_restLeft RX1 D (ty5 cI cS cF cZ cJ) A (some .int)) (hn : n ≤ 24) (ho : kC n o = 1) (v : Mem) : sk p l e rmX1_restLeft s m args below meth c D A 4 0 0 (fun res => MQ below (qi D A (ty5 cI cS cF cZ cJ) (Wc cI cS cF ad n X) res) args s 0 0 A) (Wc cI cS cF ad n X v) 0 [(0, .ref (ad o)), (1, .int p1), (2, .int p2)] [] (fX1_restLeft o p1 p2 v) := by
  obtain ⟨F, hK, hA, hZ, hr, hlocks⟩ := G
  refine sk_eq (K' := if (v o 8) = 0 then some (0, v) else if (v o 0) = 0 then if (p1 - (p2 - (v o 2))) ≤ 0 then some (0, v) else some (p1 - (p2 - (v o 2)), v) else some (p1, v)) rfl ?_
  refine sk_aload_n F dX1_restLeft_0 rfl 0 rfl ?_
  refine sk_g1 (ref := "TunnelWatch$Fan") F hK ho iX1_restLeft_1 8 (by decide) (by decide +kernel) (fun _ h9 => h9) rfl dX1_restLeft_1 ?_
  refine sk_if_ne F 9 dX1_restLeft_4 (by decide) (fun h1 => ?_) (fun h1 => ?_)
  · refine sk_aload_n F dX1_restLeft_9 rfl 0 rfl ?_
    refine sk_g1 (ref := "TunnelWatch$Fan") F hK ho iX1_restLeft_1 0 (by decide) (by decide +kernel) (u_same (F.2.2.2.2 (.sameField "TunnelWatch$Fan" "TunnelWatch$Device" "command" "I") (by decide +kernel))) rfl dX1_restLeft_10 ?_
    refine sk_if_eq F 18 dX1_restLeft_13 (by decide) (fun h2 => ?_) (fun h2 => ?_)
    · refine sk_iload_n F dX1_restLeft_18 rfl 1 rfl ?_
      refine sk_iload_n F dX1_restLeft_19 rfl 2 rfl ?_
      refine sk_aload_n F dX1_restLeft_20 rfl 0 rfl ?_
      refine sk_g1 (ref := "TunnelWatch$Fan") F hK ho iX1_restLeft_1 2 (by decide) (by decide +kernel) (u_same (F.2.2.2.2 (.sameField "TunnelWatch$Fan" "TunnelWatch$Device" "sentTick" "I") (by decide +kernel))) rfl dX1_restLeft_21 ?_
      refine sk_isub F dX1_restLeft_24 ?_
      refine sk_isub F dX1_restLeft_25 ?_
      refine sk_istore_n F dX1_restLeft_26 rfl (by decide) rfl ?_
      refine sk_iload_n F dX1_restLeft_27 rfl 0 rfl ?_
      refine sk_if_le F 35 dX1_restLeft_28 (by decide) (fun h3 => ?_) (fun h3 => ?_)
      · refine sk_iconst (x := 0) F dX1_restLeft_35 (by decide) ?_
        exact sk_iret F hK hr hlocks dX1_restLeft_36
      · refine sk_iload_n F dX1_restLeft_31 rfl 0 rfl ?_
        refine sk_goto F 36 dX1_restLeft_32 (by decide) ?_
        exact sk_iret F hK hr hlocks dX1_restLeft_36
    · refine sk_iload_n F dX1_restLeft_16 rfl 1 rfl ?_
      exact sk_iret F hK hr hlocks dX1_restLeft_17
  · refine sk_iconst (x := 0) F dX1_restLeft_7 (by decide) ?_
    exact sk_iret F hK hr hlocks dX1_restLeft_8
theorem tX1_restLeft {l : Launch} {D : va_G} {A : Nat → Prop} {cI cS cF cZ cJ : ClassId} {ad : Nat → Nat} {X : va_W} {n : Nat} (hn : n ≤ 24) {o : Nat} {p1 : Int32} {p2 : Int32} (ho : kC n o = 1) (v : Mem) : CI l yX1_restLeft wsX1_restLeft rmX1_restLeft D A (ty5 cI cS cF cZ cJ) (Wc cI cS cF ad n X) [.ref (ad o), .int p1, .int p2] v (fX1_restLeft o p1 p2 v) :=
  CI_of (cc := cX1_restLeft) (maxL := 4) (ret := (some .int)) (by decide) rfl (Nat.le_of_ble_eq_true rfl) (fun p e s m below meth c G => kX1_restLeft_0 G hn ho v)
def rmX1_hasRested : Room := { frames := 1, cells := 0, slots := 0, locals := 23 }
theorem iX1_hasRested_1 : ∀ w ∈ wsX10, w ∈ wsX1_hasRested := by decide +kernel
def fX1_hasRested (o : Nat) (p1 : Int32) (p2 : Int32) (p3 : Int32) (v : Mem) : Option (Int32 × Mem) := if (v o 8) = p1 then some (1, v) else bd (fX1_restLeft o p2 p3 v) fun x4 v3 => if x4 = 0 then some (1, v3) else some (0, v3)
set_option maxRecDepth 100000 in
set_option maxHeartbeats 4000000 in
theorem kX1_hasRested_0 {p : Program} {l : Launch} {e : Env} {s : State} {m : MethodId} {args : Array Value} {below : List Frame} {meth : Method} {c : Code} {D : va_G} {A : Nat → Prop} {cI cS cF cZ cJ : ClassId} {ad : Nat → Nat} {X : va_W} {n : Nat} {o : Nat} {p1 : Int32} {p2 : Int32} {p3 : Int32} (G : cx p s m args meth c cX1_hasRested 4 wsX1_hasRested RX1 D (ty5 cI cS cF cZ cJ) A (some .boolean)) (hn : n ≤ 24) (ho : kC n o = 1) (v : Mem) : sk p l e rmX1_hasRested s m args below meth c D A 4 0 0 (fun res => MQ below (qi D A (ty5 cI cS cF cZ cJ) (Wc cI cS cF ad n X) res) args s 0 0 A) (Wc cI cS cF ad n X v) 0 [(0, .ref (ad o)), (1, .int p1), (2, .int p2), (3, .int p3)] [] (fX1_hasRested o p1 p2 p3 v) := by
  obtain ⟨F, hK, hA, hZ, hr, hlocks⟩ := G
  refine sk_eq (K' := if (v o 8) = p1 then some (1, v) else bd (fX1_restLeft o p2 p3 v) fun x4 v3 => if x4 = 0 then some (1, v3) else some (0, v3)) rfl ?_
  refine sk_aload_n F dX1_hasRested_0 rfl 0 rfl ?_
  refine sk_g1 (ref := "TunnelWatch$Fan") F hK ho iX1_hasRested_1 8 (by decide) (by decide +kernel) (fun _ h9 => h9) rfl dX1_hasRested_1 ?_
  refine sk_iload_n F dX1_hasRested_4 rfl 1 rfl ?_
  refine sk_icmp_eq F 17 dX1_hasRested_5 (by decide) (fun h1 => ?_) (fun h1 => ?_)
  · refine sk_iconst (x := 1) F dX1_hasRested_17 (by decide) ?_
    refine sk_goto F 22 dX1_hasRested_18 (by decide) ?_
    exact sk_zretc F hK hr hlocks (by decide) dX1_hasRested_22
  · refine sk_aload_n F dX1_hasRested_8 rfl 0 rfl ?_
    refine sk_iload_n F dX1_hasRested_9 rfl 2 rfl ?_
    refine sk_iload_n F dX1_hasRested_10 rfl 3 rfl ?_
    refine sk_callVi (As := [.int p2, .int p3]) (rest := []) F hK hA hZ _ (tX1_restLeft hn ho _) (cwV 2 F.2.2.2.2 gX1_hasRested_X1_restLeft rfl rfl rfl (by decide +kernel) ⟨Nat.le_of_ble_eq_true rfl, Nat.le_of_ble_eq_true rfl⟩) (rc1 hK ho) rfl rfl (Nat.le_of_ble_eq_true rfl) (by decide) dX1_hasRested_11 (fun x4 v3 c2 => ?_)
    refine sk_if_ne F 21 dX1_hasRested_14 (by decide) (fun h5 => ?_) (fun h5 => ?_)
    · refine sk_iconst (x := 0) F dX1_hasRested_21 (by decide) ?_
      exact sk_zretc F hK hr hlocks (by decide) dX1_hasRested_22
    · refine sk_iconst (x := 1) F dX1_hasRested_17 (by decide) ?_
      refine sk_goto F 22 dX1_hasRested_18 (by decide) ?_
      exact sk_zretc F hK hr hlocks (by decide) dX1_hasRested_22
theorem tX1_hasRested {l : Launch} {D : va_G} {A : Nat → Prop} {cI cS cF cZ cJ : ClassId} {ad : Nat → Nat} {X : va_W} {n : Nat} (hn : n ≤ 24) {o : Nat} {p1 : Int32} {p2 : Int32} {p3 : Int32} (ho : kC n o = 1) (v : Mem) : CI l yX1_hasRested wsX1_hasRested rmX1_hasRested D A (ty5 cI cS cF cZ cJ) (Wc cI cS cF ad n X) [.ref (ad o), .int p1, .int p2, .int p3] v (fX1_hasRested o p1 p2 p3 v) :=
  CI_of (cc := cX1_hasRested) (maxL := 4) (ret := (some .boolean)) (by decide) rfl (Nat.le_of_ble_eq_true rfl) (fun p e s m below meth c G => kX1_hasRested_0 G hn ho v)
