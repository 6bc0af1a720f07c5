def rmX3_settleDevices : Room := { frames := 3, cells := 0, slots := 0, locals := 64 }
theorem iX3_settleDevices_3 : ∀ w ∈ wsX30, w ∈ wsX3_settleDevices := by decide +kernel
def fX3_settleDevices_18 (o : Nat) (p1 : Int32) : Nat → Mem → Int32 → Option (Mem)
  | 0, _, _ => none
  | fuel + 1, v, l2 => if (v o 4) ≤ l2 then some v else gd (inb l2 12) ((fX0_act (o + 5 + l2.toNatClampNeg) p1 v).bind fun v10 => gd (inb l2 12) ((fX1_judgeOut (o + 5 + l2.toNatClampNeg) p1 v10).bind fun v14 => fX3_settleDevices_18 o p1 fuel v14 (l2 + 1)))
set_option maxRecDepth 100000 in
set_option maxHeartbeats 4000000 in
theorem kX3_settleDevices_18 {p : Program} {l : Launch} {e : Env} {s : State} {m : MethodId} {args : Array Value} {below : List Frame} {meth : Method} {c : Code} {D : va_G} {A : Nat → Prop} {cI cS cF cZ cJ : ClassId} {ad : Nat → Nat} {X : va_W} {n : Nat} {o : Nat} {p1 : Int32} (G : cx p s m args meth c cX3_settleDevices 3 wsX3_settleDevices RX3 D (ty5 cI cS cF cZ cJ) A none) (hn : n ≤ 24) (ho : kC n o = 3) : ∀ (fuel : Nat) (v : Mem) (l2 : Int32), sk p l e rmX3_settleDevices s m args below meth c D A 3 0 0 (fun res => MQ below (qv D A (ty5 cI cS cF cZ cJ) (Wc cI cS cF ad n X) res) args s 0 0 A) (Wc cI cS cF ad n X v) 18 [(0, .ref (ad o)), (1, .int p1), (2, .int l2)] [] (fX3_settleDevices_18 o p1 fuel v l2) := by
  obtain ⟨F, hK, hA, hZ, hr, hlocks⟩ := G
  intro fuel
  induction fuel with
  | zero => intro v l2; exact sk_none
  | succ fuel ih =>
    intro v l2
    refine sk_eq (K' := if (v o 4) ≤ l2 then some v else gd (inb l2 12) ((fX0_act (o + 5 + l2.toNatClampNeg) p1 v).bind fun v10 => gd (inb l2 12) ((fX1_judgeOut (o + 5 + l2.toNatClampNeg) p1 v10).bind fun v14 => fX3_settleDevices_18 o p1 fuel v14 (l2 + 1)))) rfl ?_
    refine sk_iload_n F dX3_settleDevices_18 rfl 2 rfl ?_
    refine sk_aload_n F dX3_settleDevices_19 rfl 0 rfl ?_
    refine sk_g3 (ref := "TunnelWatch$Tube") F hK ho iX3_settleDevices_3 4 (by decide) (by decide +kernel) (fun _ h9 => h9) rfl dX3_settleDevices_20 ?_
    refine sk_icmp_ge F 52 dX3_settleDevices_23 (by decide) (fun h7 => ?_) (fun h7 => ?_)
    · exact sk_vret F hK hr hlocks dX3_settleDevices_52
    · refine sk_aload_n F dX3_settleDevices_26 rfl 0 rfl ?_
      refine sk_g3 (ref := "TunnelWatch$Tube") F hK ho iX3_settleDevices_3 3 (by decide) (by decide +kernel) (fun _ h9 => h9) rfl dX3_settleDevices_27 ?_
      refine sk_iload_n F dX3_settleDevices_30 rfl 2 rfl ?_
      refine sk_aldF F hK ho dX3_settleDevices_31 (fun h8 => ?_)
      refine sk_iload_n F dX3_settleDevices_32 rfl 1 rfl ?_
      refine sk_callUv (As := [.int p1]) (rest := []) F hK hA hZ _ (tX0_act hn (Or.inr (kC_f ho (inb_lt h8))) _) (va_cwU 1 F.2.2.2.2 gX3_settleDevices_X0_act_u98X1 rfl rfl rfl rfl (by decide +kernel) ⟨Nat.le_of_ble_eq_true rfl, Nat.le_of_ble_eq_true rfl⟩) (rc1 hK (kC_f ho (inb_lt h8))) rfl rfl (Nat.le_of_ble_eq_true rfl) (by decide) dX3_settleDevices_33 (fun v10 c9 => ?_)
      refine sk_aload_n F dX3_settleDevices_36 rfl 0 rfl ?_
      refine sk_g3 (ref := "TunnelWatch$Tube") F hK ho iX3_settleDevices_3 3 (by decide) (by decide +kernel) (fun _ h9 => h9) rfl dX3_settleDevices_37 ?_
      refine sk_iload_n F dX3_settleDevices_40 rfl 2 rfl ?_
      refine sk_aldF F hK ho dX3_settleDevices_41 (fun h12 => ?_)
      refine sk_iload_n F dX3_settleDevices_42 rfl 1 rfl ?_
      refine sk_callVv (As := [.int p1]) (rest := []) F hK hA hZ _ (tX1_judgeOut hn (kC_f ho (inb_lt h12)) _) (cwV 1 F.2.2.2.2 gX3_settleDevices_X1_judgeOut rfl rfl rfl (by decide +kernel) ⟨Nat.le_of_ble_eq_true rfl, Nat.le_of_ble_eq_true rfl⟩) (rc1 hK (kC_f ho (inb_lt h12))) rfl rfl (Nat.le_of_ble_eq_true rfl) (by decide) dX3_settleDevices_43 (fun v14 c13 => ?_)
      refine sk_iinc (y := l2 + 1) F dX3_settleDevices_46 2 rfl rfl (by decide) rfl ?_
      refine sk_goto F 18 dX3_settleDevices_49 (by decide) ?_
      exact sk_lv [1, 2, 0] rfl (ih v14 (l2 + 1))
def fX3_settleDevices (o : Nat) (p1 : Int32) (v : Mem) : Option (Mem) := (fX0_act (o + 3) p1 v).bind fun v2 => (fX0_act (o + 4) p1 v2).bind fun v5 => fX3_settleDevices_18 o p1 1000 v5 0
set_option maxRecDepth 100000 in
set_option maxHeartbeats 4000000 in
theorem kX3_settleDevices_0 {p : Program} {l : Launch} {e : Env} {s : State} {m : MethodId} {args : Array Value} {below : List Frame} {meth : Method} {c : Code} {D : va_G} {A : Nat → Prop} {cI cS cF cZ cJ : ClassId} {ad : Nat → Nat} {X : va_W} {n : Nat} {o : Nat} {p1 : Int32} (G : cx p s m args meth c cX3_settleDevices 3 wsX3_settleDevices RX3 D (ty5 cI cS cF cZ cJ) A none) (hn : n ≤ 24) (ho : kC n o = 3) (v : Mem) : sk p l e rmX3_settleDevices s m args below meth c D A 3 0 0 (fun res => MQ below (qv D A (ty5 cI cS cF cZ cJ) (Wc cI cS cF ad n X) res) args s 0 0 A) (Wc cI cS cF ad n X v) 0 [(0, .ref (ad o)), (1, .int p1)] [] (fX3_settleDevices o p1 v) := by
  obtain ⟨F, hK, hA, hZ, hr, hlocks⟩ := G
  refine sk_eq (K' := (fX0_act (o + 3) p1 v).bind fun v2 => (fX0_act (o + 4) p1 v2).bind fun v5 => fX3_settleDevices_18 o p1 1000 v5 0) rfl ?_
  refine sk_aload_n F dX3_settleDevices_0 rfl 0 rfl ?_
  refine sk_g3 (ref := "TunnelWatch$Tube") F hK ho iX3_settleDevices_3 1 (by decide) (by decide +kernel) (fun _ h9 => h9) rfl dX3_settleDevices_1 ?_
  refine sk_iload_n F dX3_settleDevices_4 rfl 1 rfl ?_
  refine sk_callVv (As := [.int p1]) (rest := []) F hK hA hZ _ (tX0_act hn (Or.inl (kC_sig ho)) _) (cwV 1 F.2.2.2.2 gX3_settleDevices_X0_act rfl rfl rfl (by decide +kernel) ⟨Nat.le_of_ble_eq_true rfl, Nat.le_of_ble_eq_true rfl⟩) (rc0 hK (kC_sig ho)) rfl rfl (Nat.le_of_ble_eq_true rfl) (by decide) dX3_settleDevices_5 (fun v2 c1 => ?_)
  refine sk_aload_n F dX3_settleDevices_8 rfl 0 rfl ?_
  refine sk_g3 (ref := "TunnelWatch$Tube") F hK ho iX3_settleDevices_3 2 (by decide) (by decide +kernel) (fun _ h9 => h9) rfl dX3_settleDevices_9 ?_
  refine sk_iload_n F dX3_settleDevices_12 rfl 1 rfl ?_
  refine sk_callVv (As := [.int p1]) (rest := []) F hK hA hZ _ (tX0_act hn (Or.inl (kC_bar ho)) _) (cwV 1 F.2.2.2.2 gX3_settleDevices_X0_act rfl rfl rfl (by decide +kernel) ⟨Nat.le_of_ble_eq_true rfl, Nat.le_of_ble_eq_true rfl⟩) (rc0 hK (kC_bar ho)) rfl rfl (Nat.le_of_ble_eq_true rfl) (by decide) dX3_settleDevices_13 (fun v5 c4 => ?_)
  refine sk_iconst (x := 0) F dX3_settleDevices_16 (by decide) ?_
  refine sk_istore_n F dX3_settleDevices_17 rfl (by decide) rfl ?_
  exact sk_lv [1, 2, 0] rfl (kX3_settleDevices_18 ⟨F, hK, hA, hZ, hr, hlocks⟩ hn ho 1000 v5 0)
theorem tX3_settleDevices {l : Launch} {D : va_G} {A : Nat → Prop} {cI cS cF cZ cJ : ClassId} {ad : Nat → Nat} {X : va_W} {n : Nat} (hn : n ≤ 24) {o : Nat} {p1 : Int32} (ho : kC n o = 3) (v : Mem) : CV l yX3_settleDevices wsX3_settleDevices rmX3_settleDevices D A (ty5 cI cS cF cZ cJ) (Wc cI cS cF ad n X) [.ref (ad o), .int p1] v (fX3_settleDevices o p1 v) :=
  CV_of (cc := cX3_settleDevices) (maxL := 3) (ret := none) (by decide) rfl (Nat.le_of_ble_eq_true rfl) (fun p e s m below meth c G => kX3_settleDevices_0 G hn ho v)
def rmX3_isHalted : Room := { frames := 0, cells := 0, slots := 0, locals := 0 }
theorem iX3_isHalted_0 : ∀ w ∈ wsX00, w ∈ wsX3_isHalted := by decide +kernel
theorem iX3_isHalted_3 : ∀ w ∈ wsX30, w ∈ wsX3_isHalted := by decide +kernel
def fX3_isHalted_40 (o : Nat) (p1 : Int32) (v : Mem) : Option (Int32 × Mem) := some (0, v)
set_option maxRecDepth 100000 in
set_option maxHeartbeats 4000000 in
theorem kX3_isHalted_40 {p : Program} {l : Launch} {e : Env} {s : State} {m : MethodId} {args : Array Value} {below : List Frame} {meth : Method} {c : Code} {D : va_G} {A : Nat → Prop} {cI cS cF cZ cJ : ClassId} {ad : Nat → Nat} {X : va_W} {n : Nat} {o : Nat} {p1 : Int32} (G : cx p s m args meth c cX3_isHalted 2 wsX3_isHalted RX3 D (ty5 cI cS cF cZ cJ) A (some .boolean)) (hn : n ≤ 24) (ho : kC n o = 3) (v : Mem) : sk p l e rmX3_isHalted s m args below meth c D A 2 0 0 (fun res => MQ below (qi D A (ty5 cI cS cF cZ cJ) (Wc cI cS cF ad n X) res) args s 0 0 A) (Wc cI cS cF ad n X v) 40 [] [] (fX3_isHalted_40 o p1 v) := by
  obtain ⟨F, hK, hA, hZ, hr, hlocks⟩ := G
  refine sk_eq (K' := some (0, v)) rfl ?_
  refine sk_iconst (x := 0) F dX3_isHalted_40 (by decide) ?_
  exact sk_zretc F hK hr hlocks (by decide) dX3_isHalted_41
def fX3_isHalted (o : Nat) (p1 : Int32) (v : Mem) : Option (Int32 × Mem) := if (v (o + 3) 0) = 1 then if (v (o + 3) 1) = 1 then some (1, v) else if (p1 - (v (o + 3) 2)) < 60 then fX3_isHalted_40 o p1 v else some (1, v) else fX3_isHalted_40 o p1 v
set_option maxRecDepth 100000 in
set_option maxHeartbeats 4000000 in
theorem kX3_isHalted_0 {p : Program} {l : Launch} {e : Env} {s : State} {m : MethodId} {args : Array Value} {below : List Frame} {meth : Method} {c : Code} {D : va_G} {A : Nat → Prop} {cI cS cF cZ cJ : ClassId} {ad : Nat → Nat} {X : va_W} {n : Nat} {o : Nat} {p1 : Int32} (G : cx p s m args meth c cX3_isHalted 2 wsX3_isHalted RX3 D (ty5 cI cS cF cZ cJ) A (some .boolean)) (hn : n ≤ 24) (ho : kC n o = 3) (v : Mem) : sk p l e rmX3_isHalted s m args below meth c D A 2 0 0 (fun res => MQ below (qi D A (ty5 cI cS cF cZ cJ) (Wc cI cS cF ad n X) res) args s 0 0 A) (Wc cI cS cF ad n X v) 0 [(0, .ref (ad o)), (1, .int p1)] [] (fX3_isHalted o p1 v) := by
  obtain ⟨F, hK, hA, hZ, hr, hlocks⟩ := G
  refine sk_eq (K' := if (v (o + 3) 0) = 1 then if (v (o + 3) 1) = 1 then some (1, v) else if (p1 - (v (o + 3) 2)) < 60 then fX3_isHalted_40 o p1 v else some (1, v) else fX3_isHalted_40 o p1 v) rfl ?_
  refine sk_aload_n F dX3_isHalted_0 rfl 0 rfl ?_
  refine sk_g3 (ref := "TunnelWatch$Tube") F hK ho iX3_isHalted_3 1 (by decide) (by decide +kernel) (fun _ h9 => h9) rfl dX3_isHalted_1 ?_
  refine sk_g0 (ref := "TunnelWatch$Device") F hK (kC_sig ho) iX3_isHalted_0 0 (by decide) (by decide +kernel) (fun _ h9 => h9) rfl dX3_isHalted_4 ?_
  refine sk_iconst (x := 1) F dX3_isHalted_7 (by decide) ?_
  refine sk_icmp_ne F 40 dX3_isHalted_8 (by decide) (fun h1 => ?_) (fun h1 => ?_)
  · exact sk_lv [] rfl (kX3_isHalted_40 ⟨F, hK, hA, hZ, hr, hlocks⟩ hn ho v)
  · refine sk_aload_n F dX3_isHalted_11 rfl 0 rfl ?_
    refine sk_g3 (ref := "TunnelWatch$Tube") F hK ho iX3_isHalted_3 1 (by decide) (by decide +kernel) (fun _ h9 => h9) rfl dX3_isHalted_12 ?_
    refine sk_g0 (ref := "TunnelWatch$Device") F hK (kC_sig ho) iX3_isHalted_0 1 (by decide) (by decide +kernel) (fun _ h9 => h9) rfl dX3_isHalted_15 ?_
    refine sk_iconst (x := 1) F dX3_isHalted_18 (by decide) ?_
    refine sk_icmp_eq F 36 dX3_isHalted_19 (by decide) (fun h2 => ?_) (fun h2 => ?_)
    · refine sk_iconst (x := 1) F dX3_isHalted_36 (by decide) ?_
      refine sk_goto F 41 dX3_isHalted_37 (by decide) ?_
      exact sk_zretc F hK hr hlocks (by decide) dX3_isHalted_41
    · refine sk_iload_n F dX3_isHalted_22 rfl 1 rfl ?_
      refine sk_aload_n F dX3_isHalted_23 rfl 0 rfl ?_
      refine sk_g3 (ref := "TunnelWatch$Tube") F hK ho iX3_isHalted_3 1 (by decide) (by decide +kernel) (fun _ h9 => h9) rfl dX3_isHalted_24 ?_
      refine sk_g0 (ref := "TunnelWatch$Device") F hK (kC_sig ho) iX3_isHalted_0 2 (by decide) (by decide +kernel) (fun _ h9 => h9) rfl dX3_isHalted_27 ?_
      refine sk_isub F dX3_isHalted_30 ?_
      refine sk_bipush (x := 60) F dX3_isHalted_31 (by decide) ?_
      refine sk_icmp_lt F 40 dX3_isHalted_33 (by decide) (fun h3 => ?_) (fun h3 => ?_)
      · exact sk_lv [] rfl (kX3_isHalted_40 ⟨F, hK, hA, hZ, hr, hlocks⟩ hn ho v)
      · refine sk_iconst (x := 1) F dX3_isHalted_36 (by decide) ?_
        refine sk_goto F 41 dX3_isHalted_37 (by decide) ?_
        exact sk_zretc F hK hr hlocks (by decide) dX3_isHalted_41
theorem tX3_isHalted {l : Launch} {D : va_G} {A : Nat → Prop} {cI cS cF cZ cJ : ClassId} {ad : Nat → Nat} {X : va_W} {n : Nat} (hn : n ≤ 24) {o : Nat} {p1 : Int32} (ho : kC n o = 3) (v : Mem) : CI l yX3_isHalted wsX3_isHalted rmX3_isHalted D A (ty5 cI cS cF cZ cJ) (Wc cI cS cF ad n X) [.ref (ad o), .int p1] v (fX3_isHalted o p1 v) :=
  CI_of (cc := cX3_isHalted) (maxL := 2) (ret := (some .boolean)) (by decide) rfl (Nat.le_of_ble_eq_true rfl) (fun p e s m below meth c G => kX3_isHalted_0 G hn ho v)
def rmX3_commandTraffic : Room := { frames := 1, cells := 0, slots := 0, locals := 22 }
theorem iX3_commandTraffic_0 : ∀ w ∈ wsX00, w ∈ wsX3_commandTraffic := by decide +kernel
theorem iX3_commandTraffic_3 : ∀ w ∈ wsX30, w ∈ wsX3_commandTraffic := by decide +kernel
def fX3_commandTraffic_120 (o : Nat) (p1 : Int32) (p2 : Int32) (v : Mem) (s0 : Int32) (s1 : Nat) : Option (Mem) := (fX0_send s1 s0 p2 v).bind fun v19 => some v19
set_option maxRecDepth 100000 in
set_option maxHeartbeats 4000000 in
theorem kX3_commandTraffic_120 {p : Program} {l : Launch} {e : Env} {s : State} {m : MethodId} {args : Array Value} {below : List Frame} {meth : Method} {c : Code} {D : va_G} {A : Nat → Prop} {cI cS cF cZ cJ : ClassId} {ad : Nat → Nat} {X : va_W} {n : Nat} {o : Nat} {p1 : Int32} {p2 : Int32} (G : cx p s m args meth c cX3_commandTraffic 6 wsX3_commandTraffic RX3 D (ty5 cI cS cF cZ cJ) A none) (hn : n ≤ 24) (ho : kC n o = 3) (v : Mem) (s0 : Int32) (s1 : Nat) (hs1 : kC n s1 = 0) : sk p l e rmX3_commandTraffic s m args below meth c D A 6 0 0 (fun res => MQ below (qv D A (ty5 cI cS cF cZ cJ) (Wc cI cS cF ad n X) res) args s 0 0 A) (Wc cI cS cF ad n X v) 120 [(2, .int p2)] [.int s0, .ref (ad s1)] (fX3_commandTraffic_120 o p1 p2 v s0 s1) := by
  obtain ⟨F, hK, hA, hZ, hr, hlocks⟩ := G
  refine sk_eq (K' := (fX0_send s1 s0 p2 v).bind fun v19 => some v19) rfl ?_
  refine sk_iload_n F dX3_commandTraffic_120 rfl 0 rfl ?_
  refine sk_callVv (As := [.int s0, .int p2]) (rest := []) F hK hA hZ _ (tX0_send hn (Or.inl hs1) _) (cwV 2 F.2.2.2.2 gX3_commandTraffic_X0_send rfl rfl rfl (by decide +kernel) ⟨Nat.le_of_ble_eq_true rfl, Nat.le_of_ble_eq_true rfl⟩) (rc0 hK hs1) rfl rfl (Nat.le_of_ble_eq_true rfl) (by decide) dX3_commandTraffic_121 (fun v19 c18 => ?_)
  exact sk_vret F hK hr hlocks dX3_commandTraffic_124
def fX3_commandTraffic_104 (o : Nat) (p1 : Int32) (p2 : Int32) (v : Mem) (s0 : Int32) : Option (Mem) := if s0 = 0 then fX3_commandTraffic_120 o p1 p2 v 0 (o + 4) else fX3_commandTraffic_120 o p1 p2 v 1 (o + 4)
set_option maxRecDepth 100000 in
set_option maxHeartbeats 4000000 in
theorem kX3_commandTraffic_104 {p : Program} {l : Launch} {e : Env} {s : State} {m : MethodId} {args : Array Value} {below : List Frame} {meth : Method} {c : Code} {D : va_G} {A : Nat → Prop} {cI cS cF cZ cJ : ClassId} {ad : Nat → Nat} {X : va_W} {n : Nat} {o : Nat} {p1 : Int32} {p2 : Int32} (G : cx p s m args meth c cX3_commandTraffic 6 wsX3_commandTraffic RX3 D (ty5 cI cS cF cZ cJ) A none) (hn : n ≤ 24) (ho : kC n o = 3) (v : Mem) (s0 : Int32) : sk p l e rmX3_commandTraffic s m args below meth c D A 6 0 0 (fun res => MQ below (qv D A (ty5 cI cS cF cZ cJ) (Wc cI cS cF ad n X) res) args s 0 0 A) (Wc cI cS cF ad n X v) 104 [(0, .ref (ad o)), (2, .int p2)] [.int s0] (fX3_commandTraffic_104 o p1 p2 v s0) := by
  obtain ⟨F, hK, hA, hZ, hr, hlocks⟩ := G
  refine sk_eq (K' := if s0 = 0 then fX3_commandTraffic_120 o p1 p2 v 0 (o + 4) else fX3_commandTraffic_120 o p1 p2 v 1 (o + 4)) rfl ?_
  refine sk_istore F dX3_commandTraffic_104 (by decide) rfl ?_
  refine sk_aload_n F dX3_commandTraffic_106 rfl 1 rfl ?_
  refine sk_g3 (ref := "TunnelWatch$Tube") F hK ho iX3_commandTraffic_3 2 (by decide) (by decide +kernel) (fun _ h9 => h9) rfl dX3_commandTraffic_107 ?_
  refine sk_iload F dX3_commandTraffic_110 0 rfl ?_
  refine sk_if_eq F 119 dX3_commandTraffic_112 (by decide) (fun h17 => ?_) (fun h17 => ?_)
  · refine sk_iconst (x := 0) F dX3_commandTraffic_119 (by decide) ?_
    exact sk_lv [2] rfl (kX3_commandTraffic_120 ⟨F, hK, hA, hZ, hr, hlocks⟩ hn ho v 0 (o + 4) (kC_bar ho))
  · refine sk_iconst (x := 1) F dX3_commandTraffic_115 (by decide) ?_
    refine sk_goto F 120 dX3_commandTraffic_116 (by decide) ?_
    exact sk_lv [2] rfl (kX3_commandTraffic_120 ⟨F, hK, hA, hZ, hr, hlocks⟩ hn ho v 1 (o + 4) (kC_bar ho))
def fX3_commandTraffic_103 (o : Nat) (p1 : Int32) (p2 : Int32) (v : Mem) : Option (Mem) := fX3_commandTraffic_104 o p1 p2 v 0
set_option maxRecDepth 100000 in
set_option maxHeartbeats 4000000 in
theorem kX3_commandTraffic_103 {p : Program} {l : Launch} {e : Env} {s : State} {m : MethodId} {args : Array Value} {below : List Frame} {meth : Method} {c : Code} {D : va_G} {A : Nat → Prop} {cI cS cF cZ cJ : ClassId} {ad : Nat → Nat} {X : va_W} {n : Nat} {o : Nat} {p1 : Int32} {p2 : Int32} (G : cx p s m args meth c cX3_commandTraffic 6 wsX3_commandTraffic RX3 D (ty5 cI cS cF cZ cJ) A none) (hn : n ≤ 24) (ho : kC n o = 3) (v : Mem) : sk p l e rmX3_commandTraffic s m args below meth c D A 6 0 0 (fun res => MQ below (qv D A (ty5 cI cS cF cZ cJ) (Wc cI cS cF ad n X) res) args s 0 0 A) (Wc cI cS cF ad n X v) 103 [(0, .ref (ad o)), (2, .int p2)] [] (fX3_commandTraffic_103 o p1 p2 v) := by
  obtain ⟨F, hK, hA, hZ, hr, hlocks⟩ := G
  refine sk_eq (K' := fX3_commandTraffic_104 o p1 p2 v 0) rfl ?_
  refine sk_iconst (x := 0) F dX3_commandTraffic_103 (by decide) ?_
  exact kX3_commandTraffic_104 ⟨F, hK, hA, hZ, hr, hlocks⟩ hn ho v 0
def fX3_commandTraffic_72 (o : Nat) (p1 : Int32) (p2 : Int32) (v : Mem) (s0 : Int32) (s1 : Nat) : Option (Mem) := (fX0_send s1 s0 p2 v).bind fun v9 => if p1 = 0 then fX3_commandTraffic_103 o p1 p2 v9 else if (v9 (o + 4) 0) = 1 then fX3_commandTraffic_104 o p1 p2 v9 1 else bd (fX3_isHalted o p2 v9) fun x15 v14 => if x15 = 0 then fX3_commandTraffic_103 o p1 p2 v14 else fX3_commandTraffic_104 o p1 p2 v14 1
set_option maxRecDepth 100000 in
set_option maxHeartbeats 4000000 in
theorem kX3_commandTraffic_72 {p : Program} {l : Launch} {e : Env} {s : State} {m : MethodId} {args : Array Value} {below : List Frame} {meth : Method} {c : Code} {D : va_G} {A : Nat → Prop} {cI cS cF cZ cJ : ClassId} {ad : Nat → Nat} {X : va_W} {n : Nat} {o : Nat} {p1 : Int32} {p2 : Int32} (G : cx p s m args meth c cX3_commandTraffic 6 wsX3_commandTraffic RX3 D (ty5 cI cS cF cZ cJ) A none) (hn : n ≤ 24) (ho : kC n o = 3) (v : Mem) (s0 : Int32) (s1 : Nat) (hs1 : kC n s1 = 0) : sk p l e rmX3_commandTraffic s m args below meth c D A 6 0 0 (fun res => MQ below (qv D A (ty5 cI cS cF cZ cJ) (Wc cI cS cF ad n X) res) args s 0 0 A) (Wc cI cS cF ad n X v) 72 [(0, .ref (ad o)), (1, .int p1), (2, .int p2)] [.int s0, .ref (ad s1)] (fX3_commandTraffic_72 o p1 p2 v s0 s1) := by
  obtain ⟨F, hK, hA, hZ, hr, hlocks⟩ := G
  refine sk_eq (K' := (fX0_send s1 s0 p2 v).bind fun v9 => if p1 = 0 then fX3_commandTraffic_103 o p1 p2 v9 else if (v9 (o + 4) 0) = 1 then fX3_commandTraffic_104 o p1 p2 v9 1 else bd (fX3_isHalted o p2 v9) fun x15 v14 => if x15 = 0 then fX3_commandTraffic_103 o p1 p2 v14 else fX3_commandTraffic_104 o p1 p2 v14 1) rfl ?_
  refine sk_iload_n F dX3_commandTraffic_72 rfl 2 rfl ?_
  refine sk_callVv (As := [.int s0, .int p2]) (rest := []) F hK hA hZ _ (tX0_send hn (Or.inl hs1) _) (cwV 2 F.2.2.2.2 gX3_commandTraffic_X0_send rfl rfl rfl (by decide +kernel) ⟨Nat.le_of_ble_eq_true rfl, Nat.le_of_ble_eq_true rfl⟩) (rc0 hK hs1) rfl rfl (Nat.le_of_ble_eq_true rfl) (by decide) dX3_commandTraffic_73 (fun v9 c8 => ?_)
  refine sk_iload_n F dX3_commandTraffic_76 rfl 1 rfl ?_
  refine sk_if_eq F 103 dX3_commandTraffic_77 (by decide) (fun h11 => ?_) (fun h11 => ?_)
  · exact sk_lv [0, 2] rfl (kX3_commandTraffic_103 ⟨F, hK, hA, hZ, hr, hlocks⟩ hn ho v9)
  · refine sk_aload_n F dX3_commandTraffic_80 rfl 0 rfl ?_
    refine sk_g3 (ref := "TunnelWatch$Tube") F hK ho iX3_commandTraffic_3 2 (by decide) (by decide +kernel) (fun _ h9 => h9) rfl dX3_commandTraffic_81 ?_
    refine sk_g0 (ref := "TunnelWatch$Device") F hK (kC_bar ho) iX3_commandTraffic_0 0 (by decide) (by decide +kernel) (fun _ h9 => h9) rfl dX3_commandTraffic_84 ?_
    refine sk_iconst (x := 1) F dX3_commandTraffic_87 (by decide) ?_
    refine sk_icmp_eq F 99 dX3_commandTraffic_88 (by decide) (fun h12 => ?_) (fun h12 => ?_)
    · refine sk_iconst (x := 1) F dX3_commandTraffic_99 (by decide) ?_
      refine sk_goto F 104 dX3_commandTraffic_100 (by decide) ?_
      exact sk_lv [0, 2] rfl (kX3_commandTraffic_104 ⟨F, hK, hA, hZ, hr, hlocks⟩ hn ho v9 1)
    · refine sk_aload_n F dX3_commandTraffic_91 rfl 0 rfl ?_
      refine sk_iload_n F dX3_commandTraffic_92 rfl 2 rfl ?_
      refine sk_callVi (As := [.int p2]) (rest := []) F hK hA hZ _ (tX3_isHalted hn ho _) (cwV 1 F.2.2.2.2 gX3_commandTraffic_X3_isHalted rfl rfl rfl (by decide +kernel) ⟨Nat.le_of_ble_eq_true rfl, Nat.le_of_ble_eq_true rfl⟩) (rc3 hK ho) rfl rfl (Nat.le_of_ble_eq_true rfl) (by decide) dX3_commandTraffic_93 (fun x15 v14 c13 => ?_)
      refine sk_if_eq F 103 dX3_commandTraffic_96 (by decide) (fun h16 => ?_) (fun h16 => ?_)
      · exact sk_lv [0, 2] rfl (kX3_commandTraffic_103 ⟨F, hK, hA, hZ, hr, hlocks⟩ hn ho v14)
      · refine sk_iconst (x := 1) F dX3_commandTraffic_99 (by decide) ?_
        refine sk_goto F 104 dX3_commandTraffic_100 (by decide) ?_
        exact sk_lv [0, 2] rfl (kX3_commandTraffic_104 ⟨F, hK, hA, hZ, hr, hlocks⟩ hn ho v14 1)
def fX3_commandTraffic_56 (o : Nat) (p1 : Int32) (p2 : Int32) (v : Mem) (s0 : Int32) : Option (Mem) := if s0 = 0 then fX3_commandTraffic_72 o p1 p2 v 0 (o + 3) else fX3_commandTraffic_72 o p1 p2 v 1 (o + 3)
set_option maxRecDepth 100000 in
set_option maxHeartbeats 4000000 in
theorem kX3_commandTraffic_56 {p : Program} {l : Launch} {e : Env} {s : State} {m : MethodId} {args : Array Value} {below : List Frame} {meth : Method} {c : Code} {D : va_G} {A : Nat → Prop} {cI cS cF cZ cJ : ClassId} {ad : Nat → Nat} {X : va_W} {n : Nat} {o : Nat} {p1 : Int32} {p2 : Int32} (G : cx p s m args meth c cX3_commandTraffic 6 wsX3_commandTraffic RX3 D (ty5 cI cS cF cZ cJ) A none) (hn : n ≤ 24) (ho : kC n o = 3) (v : Mem) (s0 : Int32) : sk p l e rmX3_commandTraffic s m args below meth c D A 6 0 0 (fun res => MQ below (qv D A (ty5 cI cS cF cZ cJ) (Wc cI cS cF ad n X) res) args s 0 0 A) (Wc cI cS cF ad n X v) 56 [(0, .ref (ad o)), (1, .int p1), (2, .int p2)] [.int s0] (fX3_commandTraffic_56 o p1 p2 v s0) := by
  obtain ⟨F, hK, hA, hZ, hr, hlocks⟩ := G
  refine sk_eq (K' := if s0 = 0 then fX3_commandTraffic_72 o p1 p2 v 0 (o + 3) else fX3_commandTraffic_72 o p1 p2 v 1 (o + 3)) rfl ?_
  refine sk_istore F dX3_commandTraffic_56 (by decide) rfl ?_
  refine sk_aload_n F dX3_commandTraffic_58 rfl 1 rfl ?_
  refine sk_g3 (ref := "TunnelWatch$Tube") F hK ho iX3_commandTraffic_3 1 (by decide) (by decide +kernel) (fun _ h9 => h9) rfl dX3_commandTraffic_59 ?_
  refine sk_iload F dX3_commandTraffic_62 0 rfl ?_
  refine sk_if_eq F 71 dX3_commandTraffic_64 (by decide) (fun h7 => ?_) (fun h7 => ?_)
  · refine sk_iconst (x := 0) F dX3_commandTraffic_71 (by decide) ?_
    exact sk_lv [1, 2, 3] rfl (kX3_commandTraffic_72 ⟨F, hK, hA, hZ, hr, hlocks⟩ hn ho v 0 (o + 3) (kC_sig ho))
  · refine sk_iconst (x := 1) F dX3_commandTraffic_67 (by decide) ?_
    refine sk_goto F 72 dX3_commandTraffic_68 (by decide) ?_
    exact sk_lv [1, 2, 3] rfl (kX3_commandTraffic_72 ⟨F, hK, hA, hZ, hr, hlocks⟩ hn ho v 1 (o + 3) (kC_sig ho))
def fX3_commandTraffic_27 (o : Nat) (p1 : Int32) (p2 : Int32) (v : Mem) (s0 : Int32) : Option (Mem) := if p1 = 0 then if (v o 10) = 1 then fX3_commandTraffic_56 o p1 p2 v 1 else if (v o 5) = 0 then if s0 = 0 then fX3_commandTraffic_56 o p1 p2 v 0 else fX3_commandTraffic_56 o p1 p2 v 1 else fX3_commandTraffic_56 o p1 p2 v 1 else fX3_commandTraffic_56 o p1 p2 v 1
set_option maxRecDepth 100000 in
set_option maxHeartbeats 4000000 in
theorem kX3_commandTraffic_27 {p : Program} {l : Launch} {e : Env} {s : State} {m : MethodId} {args : Array Value} {below : List Frame} {meth : Method} {c : Code} {D : va_G} {A : Nat → Prop} {cI cS cF cZ cJ : ClassId} {ad : Nat → Nat} {X : va_W} {n : Nat} {o : Nat} {p1 : Int32} {p2 : Int32} (G : cx p s m args meth c cX3_commandTraffic 6 wsX3_commandTraffic RX3 D (ty5 cI cS cF cZ cJ) A none) (hn : n ≤ 24) (ho : kC n o = 3) (v : Mem) (s0 : Int32) : sk p l e rmX3_commandTraffic s m args below meth c D A 6 0 0 (fun res => MQ below (qv D A (ty5 cI cS cF cZ cJ) (Wc cI cS cF ad n X) res) args s 0 0 A) (Wc cI cS cF ad n X v) 27 [(0, .ref (ad o)), (1, .int p1), (2, .int p2)] [.int s0] (fX3_commandTraffic_27 o p1 p2 v s0) := by
  obtain ⟨F, hK, hA, hZ, hr, hlocks⟩ := G
  refine sk_eq (K' := if p1 = 0 then if (v o 10) = 1 then fX3_commandTraffic_56 o p1 p2 v 1 else if (v o 5) = 0 then if s0 = 0 then fX3_commandTraffic_56 o p1 p2 v 0 else fX3_commandTraffic_56 o p1 p2 v 1 else fX3_commandTraffic_56 o p1 p2 v 1 else fX3_commandTraffic_56 o p1 p2 v 1) rfl ?_
  refine sk_istore_n F dX3_commandTraffic_27 rfl (by decide) rfl ?_
  refine sk_iload_n F dX3_commandTraffic_28 rfl 2 rfl ?_
  refine sk_if_ne F 51 dX3_commandTraffic_29 (by decide) (fun h3 => ?_) (fun h3 => ?_)
  · refine sk_iconst (x := 1) F dX3_commandTraffic_51 (by decide) ?_
    refine sk_goto F 56 dX3_commandTraffic_52 (by decide) ?_
    exact sk_lv [1, 2, 3] rfl (kX3_commandTraffic_56 ⟨F, hK, hA, hZ, hr, hlocks⟩ hn ho v 1)
  · refine sk_aload_n F dX3_commandTraffic_32 rfl 1 rfl ?_
    refine sk_g3 (ref := "TunnelWatch$Tube") F hK ho iX3_commandTraffic_3 10 (by decide) (by decide +kernel) (fun _ h9 => h9) rfl dX3_commandTraffic_33 ?_
    refine sk_iconst (x := 1) F dX3_commandTraffic_36 (by decide) ?_
    refine sk_icmp_eq F 51 dX3_commandTraffic_37 (by decide) (fun h4 => ?_) (fun h4 => ?_)
    · refine sk_iconst (x := 1) F dX3_commandTraffic_51 (by decide) ?_
      refine sk_goto F 56 dX3_commandTraffic_52 (by decide) ?_
      exact sk_lv [1, 2, 3] rfl (kX3_commandTraffic_56 ⟨F, hK, hA, hZ, hr, hlocks⟩ hn ho v 1)
    · refine sk_aload_n F dX3_commandTraffic_40 rfl 1 rfl ?_
      refine sk_g3 (ref := "TunnelWatch$Tube") F hK ho iX3_commandTraffic_3 5 (by decide) (by decide +kernel) (fun _ h9 => h9) rfl dX3_commandTraffic_41 ?_
      refine sk_if_ne F 51 dX3_commandTraffic_44 (by decide) (fun h5 => ?_) (fun h5 => ?_)
      · refine sk_iconst (x := 1) F dX3_commandTraffic_51 (by decide) ?_
        refine sk_goto F 56 dX3_commandTraffic_52 (by decide) ?_
        exact sk_lv [1, 2, 3] rfl (kX3_commandTraffic_56 ⟨F, hK, hA, hZ, hr, hlocks⟩ hn ho v 1)
      · refine sk_iload_n F dX3_commandTraffic_47 rfl 0 rfl ?_
        refine sk_if_eq F 55 dX3_commandTraffic_48 (by decide) (fun h6 => ?_) (fun h6 => ?_)
        · refine sk_iconst (x := 0) F dX3_commandTraffic_55 (by decide) ?_
          exact sk_lv [1, 2, 3] rfl (kX3_commandTraffic_56 ⟨F, hK, hA, hZ, hr, hlocks⟩ hn ho v 0)
        · refine sk_iconst (x := 1) F dX3_commandTraffic_51 (by decide) ?_
          refine sk_goto F 56 dX3_commandTraffic_52 (by decide) ?_
          exact sk_lv [1, 2, 3] rfl (kX3_commandTraffic_56 ⟨F, hK, hA, hZ, hr, hlocks⟩ hn ho v 1)
def fX3_commandTraffic (o : Nat) (p1 : Int32) (p2 : Int32) (v : Mem) : Option (Mem) := if (v (o + 4) 0) = 1 then fX3_commandTraffic_27 o p1 p2 v 1 else if (v (o + 4) 1) = 1 then fX3_commandTraffic_27 o p1 p2 v 1 else fX3_commandTraffic_27 o p1 p2 v 0
set_option maxRecDepth 100000 in
set_option maxHeartbeats 4000000 in
theorem kX3_commandTraffic_0 {p : Program} {l : Launch} {e : Env} {s : State} {m : MethodId} {args : Array Value} {below : List Frame} {meth : Method} {c : Code} {D : va_G} {A : Nat → Prop} {cI cS cF cZ cJ : ClassId} {ad : Nat → Nat} {X : va_W} {n : Nat} {o : Nat} {p1 : Int32} {p2 : Int32} (G : cx p s m args meth c cX3_commandTraffic 6 wsX3_commandTraffic RX3 D (ty5 cI cS cF cZ cJ) A none) (hn : n ≤ 24) (ho : kC n o = 3) (v : Mem) : sk p l e rmX3_commandTraffic s m args below meth c D A 6 0 0 (fun res => MQ below (qv D A (ty5 cI cS cF cZ cJ) (Wc cI cS cF ad n X) res) args s 0 0 A) (Wc cI cS cF ad n X v) 0 [(0, .ref (ad o)), (1, .int p1), (2, .int p2)] [] (fX3_commandTraffic o p1 p2 v) := by
  obtain ⟨F, hK, hA, hZ, hr, hlocks⟩ := G
  refine sk_eq (K' := if (v (o + 4) 0) = 1 then fX3_commandTraffic_27 o p1 p2 v 1 else if (v (o + 4) 1) = 1 then fX3_commandTraffic_27 o p1 p2 v 1 else fX3_commandTraffic_27 o p1 p2 v 0) rfl ?_
  refine sk_aload_n F dX3_commandTraffic_0 rfl 0 rfl ?_
  refine sk_g3 (ref := "TunnelWatch$Tube") F hK ho iX3_commandTraffic_3 2 (by decide) (by decide +kernel) (fun _ h9 => h9) rfl dX3_commandTraffic_1 ?_
  refine sk_g0 (ref := "TunnelWatch$Device") F hK (kC_bar ho) iX3_commandTraffic_0 0 (by decide) (by decide +kernel) (fun _ h9 => h9) rfl dX3_commandTraffic_4 ?_
  refine sk_iconst (x := 1) F dX3_commandTraffic_7 (by decide) ?_
  refine sk_icmp_eq F 22 dX3_commandTraffic_8 (by decide) (fun h1 => ?_) (fun h1 => ?_)
  · refine sk_iconst (x := 1) F dX3_commandTraffic_22 (by decide) ?_
    refine sk_goto F 27 dX3_commandTraffic_23 (by decide) ?_
    exact kX3_commandTraffic_27 ⟨F, hK, hA, hZ, hr, hlocks⟩ hn ho v 1
  · refine sk_aload_n F dX3_commandTraffic_11 rfl 0 rfl ?_
    refine sk_g3 (ref := "TunnelWatch$Tube") F hK ho iX3_commandTraffic_3 2 (by decide) (by decide +kernel) (fun _ h9 => h9) rfl dX3_commandTraffic_12 ?_
    refine sk_g0 (ref := "TunnelWatch$Device") F hK (kC_bar ho) iX3_commandTraffic_0 1 (by decide) (by decide +kernel) (fun _ h9 => h9) rfl dX3_commandTraffic_15 ?_
    refine sk_iconst (x := 1) F dX3_commandTraffic_18 (by decide) ?_
    refine sk_icmp_ne F 26 dX3_commandTraffic_19 (by decide) (fun h2 => ?_) (fun h2 => ?_)
    · refine sk_iconst (x := 0) F dX3_commandTraffic_26 (by decide) ?_
      exact kX3_commandTraffic_27 ⟨F, hK, hA, hZ, hr, hlocks⟩ hn ho v 0
    · refine sk_iconst (x := 1) F dX3_commandTraffic_22 (by decide) ?_
      refine sk_goto F 27 dX3_commandTraffic_23 (by decide) ?_
      exact kX3_commandTraffic_27 ⟨F, hK, hA, hZ, hr, hlocks⟩ hn ho v 1
theorem tX3_commandTraffic {l : Launch} {D : va_G} {A : Nat → Prop} {cI cS cF cZ cJ : ClassId} {ad : Nat → Nat} {X : va_W} {n : Nat} (hn : n ≤ 24) {o : Nat} {p1 : Int32} {p2 : Int32} (ho : kC n o = 3) (v : Mem) : CV l yX3_commandTraffic wsX3_commandTraffic rmX3_commandTraffic D A (ty5 cI cS cF cZ cJ) (Wc cI cS cF ad n X) [.ref (ad o), .int p1, .int p2] v (fX3_commandTraffic o p1 p2 v) :=
  CV_of (cc := cX3_commandTraffic) (maxL := 6) (ret := none) (by decide) rfl (Nat.le_of_ble_eq_true rfl) (fun p e s m below meth c G => kX3_commandTraffic_0 G hn ho v)
def rmX3_countBlowing : Room := { frames := 0, cells := 0, slots := 0, locals := 0 }
theorem iX3_countBlowing_1 : ∀ w ∈ wsX10, w ∈ wsX3_countBlowing := by decide +kernel
theorem iX3_countBlowing_3 : ∀ w ∈ wsX30, w ∈ wsX3_countBlowing := by decide +kernel
def fX3_countBlowing_4 (o : Nat) (p1 : Int32) : Nat → Mem → Int32 → Int32 → Option (Int32 × Mem)
  | 0, _, _, _ => none
  | fuel + 1, v, l2, l3 => if (v o 4) ≤ l3 then some (l2, v) else gd (inb l3 12) (if (v (o + 5 + l3.toNatClampNeg) 0) = p1 then fX3_countBlowing_4 o p1 fuel v (l2 + 1) (l3 + 1) else fX3_countBlowing_4 o p1 fuel v l2 (l3 + 1))
set_option maxRecDepth 100000 in
set_option maxHeartbeats 4000000 in
theorem kX3_countBlowing_4 {p : Program} {l : Launch} {e : Env} {s : State} {m : MethodId} {args : Array Value} {below : List Frame} {meth : Method} {c : Code} {D : va_G} {A : Nat → Prop} {cI cS cF cZ cJ : ClassId} {ad : Nat → Nat} {X : va_W} {n : Nat} {o : Nat} {p1 : Int32} (G : cx p s m args meth c cX3_countBlowing 4 wsX3_countBlowing RX3 D (ty5 cI cS cF cZ cJ) A (some .int)) (hn : n ≤ 24) (ho : kC n o = 3) : ∀ (fuel : Nat) (v : Mem) (l2 : Int32) (l3 : Int32), sk p l e rmX3_countBlowing s m args below meth c D A 4 0 0 (fun res => MQ below (qi D A (ty5 cI cS cF cZ cJ) (Wc cI cS cF ad n X) res) args s 0 0 A) (Wc cI cS cF ad n X v) 4 [(0, .ref (ad o)), (1, .int p1), (2, .int l2), (3, .int l3)] [] (fX3_countBlowing_4 o p1 fuel v l2 l3) := by
  obtain ⟨F, hK, hA, hZ, hr, hlocks⟩ := G
  intro fuel
  induction fuel with
  | zero => intro v l2 l3; exact sk_none
  | succ fuel ih =>
    intro v l2 l3
    refine sk_eq (K' := if (v o 4) ≤ l3 then some (l2, v) else gd (inb l3 12) (if (v (o + 5 + l3.toNatClampNeg) 0) = p1 then fX3_countBlowing_4 o p1 fuel v (l2 + 1) (l3 + 1) else fX3_countBlowing_4 o p1 fuel v l2 (l3 + 1))) rfl ?_
    refine sk_iload_n F dX3_countBlowing_4 rfl 3 rfl ?_
    refine sk_aload_n F dX3_countBlowing_5 rfl 0 rfl ?_
    refine sk_g3 (ref := "TunnelWatch$Tube") F hK ho iX3_countBlowing_3 4 (by decide) (by decide +kernel) (fun _ h9 => h9) rfl dX3_countBlowing_6 ?_
    refine sk_icmp_ge F 34 dX3_countBlowing_9 (by decide) (fun h1 => ?_) (fun h1 => ?_)
    · refine sk_iload_n F dX3_countBlowing_34 rfl 2 rfl ?_
      exact sk_iret F hK hr hlocks dX3_countBlowing_35
    · refine sk_aload_n F dX3_countBlowing_12 rfl 0 rfl ?_
      refine sk_g3 (ref := "TunnelWatch$Tube") F hK ho iX3_countBlowing_3 3 (by decide) (by decide +kernel) (fun _ h9 => h9) rfl dX3_countBlowing_13 ?_
      refine sk_iload_n F dX3_countBlowing_16 rfl 3 rfl ?_
      refine sk_aldF F hK ho dX3_countBlowing_17 (fun h2 => ?_)
      refine sk_g1 (ref := "TunnelWatch$Fan") F hK (kC_f ho (inb_lt h2)) iX3_countBlowing_1 0 (by decide) (by decide +kernel) (u_same (F.2.2.2.2 (.sameField "TunnelWatch$Fan" "TunnelWatch$Device" "command" "I") (by decide +kernel))) rfl dX3_countBlowing_18 ?_
      refine sk_iload_n F dX3_countBlowing_21 rfl 1 rfl ?_
      refine sk_icmp_ne F 28 dX3_countBlowing_22 (by decide) (fun h3 => ?_) (fun h3 => ?_)
      · refine sk_iinc (y := l3 + 1) F dX3_countBlowing_28 3 rfl rfl (by decide) rfl ?_
        refine sk_goto F 4 dX3_countBlowing_31 (by decide) ?_
        exact sk_lv [1, 2, 3, 0] rfl (ih v l2 (l3 + 1))
      · refine sk_iinc (y := l2 + 1) F dX3_countBlowing_25 2 rfl rfl (by decide) rfl ?_
        refine sk_iinc (y := l3 + 1) F dX3_countBlowing_28 3 rfl rfl (by decide) rfl ?_
        refine sk_goto F 4 dX3_countBlowing_31 (by decide) ?_
        exact sk_lv [2, 3, 1, 0] rfl (ih v (l2 + 1) (l3 + 1))
def fX3_countBlowing (o : Nat) (p1 : Int32) (v : Mem) : Option (Int32 × Mem) := fX3_countBlowing_4 o p1 1000 v 0 0
set_option maxRecDepth 100000 in
set_option maxHeartbeats 4000000 in
theorem kX3_countBlowing_0 {p : Program} {l : Launch} {e : Env} {s : State} {m : MethodId} {args : Array Value} {below : List Frame} {meth : Method} {c : Code} {D : va_G} {A : Nat → Prop} {cI cS cF cZ cJ : ClassId} {ad : Nat → Nat} {X : va_W} {n : Nat} {o : Nat} {p1 : Int32} (G : cx p s m args meth c cX3_countBlowing 4 wsX3_countBlowing RX3 D (ty5 cI cS cF cZ cJ) A (some .int)) (hn : n ≤ 24) (ho : kC n o = 3) (v : Mem) : sk p l e rmX3_countBlowing s m args below meth c D A 4 0 0 (fun res => MQ below (qi D A (ty5 cI cS cF cZ cJ) (Wc cI cS cF ad n X) res) args s 0 0 A) (Wc cI cS cF ad n X v) 0 [(0, .ref (ad o)), (1, .int p1)] [] (fX3_countBlowing o p1 v) := by
  obtain ⟨F, hK, hA, hZ, hr, hlocks⟩ := G
  refine sk_eq (K' := fX3_countBlowing_4 o p1 1000 v 0 0) rfl ?_
  refine sk_iconst (x := 0) F dX3_countBlowing_0 (by decide) ?_
  refine sk_istore_n F dX3_countBlowing_1 rfl (by decide) rfl ?_
  refine sk_iconst (x := 0) F dX3_countBlowing_2 (by decide) ?_
  refine sk_istore_n F dX3_countBlowing_3 rfl (by decide) rfl ?_
  exact sk_lv [2, 3, 1, 0] rfl (kX3_countBlowing_4 ⟨F, hK, hA, hZ, hr, hlocks⟩ hn ho 1000 v 0 0)
theorem tX3_countBlowing {l : Launch} {D : va_G} {A : Nat → Prop} {cI cS cF cZ cJ : ClassId} {ad : Nat → Nat} {X : va_W} {n : Nat} (hn : n ≤ 24) {o : Nat} {p1 : Int32} (ho : kC n o = 3) (v : Mem) : CI l yX3_countBlowing wsX3_countBlowing rmX3_countBlowing D A (ty5 cI cS cF cZ cJ) (Wc cI cS cF ad n X) [.ref (ad o), .int p1] v (fX3_countBlowing o p1 v) :=
  CI_of (cc := cX3_countBlowing) (maxL := 4) (ret := (some .int)) (by decide) rfl (Nat.le_of_ble_eq_true rfl) (fun p e s m below meth c G => kX3_countBlowing_0 G hn ho v)
def rmX3_isUnsafe : Room := { frames := 1, cells := 0, slots := 0, locals := 23 }
theorem iX3_isUnsafe_0 : ∀ w ∈ wsX00, w ∈ wsX3_isUnsafe := by decide +kernel
theorem iX3_isUnsafe_3 : ∀ w ∈ wsX30, w ∈ wsX3_isUnsafe := by decide +kernel
def fX3_isUnsafe_88 (o : Nat) (p1 : Int32) (v : Mem) (l3 : Int32) (l4 : Int32) (s0 : Int32) : Option (Int32 × Mem) := if l3 = 0 then if l4 = 0 then if s0 = 0 then some (0, v) else some (1, v) else some (1, v) else some (1, v)
set_option maxRecDepth 100000 in
set_option maxHeartbeats 4000000 in
theorem kX3_isUnsafe_88 {p : Program} {l : Launch} {e : Env} {s : State} {m : MethodId} {args : Array Value} {below : List Frame} {meth : Method} {c : Code} {D : va_G} {A : Nat → Prop} {cI cS cF cZ cJ : ClassId} {ad : Nat → Nat} {X : va_W} {n : Nat} {o : Nat} {p1 : Int32} (G : cx p s m args meth c cX3_isUnsafe 6 wsX3_isUnsafe RX3 D (ty5 cI cS cF cZ cJ) A (some .boolean)) (hn : n ≤ 24) (ho : kC n o = 3) (v : Mem) (l3 : Int32) (l4 : Int32) (s0 : Int32) : sk p l e rmX3_isUnsafe s m args below meth c D A 6 0 0 (fun res => MQ below (qi D A (ty5 cI cS cF cZ cJ) (Wc cI cS cF ad n X) res) args s 0 0 A) (Wc cI cS cF ad n X v) 88 [(3, .int l3), (4, .int l4)] [.int s0] (fX3_isUnsafe_88 o p1 v l3 l4 s0) := by
  obtain ⟨F, hK, hA, hZ, hr, hlocks⟩ := G
  refine sk_eq (K' := if l3 = 0 then if l4 = 0 then if s0 = 0 then some (0, v) else some (1, v) else some (1, v) else some (1, v)) rfl ?_
  refine sk_istore F dX3_isUnsafe_88 (by decide) rfl ?_
  refine sk_iload_n F dX3_isUnsafe_90 rfl 1 rfl ?_
  refine sk_if_ne F 104 dX3_isUnsafe_91 (by decide) (fun h18 => ?_) (fun h18 => ?_)
  · refine sk_iconst (x := 1) F dX3_isUnsafe_104 (by decide) ?_
    refine sk_goto F 109 dX3_isUnsafe_105 (by decide) ?_
    exact sk_zretc F hK hr hlocks (by decide) dX3_isUnsafe_109
  · refine sk_iload F dX3_isUnsafe_94 2 rfl ?_
    refine sk_if_ne F 104 dX3_isUnsafe_96 (by decide) (fun h19 => ?_) (fun h19 => ?_)
    · refine sk_iconst (x := 1) F dX3_isUnsafe_104 (by decide) ?_
      refine sk_goto F 109 dX3_isUnsafe_105 (by decide) ?_
      exact sk_zretc F hK hr hlocks (by decide) dX3_isUnsafe_109
    · refine sk_iload F dX3_isUnsafe_99 0 rfl ?_
      refine sk_if_eq F 108 dX3_isUnsafe_101 (by decide) (fun h20 => ?_) (fun h20 => ?_)
      · refine sk_iconst (x := 0) F dX3_isUnsafe_108 (by decide) ?_
        exact sk_zretc F hK hr hlocks (by decide) dX3_isUnsafe_109
      · refine sk_iconst (x := 1) F dX3_isUnsafe_104 (by decide) ?_
        refine sk_goto F 109 dX3_isUnsafe_105 (by decide) ?_
        exact sk_zretc F hK hr hlocks (by decide) dX3_isUnsafe_109
def fX3_isUnsafe_87 (o : Nat) (p1 : Int32) (v : Mem) (l3 : Int32) (l4 : Int32) : Option (Int32 × Mem) := fX3_isUnsafe_88 o p1 v l3 l4 0
set_option maxRecDepth 100000 in
set_option maxHeartbeats 4000000 in
theorem kX3_isUnsafe_87 {p : Program} {l : Launch} {e : Env} {s : State} {m : MethodId} {args : Array Value} {below : List Frame} {meth : Method} {c : Code} {D : va_G} {A : Nat → Prop} {cI cS cF cZ cJ : ClassId} {ad : Nat → Nat} {X : va_W} {n : Nat} {o : Nat} {p1 : Int32} (G : cx p s m args meth c cX3_isUnsafe 6 wsX3_isUnsafe RX3 D (ty5 cI cS cF cZ cJ) A (some .boolean)) (hn : n ≤ 24) (ho : kC n o = 3) (v : Mem) (l3 : Int32) (l4 : Int32) : sk p l e rmX3_isUnsafe s m args below meth c D A 6 0 0 (fun res => MQ below (qi D A (ty5 cI cS cF cZ cJ) (Wc cI cS cF ad n X) res) args s 0 0 A) (Wc cI cS cF ad n X v) 87 [(3, .int l3), (4, .int l4)] [] (fX3_isUnsafe_87 o p1 v l3 l4) := by
  obtain ⟨F, hK, hA, hZ, hr, hlocks⟩ := G
  refine sk_eq (K' := fX3_isUnsafe_88 o p1 v l3 l4 0) rfl ?_
  refine sk_iconst (x := 0) F dX3_isUnsafe_87 (by decide) ?_
  exact kX3_isUnsafe_88 ⟨F, hK, hA, hZ, hr, hlocks⟩ hn ho v l3 l4 0
def fX3_isUnsafe_65 (o : Nat) (p1 : Int32) (v : Mem) (l3 : Int32) (s0 : Int32) : Option (Int32 × Mem) := bd (fX3_countBlowing o (-1) v) fun x12 v11 => if x12 ≤ 0 then fX3_isUnsafe_87 o p1 v11 l3 s0 else bd (fX3_countBlowing o 1 v11) fun x16 v15 => if x16 ≤ 0 then fX3_isUnsafe_87 o p1 v15 l3 s0 else fX3_isUnsafe_88 o p1 v15 l3 s0 1
set_option maxRecDepth 100000 in
set_option maxHeartbeats 4000000 in
theorem kX3_isUnsafe_65 {p : Program} {l : Launch} {e : Env} {s : State} {m : MethodId} {args : Array Value} {below : List Frame} {meth : Method} {c : Code} {D : va_G} {A : Nat → Prop} {cI cS cF cZ cJ : ClassId} {ad : Nat → Nat} {X : va_W} {n : Nat} {o : Nat} {p1 : Int32} (G : cx p s m args meth c cX3_isUnsafe 6 wsX3_isUnsafe RX3 D (ty5 cI cS cF cZ cJ) A (some .boolean)) (hn : n ≤ 24) (ho : kC n o = 3) (v : Mem) (l3 : Int32) (s0 : Int32) : sk p l e rmX3_isUnsafe s m args below meth c D A 6 0 0 (fun res => MQ below (qi D A (ty5 cI cS cF cZ cJ) (Wc cI cS cF ad n X) res) args s 0 0 A) (Wc cI cS cF ad n X v) 65 [(0, .ref (ad o)), (3, .int l3)] [.int s0] (fX3_isUnsafe_65 o p1 v l3 s0) := by
  obtain ⟨F, hK, hA, hZ, hr, hlocks⟩ := G
  refine sk_eq (K' := bd (fX3_countBlowing o (-1) v) fun x12 v11 => if x12 ≤ 0 then fX3_isUnsafe_87 o p1 v11 l3 s0 else bd (fX3_countBlowing o 1 v11) fun x16 v15 => if x16 ≤ 0 then fX3_isUnsafe_87 o p1 v15 l3 s0 else fX3_isUnsafe_88 o p1 v15 l3 s0 1) rfl ?_
  refine sk_istore F dX3_isUnsafe_65 (by decide) rfl ?_
  refine sk_aload_n F dX3_isUnsafe_67 rfl 1 rfl ?_
  refine sk_iconst (x := (-1)) F dX3_isUnsafe_68 (by decide) ?_
  refine sk_callVi (As := [.int (-1)]) (rest := []) F hK hA hZ _ (tX3_countBlowing hn ho _) (cwV 1 F.2.2.2.2 gX3_isUnsafe_X3_countBlowing rfl rfl rfl (by decide +kernel) ⟨Nat.le_of_ble_eq_true rfl, Nat.le_of_ble_eq_true rfl⟩) (rc3 hK ho) rfl rfl (Nat.le_of_ble_eq_true rfl) (by decide) dX3_isUnsafe_69 (fun x12 v11 c10 => ?_)
  refine sk_if_le F 87 dX3_isUnsafe_72 (by decide) (fun h13 => ?_) (fun h13 => ?_)
  · exact sk_lv [2, 0] rfl (kX3_isUnsafe_87 ⟨F, hK, hA, hZ, hr, hlocks⟩ hn ho v11 l3 s0)
  · refine sk_aload_n F dX3_isUnsafe_75 rfl 1 rfl ?_
    refine sk_iconst (x := 1) F dX3_isUnsafe_76 (by decide) ?_
    refine sk_callVi (As := [.int 1]) (rest := []) F hK hA hZ _ (tX3_countBlowing hn ho _) (cwV 1 F.2.2.2.2 gX3_isUnsafe_X3_countBlowing rfl rfl rfl (by decide +kernel) ⟨Nat.le_of_ble_eq_true rfl, Nat.le_of_ble_eq_true rfl⟩) (rc3 hK ho) rfl rfl (Nat.le_of_ble_eq_true rfl) (by decide) dX3_isUnsafe_77 (fun x16 v15 c14 => ?_)
    refine sk_if_le F 87 dX3_isUnsafe_80 (by decide) (fun h17 => ?_) (fun h17 => ?_)
    · exact sk_lv [2, 0] rfl (kX3_isUnsafe_87 ⟨F, hK, hA, hZ, hr, hlocks⟩ hn ho v15 l3 s0)
    · refine sk_iconst (x := 1) F dX3_isUnsafe_83 (by decide) ?_
      refine sk_goto F 88 dX3_isUnsafe_84 (by decide) ?_
      exact sk_lv [2, 0] rfl (kX3_isUnsafe_88 ⟨F, hK, hA, hZ, hr, hlocks⟩ hn ho v15 l3 s0 1)
def fX3_isUnsafe_64 (o : Nat) (p1 : Int32) (v : Mem) (l3 : Int32) : Option (Int32 × Mem) := fX3_isUnsafe_65 o p1 v l3 0
set_option maxRecDepth 100000 in
set_option maxHeartbeats 4000000 in
theorem kX3_isUnsafe_64 {p : Program} {l : Launch} {e : Env} {s : State} {m : MethodId} {args : Array Value} {below : List Frame} {meth : Method} {c : Code} {D : va_G} {A : Nat → Prop} {cI cS cF cZ cJ : ClassId} {ad : Nat → Nat} {X : va_W} {n : Nat} {o : Nat} {p1 : Int32} (G : cx p s m args meth c cX3_isUnsafe 6 wsX3_isUnsafe RX3 D (ty5 cI cS cF cZ cJ) A (some .boolean)) (hn : n ≤ 24) (ho : kC n o = 3) (v : Mem) (l3 : Int32) : sk p l e rmX3_isUnsafe s m args below meth c D A 6 0 0 (fun res => MQ below (qi D A (ty5 cI cS cF cZ cJ) (Wc cI cS cF ad n X) res) args s 0 0 A) (Wc cI cS cF ad n X v) 64 [(0, .ref (ad o)), (3, .int l3)] [] (fX3_isUnsafe_64 o p1 v l3) := by
  obtain ⟨F, hK, hA, hZ, hr, hlocks⟩ := G
  refine sk_eq (K' := fX3_isUnsafe_65 o p1 v l3 0) rfl ?_
  refine sk_iconst (x := 0) F dX3_isUnsafe_64 (by decide) ?_
  exact kX3_isUnsafe_65 ⟨F, hK, hA, hZ, hr, hlocks⟩ hn ho v l3 0
def fX3_isUnsafe_45 (o : Nat) (p1 : Int32) (v : Mem) (l2 : Int32) (s0 : Int32) : Option (Int32 × Mem) := if l2 = 0 then fX3_isUnsafe_64 o p1 v s0 else if (v (o + 3) 0) = 0 then fX3_isUnsafe_65 o p1 v s0 1 else fX3_isUnsafe_64 o p1 v s0
set_option maxRecDepth 100000 in
set_option maxHeartbeats 4000000 in
theorem kX3_isUnsafe_45 {p : Program} {l : Launch} {e : Env} {s : State} {m : MethodId} {args : Array Value} {below : List Frame} {meth : Method} {c : Code} {D : va_G} {A : Nat → Prop} {cI cS cF cZ cJ : ClassId} {ad : Nat → Nat} {X : va_W} {n : Nat} {o : Nat} {p1 : Int32} (G : cx p s m args meth c cX3_isUnsafe 6 wsX3_isUnsafe RX3 D (ty5 cI cS cF cZ cJ) A (some .boolean)) (hn : n ≤ 24) (ho : kC n o = 3) (v : Mem) (l2 : Int32) (s0 : Int32) : sk p l e rmX3_isUnsafe s m args below meth c D A 6 0 0 (fun res => MQ below (qi D A (ty5 cI cS cF cZ cJ) (Wc cI cS cF ad n X) res) args s 0 0 A) (Wc cI cS cF ad n X v) 45 [(0, .ref (ad o)), (2, .int l2)] [.int s0] (fX3_isUnsafe_45 o p1 v l2 s0) := by
  obtain ⟨F, hK, hA, hZ, hr, hlocks⟩ := G
  refine sk_eq (K' := if l2 = 0 then fX3_isUnsafe_64 o p1 v s0 else if (v (o + 3) 0) = 0 then fX3_isUnsafe_65 o p1 v s0 1 else fX3_isUnsafe_64 o p1 v s0) rfl ?_
  refine sk_istore_n F dX3_isUnsafe_45 rfl (by decide) rfl ?_
  refine sk_iload_n F dX3_isUnsafe_46 rfl 2 rfl ?_
  refine sk_if_eq F 64 dX3_isUnsafe_47 (by decide) (fun h8 => ?_) (fun h8 => ?_)
  · exact sk_lv [1, 0] rfl (kX3_isUnsafe_64 ⟨F, hK, hA, hZ, hr, hlocks⟩ hn ho v s0)
  · refine sk_aload_n F dX3_isUnsafe_50 rfl 1 rfl ?_
    refine sk_g3 (ref := "TunnelWatch$Tube") F hK ho iX3_isUnsafe_3 1 (by decide) (by decide +kernel) (fun _ h9 => h9) rfl dX3_isUnsafe_51 ?_
    refine sk_g0 (ref := "TunnelWatch$Device") F hK (kC_sig ho) iX3_isUnsafe_0 0 (by decide) (by decide +kernel) (fun _ h9 => h9) rfl dX3_isUnsafe_54 ?_
    refine sk_if_ne F 64 dX3_isUnsafe_57 (by decide) (fun h9 => ?_) (fun h9 => ?_)
    · exact sk_lv [1, 0] rfl (kX3_isUnsafe_64 ⟨F, hK, hA, hZ, hr, hlocks⟩ hn ho v s0)
    · refine sk_iconst (x := 1) F dX3_isUnsafe_60 (by decide) ?_
      refine sk_goto F 65 dX3_isUnsafe_61 (by decide) ?_
      exact sk_lv [1, 0] rfl (kX3_isUnsafe_65 ⟨F, hK, hA, hZ, hr, hlocks⟩ hn ho v s0 1)
def fX3_isUnsafe_44 (o : Nat) (p1 : Int32) (v : Mem) (l2 : Int32) : Option (Int32 × Mem) := fX3_isUnsafe_45 o p1 v l2 0
set_option maxRecDepth 100000 in
set_option maxHeartbeats 4000000 in
theorem kX3_isUnsafe_44 {p : Program} {l : Launch} {e : Env} {s : State} {m : MethodId} {args : Array Value} {below : List Frame} {meth : Method} {c : Code} {D : va_G} {A : Nat → Prop} {cI cS cF cZ cJ : ClassId} {ad : Nat → Nat} {X : va_W} {n : Nat} {o : Nat} {p1 : Int32} (G : cx p s m args meth c cX3_isUnsafe 6 wsX3_isUnsafe RX3 D (ty5 cI cS cF cZ cJ) A (some .boolean)) (hn : n ≤ 24) (ho : kC n o = 3) (v : Mem) (l2 : Int32) : sk p l e rmX3_isUnsafe s m args below meth c D A 6 0 0 (fun res => MQ below (qi D A (ty5 cI cS cF cZ cJ) (Wc cI cS cF ad n X) res) args s 0 0 A) (Wc cI cS cF ad n X v) 44 [(0, .ref (ad o)), (2, .int l2)] [] (fX3_isUnsafe_44 o p1 v l2) := by
  obtain ⟨F, hK, hA, hZ, hr, hlocks⟩ := G
  refine sk_eq (K' := fX3_isUnsafe_45 o p1 v l2 0) rfl ?_
  refine sk_iconst (x := 0) F dX3_isUnsafe_44 (by decide) ?_
  exact kX3_isUnsafe_45 ⟨F, hK, hA, hZ, hr, hlocks⟩ hn ho v l2 0
def fX3_isUnsafe_16 (o : Nat) (p1 : Int32) (v : Mem) (s0 : Int32) : Option (Int32 × Mem) := if s0 = 0 then fX3_isUnsafe_44 o p1 v s0 else if (v (o + 4) 2) = p1 then bd (fX3_isHalted o p1 v) fun x6 v5 => if x6 = 0 then fX3_isUnsafe_45 o p1 v5 s0 1 else fX3_isUnsafe_44 o p1 v5 s0 else fX3_isUnsafe_44 o p1 v s0
set_option maxRecDepth 100000 in
set_option maxHeartbeats 4000000 in
theorem kX3_isUnsafe_16 {p : Program} {l : Launch} {e : Env} {s : State} {m : MethodId} {args : Array Value} {below : List Frame} {meth : Method} {c : Code} {D : va_G} {A : Nat → Prop} {cI cS cF cZ cJ : ClassId} {ad : Nat → Nat} {X : va_W} {n : Nat} {o : Nat} {p1 : Int32} (G : cx p s m args meth c cX3_isUnsafe 6 wsX3_isUnsafe RX3 D (ty5 cI cS cF cZ cJ) A (some .boolean)) (hn : n ≤ 24) (ho : kC n o = 3) (v : Mem) (s0 : Int32) : sk p l e rmX3_isUnsafe s m args below meth c D A 6 0 0 (fun res => MQ below (qi D A (ty5 cI cS cF cZ cJ) (Wc cI cS cF ad n X) res) args s 0 0 A) (Wc cI cS cF ad n X v) 16 [(0, .ref (ad o)), (1, .int p1)] [.int s0] (fX3_isUnsafe_16 o p1 v s0) := by
  obtain ⟨F, hK, hA, hZ, hr, hlocks⟩ := G
  refine sk_eq (K' := if s0 = 0 then fX3_isUnsafe_44 o p1 v s0 else if (v (o + 4) 2) = p1 then bd (fX3_isHalted o p1 v) fun x6 v5 => if x6 = 0 then fX3_isUnsafe_45 o p1 v5 s0 1 else fX3_isUnsafe_44 o p1 v5 s0 else fX3_isUnsafe_44 o p1 v s0) rfl ?_
  refine sk_istore_n F dX3_isUnsafe_16 rfl (by decide) rfl ?_
  refine sk_iload_n F dX3_isUnsafe_17 rfl 0 rfl ?_
  refine sk_if_eq F 44 dX3_isUnsafe_18 (by decide) (fun h2 => ?_) (fun h2 => ?_)
  · exact sk_lv [1, 0] rfl (kX3_isUnsafe_44 ⟨F, hK, hA, hZ, hr, hlocks⟩ hn ho v s0)
  · refine sk_aload_n F dX3_isUnsafe_21 rfl 1 rfl ?_
    refine sk_g3 (ref := "TunnelWatch$Tube") F hK ho iX3_isUnsafe_3 2 (by decide) (by decide +kernel) (fun _ h9 => h9) rfl dX3_isUnsafe_22 ?_
    refine sk_g0 (ref := "TunnelWatch$Device") F hK (kC_bar ho) iX3_isUnsafe_0 2 (by decide) (by decide +kernel) (fun _ h9 => h9) rfl dX3_isUnsafe_25 ?_
    refine sk_iload_n F dX3_isUnsafe_28 rfl 2 rfl ?_
    refine sk_icmp_ne F 44 dX3_isUnsafe_29 (by decide) (fun h3 => ?_) (fun h3 => ?_)
    · exact sk_lv [1, 0] rfl (kX3_isUnsafe_44 ⟨F, hK, hA, hZ, hr, hlocks⟩ hn ho v s0)
    · refine sk_aload_n F dX3_isUnsafe_32 rfl 1 rfl ?_
      refine sk_iload_n F dX3_isUnsafe_33 rfl 2 rfl ?_
      refine sk_callVi (As := [.int p1]) (rest := []) F hK hA hZ _ (tX3_isHalted hn ho _) (cwV 1 F.2.2.2.2 gX3_isUnsafe_X3_isHalted rfl rfl rfl (by decide +kernel) ⟨Nat.le_of_ble_eq_true rfl, Nat.le_of_ble_eq_true rfl⟩) (rc3 hK ho) rfl rfl (Nat.le_of_ble_eq_true rfl) (by decide) dX3_isUnsafe_34 (fun x6 v5 c4 => ?_)
      refine sk_if_ne F 44 dX3_isUnsafe_37 (by decide) (fun h7 => ?_) (fun h7 => ?_)
      · exact sk_lv [1, 0] rfl (kX3_isUnsafe_44 ⟨F, hK, hA, hZ, hr, hlocks⟩ hn ho v5 s0)
      · refine sk_iconst (x := 1) F dX3_isUnsafe_40 (by decide) ?_
        refine sk_goto F 45 dX3_isUnsafe_41 (by decide) ?_
        exact sk_lv [1, 0] rfl (kX3_isUnsafe_45 ⟨F, hK, hA, hZ, hr, hlocks⟩ hn ho v5 s0 1)
def fX3_isUnsafe (o : Nat) (p1 : Int32) (v : Mem) : Option (Int32 × Mem) := if (v (o + 4) 0) = 1 then fX3_isUnsafe_16 o p1 v 1 else fX3_isUnsafe_16 o p1 v 0
set_option maxRecDepth 100000 in
set_option maxHeartbeats 4000000 in
theorem kX3_isUnsafe_0 {p : Program} {l : Launch} {e : Env} {s : State} {m : MethodId} {args : Array Value} {below : List Frame} {meth : Method} {c : Code} {D : va_G} {A : Nat → Prop} {cI cS cF cZ cJ : ClassId} {ad : Nat → Nat} {X : va_W} {n : Nat} {o : Nat} {p1 : Int32} (G : cx p s m args meth c cX3_isUnsafe 6 wsX3_isUnsafe RX3 D (ty5 cI cS cF cZ cJ) A (some .boolean)) (hn : n ≤ 24) (ho : kC n o = 3) (v : Mem) : sk p l e rmX3_isUnsafe s m args below meth c D A 6 0 0 (fun res => MQ below (qi D A (ty5 cI cS cF cZ cJ) (Wc cI cS cF ad n X) res) args s 0 0 A) (Wc cI cS cF ad n X v) 0 [(0, .ref (ad o)), (1, .int p1)] [] (fX3_isUnsafe o p1 v) := by
  obtain ⟨F, hK, hA, hZ, hr, hlocks⟩ := G
  refine sk_eq (K' := if (v (o + 4) 0) = 1 then fX3_isUnsafe_16 o p1 v 1 else fX3_isUnsafe_16 o p1 v 0) rfl ?_
  refine sk_aload_n F dX3_isUnsafe_0 rfl 0 rfl ?_
  refine sk_g3 (ref := "TunnelWatch$Tube") F hK ho iX3_isUnsafe_3 2 (by decide) (by decide +kernel) (fun _ h9 => h9) rfl dX3_isUnsafe_1 ?_
  refine sk_g0 (ref := "TunnelWatch$Device") F hK (kC_bar ho) iX3_isUnsafe_0 0 (by decide) (by decide +kernel) (fun _ h9 => h9) rfl dX3_isUnsafe_4 ?_
  refine sk_iconst (x := 1) F dX3_isUnsafe_7 (by decide) ?_
  refine sk_icmp_ne F 15 dX3_isUnsafe_8 (by decide) (fun h1 => ?_) (fun h1 => ?_)
  · refine sk_iconst (x := 0) F dX3_isUnsafe_15 (by decide) ?_
    exact kX3_isUnsafe_16 ⟨F, hK, hA, hZ, hr, hlocks⟩ hn ho v 0
  · refine sk_iconst (x := 1) F dX3_isUnsafe_11 (by decide) ?_
    refine sk_goto F 16 dX3_isUnsafe_12 (by decide) ?_
    exact kX3_isUnsafe_16 ⟨F, hK, hA, hZ, hr, hlocks⟩ hn ho v 1
theorem tX3_isUnsafe {l : Launch} {D : va_G} {A : Nat → Prop} {cI cS cF cZ cJ : ClassId} {ad : Nat → Nat} {X : va_W} {n : Nat} (hn : n ≤ 24) {o : Nat} {p1 : Int32} (ho : kC n o = 3) (v : Mem) : CI l yX3_isUnsafe wsX3_isUnsafe rmX3_isUnsafe D A (ty5 cI cS cF cZ cJ) (Wc cI cS cF ad n X) [.ref (ad o), .int p1] v (fX3_isUnsafe o p1 v) :=
  CI_of (cc := cX3_isUnsafe) (maxL := 6) (ret := (some .boolean)) (by decide) rfl (Nat.le_of_ble_eq_true rfl) (fun p e s m below meth c G => kX3_isUnsafe_0 G hn ho v)
def rmX3_drawnKw : Room := { frames := 1, cells := 0, slots := 0, locals := 21 }
theorem iX3_drawnKw_3 : ∀ w ∈ wsX30, w ∈ wsX3_drawnKw := by decide +kernel
def fX3_drawnKw_4 (o : Nat) (p1 : Int32) : Nat → Mem → Int32 → Int32 → Option (Int32 × Mem)
  | 0, _, _, _ => none
  | fuel + 1, v, l2, l3 => if (v o 4) ≤ l3 then some (l2, v) else gd (inb l3 12) (bd (fX1_drawnKw (o + 5 + l3.toNatClampNeg) p1 v) fun x5 v4 => fX3_drawnKw_4 o p1 fuel v4 (l2 + x5) (l3 + 1))
set_option maxRecDepth 100000 in
set_option maxHeartbeats 4000000 in
theorem kX3_drawnKw_4 {p : Program} {l : Launch} {e : Env} {s : State} {m : MethodId} {args : Array Value} {below : List Frame} {meth : Method} {c : Code} {D : va_G} {A : Nat → Prop} {cI cS cF cZ cJ : ClassId} {ad : Nat → Nat} {X : va_W} {n : Nat} {o : Nat} {p1 : Int32} (G : cx p s m args meth c cX3_drawnKw 4 wsX3_drawnKw RX3 D (ty5 cI cS cF cZ cJ) A (some .int)) (hn : n ≤ 24) (ho : kC n o = 3) : ∀ (fuel : Nat) (v : Mem) (l2 : Int32) (l3 : Int32), sk p l e rmX3_drawnKw s m args below meth c D A 4 0 0 (fun res => MQ below (qi D A (ty5 cI cS cF cZ cJ) (Wc cI cS cF ad n X) res) args s 0 0 A) (Wc cI cS cF ad n X v) 4 [(0, .ref (ad o)), (1, .int p1), (2, .int l2), (3, .int l3)] [] (fX3_drawnKw_4 o p1 fuel v l2 l3) := by
  obtain ⟨F, hK, hA, hZ, hr, hlocks⟩ := G
  intro fuel
  induction fuel with
  | zero => intro v l2 l3; exact sk_none
  | succ fuel ih =>
    intro v l2 l3
    refine sk_eq (K' := if (v o 4) ≤ l3 then some (l2, v) else gd (inb l3 12) (bd (fX1_drawnKw (o + 5 + l3.toNatClampNeg) p1 v) fun x5 v4 => fX3_drawnKw_4 o p1 fuel v4 (l2 + x5) (l3 + 1))) rfl ?_
    refine sk_iload_n F dX3_drawnKw_4 rfl 3 rfl ?_
    refine sk_aload_n F dX3_drawnKw_5 rfl 0 rfl ?_
    refine sk_g3 (ref := "TunnelWatch$Tube") F hK ho iX3_drawnKw_3 4 (by decide) (by decide +kernel) (fun _ h9 => h9) rfl dX3_drawnKw_6 ?_
    refine sk_icmp_ge F 31 dX3_drawnKw_9 (by decide) (fun h1 => ?_) (fun h1 => ?_)
    · refine sk_iload_n F dX3_drawnKw_31 rfl 2 rfl ?_
      exact sk_iret F hK hr hlocks dX3_drawnKw_32
    · refine sk_iload_n F dX3_drawnKw_12 rfl 2 rfl ?_
      refine sk_aload_n F dX3_drawnKw_13 rfl 0 rfl ?_
      refine sk_g3 (ref := "TunnelWatch$Tube") F hK ho iX3_drawnKw_3 3 (by decide) (by decide +kernel) (fun _ h9 => h9) rfl dX3_drawnKw_14 ?_
      refine sk_iload_n F dX3_drawnKw_17 rfl 3 rfl ?_
      refine sk_aldF F hK ho dX3_drawnKw_18 (fun h2 => ?_)
      refine sk_iload_n F dX3_drawnKw_19 rfl 1 rfl ?_
      refine sk_callVi (As := [.int p1]) (rest := [.int l2]) F hK hA hZ _ (tX1_drawnKw hn (kC_f ho (inb_lt h2)) _) (cwV 1 F.2.2.2.2 gX3_drawnKw_X1_drawnKw rfl rfl rfl (by decide +kernel) ⟨Nat.le_of_ble_eq_true rfl, Nat.le_of_ble_eq_true rfl⟩) (rc1 hK (kC_f ho (inb_lt h2))) rfl rfl (Nat.le_of_ble_eq_true rfl) (by decide) dX3_drawnKw_20 (fun x5 v4 c3 => ?_)
      refine sk_iadd F dX3_drawnKw_23 ?_
      refine sk_istore_n F dX3_drawnKw_24 rfl (by decide) rfl ?_
      refine sk_iinc (y := l3 + 1) F dX3_drawnKw_25 3 rfl rfl (by decide) rfl ?_
      refine sk_goto F 4 dX3_drawnKw_28 (by decide) ?_
      exact sk_lv [2, 3, 1, 0] rfl (ih v4 (l2 + x5) (l3 + 1))
def fX3_drawnKw (o : Nat) (p1 : Int32) (v : Mem) : Option (Int32 × Mem) := fX3_drawnKw_4 o p1 1000 v 0 0
set_option maxRecDepth 100000 in
set_option maxHeartbeats 4000000 in
theorem kX3_drawnKw_0 {p : Program} {l : Launch} {e : Env} {s : State} {m : MethodId} {args : Array Value} {below : List Frame} {meth : Method} {c : Code} {D : va_G} {A : Nat → Prop} {cI cS cF cZ cJ : ClassId} {ad : Nat → Nat} {X : va_W} {n : Nat} {o : Nat} {p1 : Int32} (G : cx p s m args meth c cX3_drawnKw 4 wsX3_drawnKw RX3 D (ty5 cI cS cF cZ cJ) A (some .int)) (hn : n ≤ 24) (ho : kC n o = 3) (v : Mem) : sk p l e rmX3_drawnKw s m args below meth c D A 4 0 0 (fun res => MQ below (qi D A (ty5 cI cS cF cZ cJ) (Wc cI cS cF ad n X) res) args s 0 0 A) (Wc cI cS cF ad n X v) 0 [(0, .ref (ad o)), (1, .int p1)] [] (fX3_drawnKw o p1 v) := by
  obtain ⟨F, hK, hA, hZ, hr, hlocks⟩ := G
  refine sk_eq (K' := fX3_drawnKw_4 o p1 1000 v 0 0) rfl ?_
  refine sk_iconst (x := 0) F dX3_drawnKw_0 (by decide) ?_
  refine sk_istore_n F dX3_drawnKw_1 rfl (by decide) rfl ?_
  refine sk_iconst (x := 0) F dX3_drawnKw_2 (by decide) ?_
  refine sk_istore_n F dX3_drawnKw_3 rfl (by decide) rfl ?_
  exact sk_lv [2, 3, 1, 0] rfl (kX3_drawnKw_4 ⟨F, hK, hA, hZ, hr, hlocks⟩ hn ho 1000 v 0 0)
theorem tX3_drawnKw {l : Launch} {D : va_G} {A : Nat → Prop} {cI cS cF cZ cJ : ClassId} {ad : Nat → Nat} {X : va_W} {n : Nat} (hn : n ≤ 24) {o : Nat} {p1 : Int32} (ho : kC n o = 3) (v : Mem) : CI l yX3_drawnKw wsX3_drawnKw rmX3_drawnKw D A (ty5 cI cS cF cZ cJ) (Wc cI cS cF ad n X) [.ref (ad o), .int p1] v (fX3_drawnKw o p1 v) :=
  CI_of (cc := cX3_drawnKw) (maxL := 4) (ret := (some .int)) (by decide) rfl (Nat.le_of_ble_eq_true rfl) (fun p e s m below meth c G => kX3_drawnKw_0 G hn ho v)
def rmX3_stopBlowingAgainst : Room := { frames := 2, cells := 0, slots := 0, locals := 43 }
theorem iX3_stopBlowingAgainst_1 : ∀ w ∈ wsX10, w ∈ wsX3_stopBlowingAgainst := by decide +kernel
theorem iX3_stopBlowingAgainst_3 : ∀ w ∈ wsX30, w ∈ wsX3_stopBlowingAgainst := by decide +kernel
def fX3_stopBlowingAgainst_2 (o : Nat) (p1 : Int32) : Nat → Mem → Int32 → Option (Mem)
  | 0, _, _ => none
  | fuel + 1, v, l2 => if (v o 4) ≤ l2 then some v else gd (inb l2 12) (if (v (o + 5 + l2.toNatClampNeg) 0) = (-(v o 8)) then gd (inb l2 12) ((fX1_stand (o + 5 + l2.toNatClampNeg) p1 v).bind fun v6 => fX3_stopBlowingAgainst_2 o p1 fuel v6 (l2 + 1)) else fX3_stopBlowingAgainst_2 o p1 fuel v (l2 + 1))
set_option maxRecDepth 100000 in
set_option maxHeartbeats 4000000 in
theorem kX3_stopBlowingAgainst_2 {p : Program} {l : Launch} {e : Env} {s : State} {m : MethodId} {args : Array Value} {below : List Frame} {meth : Method} {c : Code} {D : va_G} {A : Nat → Prop} {cI cS cF cZ cJ : ClassId} {ad : Nat → Nat} {X : va_W} {n : Nat} {o : Nat} {p1 : Int32} (G : cx p s m args meth c cX3_stopBlowingAgainst 3 wsX3_stopBlowingAgainst RX3 D (ty5 cI cS cF cZ cJ) A none) (hn : n ≤ 24) (ho : kC n o = 3) : ∀ (fuel : Nat) (v : Mem) (l2 : Int32), sk p l e rmX3_stopBlowingAgainst s m args below meth c D A 3 0 0 (fun res => MQ below (qv D A (ty5 cI cS cF cZ cJ) (Wc cI cS cF ad n X) res) args s 0 0 A) (Wc cI cS cF ad n X v) 2 [(0, .ref (ad o)), (1, .int p1), (2, .int l2)] [] (fX3_stopBlowingAgainst_2 o p1 fuel v l2) := by
  obtain ⟨F, hK, hA, hZ, hr, hlocks⟩ := G
  intro fuel
  induction fuel with
  | zero => intro v l2; exact sk_none
  | succ fuel ih =>
    intro v l2
    refine sk_eq (K' := if (v o 4) ≤ l2 then some v else gd (inb l2 12) (if (v (o + 5 + l2.toNatClampNeg) 0) = (-(v o 8)) then gd (inb l2 12) ((fX1_stand (o + 5 + l2.toNatClampNeg) p1 v).bind fun v6 => fX3_stopBlowingAgainst_2 o p1 fuel v6 (l2 + 1)) else fX3_stopBlowingAgainst_2 o p1 fuel v (l2 + 1))) rfl ?_
    refine sk_iload_n F dX3_stopBlowingAgainst_2 rfl 2 rfl ?_
    refine sk_aload_n F dX3_stopBlowingAgainst_3 rfl 0 rfl ?_
    refine sk_g3 (ref := "TunnelWatch$Tube") F hK ho iX3_stopBlowingAgainst_3 4 (by decide) (by decide +kernel) (fun _ h9 => h9) rfl dX3_stopBlowingAgainst_4 ?_
    refine sk_icmp_ge F 43 dX3_stopBlowingAgainst_7 (by decide) (fun h1 => ?_) (fun h1 => ?_)
    · exact sk_vret F hK hr hlocks dX3_stopBlowingAgainst_43
    · refine sk_aload_n F dX3_stopBlowingAgainst_10 rfl 0 rfl ?_
      refine sk_g3 (ref := "TunnelWatch$Tube") F hK ho iX3_stopBlowingAgainst_3 3 (by decide) (by decide +kernel) (fun _ h9 => h9) rfl dX3_stopBlowingAgainst_11 ?_
      refine sk_iload_n F dX3_stopBlowingAgainst_14 rfl 2 rfl ?_
      refine sk_aldF F hK ho dX3_stopBlowingAgainst_15 (fun h2 => ?_)
      refine sk_g1 (ref := "TunnelWatch$Fan") F hK (kC_f ho (inb_lt h2)) iX3_stopBlowingAgainst_1 0 (by decide) (by decide +kernel) (u_same (F.2.2.2.2 (.sameField "TunnelWatch$Fan" "TunnelWatch$Device" "command" "I") (by decide +kernel))) rfl dX3_stopBlowingAgainst_16 ?_
      refine sk_aload_n F dX3_stopBlowingAgainst_19 rfl 0 rfl ?_
      refine sk_g3 (ref := "TunnelWatch$Tube") F hK ho iX3_stopBlowingAgainst_3 8 (by decide) (by decide +kernel) (fun _ h9 => h9) rfl dX3_stopBlowingAgainst_20 ?_
      refine sk_ineg F dX3_stopBlowingAgainst_23 ?_
      refine sk_icmp_ne F 37 dX3_stopBlowingAgainst_24 (by decide) (fun h3 => ?_) (fun h3 => ?_)
      · refine sk_iinc (y := l2 + 1) F dX3_stopBlowingAgainst_37 2 rfl rfl (by decide) rfl ?_
        refine sk_goto F 2 dX3_stopBlowingAgainst_40 (by decide) ?_
        exact sk_lv [1, 2, 0] rfl (ih v (l2 + 1))
      · refine sk_aload_n F dX3_stopBlowingAgainst_27 rfl 0 rfl ?_
        refine sk_g3 (ref := "TunnelWatch$Tube") F hK ho iX3_stopBlowingAgainst_3 3 (by decide) (by decide +kernel) (fun _ h9 => h9) rfl dX3_stopBlowingAgainst_28 ?_
        refine sk_iload_n F dX3_stopBlowingAgainst_31 rfl 2 rfl ?_
        refine sk_aldF F hK ho dX3_stopBlowingAgainst_32 (fun h4 => ?_)
        refine sk_iload_n F dX3_stopBlowingAgainst_33 rfl 1 rfl ?_
        refine sk_callVv (As := [.int p1]) (rest := []) F hK hA hZ _ (tX1_stand hn (kC_f ho (inb_lt h4)) _) (cwV 1 F.2.2.2.2 gX3_stopBlowingAgainst_X1_stand rfl rfl rfl (by decide +kernel) ⟨Nat.le_of_ble_eq_true rfl, Nat.le_of_ble_eq_true rfl⟩) (rc1 hK (kC_f ho (inb_lt h4))) rfl rfl (Nat.le_of_ble_eq_true rfl) (by decide) dX3_stopBlowingAgainst_34 (fun v6 c5 => ?_)
        refine sk_iinc (y := l2 + 1) F dX3_stopBlowingAgainst_37 2 rfl rfl (by decide) rfl ?_
        refine sk_goto F 2 dX3_stopBlowingAgainst_40 (by decide) ?_
        exact sk_lv [1, 2, 0] rfl (ih v6 (l2 + 1))
def fX3_stopBlowingAgainst (o : Nat) (p1 : Int32) (v : Mem) : Option (Mem) := fX3_stopBlowingAgainst_2 o p1 1000 v 0
set_option maxRecDepth 100000 in
set_option maxHeartbeats 4000000 in
theorem kX3_stopBlowingAgainst_0 {p : Program} {l : Launch} {e : Env} {s : State} {m : MethodId} {args : Array Value} {below : List Frame} {meth : Method} {c : Code} {D : va_G} {A : Nat → Prop} {cI cS cF cZ cJ : ClassId} {ad : Nat → Nat} {X : va_W} {n : Nat} {o : Nat} {p1 : Int32} (G : cx p s m args meth c cX3_stopBlowingAgainst 3 wsX3_stopBlowingAgainst RX3 D (ty5 cI cS cF cZ cJ) A none) (hn : n ≤ 24) (ho : kC n o = 3) (v : Mem) : sk p l e rmX3_stopBlowingAgainst s m args below meth c D A 3 0 0 (fun res => MQ below (qv D A (ty5 cI cS cF cZ cJ) (Wc cI cS cF ad n X) res) args s 0 0 A) (Wc cI cS cF ad n X v) 0 [(0, .ref (ad o)), (1, .int p1)] [] (fX3_stopBlowingAgainst o p1 v) := by
  obtain ⟨F, hK, hA, hZ, hr, hlocks⟩ := G
  refine sk_eq (K' := fX3_stopBlowingAgainst_2 o p1 1000 v 0) rfl ?_
  refine sk_iconst (x := 0) F dX3_stopBlowingAgainst_0 (by decide) ?_
  refine sk_istore_n F dX3_stopBlowingAgainst_1 rfl (by decide) rfl ?_
  exact sk_lv [1, 2, 0] rfl (kX3_stopBlowingAgainst_2 ⟨F, hK, hA, hZ, hr, hlocks⟩ hn ho 1000 v 0)
theorem tX3_stopBlowingAgainst {l : Launch} {D : va_G} {A : Nat → Prop} {cI cS cF cZ cJ : ClassId} {ad : Nat → Nat} {X : va_W} {n : Nat} (hn : n ≤ 24) {o : Nat} {p1 : Int32} (ho : kC n o = 3) (v : Mem) : CV l yX3_stopBlowingAgainst wsX3_stopBlowingAgainst rmX3_stopBlowingAgainst D A (ty5 cI cS cF cZ cJ) (Wc cI cS cF ad n X) [.ref (ad o), .int p1] v (fX3_stopBlowingAgainst o p1 v) :=
  CV_of (cc := cX3_stopBlowingAgainst) (maxL := 3) (ret := none) (by decide) rfl (Nat.le_of_ble_eq_true rfl) (fun p e s m below meth c G => kX3_stopBlowingAgainst_0 G hn ho v)
def rmX3_longestRun : Room := { frames := 0, cells := 0, slots := 0, locals := 0 }
theorem iX3_longestRun_1 : ∀ w ∈ wsX10, w ∈ wsX3_longestRun := by decide +kernel
theorem iX3_longestRun_3 : ∀ w ∈ wsX30, w ∈ wsX3_longestRun := by decide +kernel
def fX3_longestRun_87 (kb4 : Mem → Int32 → Int32 → Option (Int32 × Mem)) (o : Nat) (p1 : Int32) (v : Mem) (l3 : Int32) : Option (Int32 × Mem) := kb4 v l3 (l3 + 1)
set_option maxRecDepth 100000 in
set_option maxHeartbeats 4000000 in
theorem kX3_longestRun_87 {p : Program} {l : Launch} {e : Env} {s : State} {m : MethodId} {args : Array Value} {below : List Frame} {meth : Method} {c : Code} {D : va_G} {A : Nat → Prop} {cI cS cF cZ cJ : ClassId} {ad : Nat → Nat} {X : va_W} {n : Nat} {o : Nat} {p1 : Int32} {kb4 : Mem → Int32 → Int32 → Option (Int32 × Mem)} (G : cx p s m args meth c cX3_longestRun 6 wsX3_longestRun RX3 D (ty5 cI cS cF cZ cJ) A (some .int)) (hn : n ≤ 24) (ho : kC n o = 3) (hkb4 : ∀ (v : Mem) (l2 : Int32) (l3 : Int32), sk p l e rmX3_longestRun s m args below meth c D A 6 0 0 (fun res => MQ below (qi D A (ty5 cI cS cF cZ cJ) (Wc cI cS cF ad n X) res) args s 0 0 A) (Wc cI cS cF ad n X v) 4 [(0, .ref (ad o)), (1, .int p1), (2, .int l2), (3, .int l3)] [] (kb4 v l2 l3)) (v : Mem) (l3 : Int32) : sk p l e rmX3_longestRun s m args below meth c D A 6 0 0 (fun res => MQ below (qi D A (ty5 cI cS cF cZ cJ) (Wc cI cS cF ad n X) res) args s 0 0 A) (Wc cI cS cF ad n X v) 87 [(0, .ref (ad o)), (1, .int p1), (3, .int l3)] [] (fX3_longestRun_87 kb4 o p1 v l3) := by
  obtain ⟨F, hK, hA, hZ, hr, hlocks⟩ := G
  refine sk_eq (K' := kb4 v l3 (l3 + 1)) rfl ?_
  refine sk_iload_n F dX3_longestRun_87 rfl 2 rfl ?_
  refine sk_istore_n F dX3_longestRun_88 rfl (by decide) rfl ?_
  refine sk_iinc (y := l3 + 1) F dX3_longestRun_89 3 rfl rfl (by decide) rfl ?_
  refine sk_goto F 4 dX3_longestRun_92 (by decide) ?_
  exact sk_lv [2, 3, 1, 0] rfl (hkb4 v l3 (l3 + 1))
def fX3_longestRun_54 (kb4 : Mem → Int32 → Int32 → Option (Int32 × Mem)) (o : Nat) (p1 : Int32) (v : Mem) (l2 : Int32) (l3 : Int32) (s0 : Int32) : Option (Int32 × Mem) := if s0 = 0 then kb4 v l2 (l3 + 1) else if l2 = (-1) then fX3_longestRun_87 kb4 o p1 v l3 else gd (inb l3 12) (gd (inb l2 12) (if (v (o + 5 + l3.toNatClampNeg) 7) ≤ (v (o + 5 + l2.toNatClampNeg) 7) then kb4 v l2 (l3 + 1) else fX3_longestRun_87 kb4 o p1 v l3))
set_option maxRecDepth 100000 in
set_option maxHeartbeats 4000000 in
theorem kX3_longestRun_54 {p : Program} {l : Launch} {e : Env} {s : State} {m : MethodId} {args : Array Value} {below : List Frame} {meth : Method} {c : Code} {D : va_G} {A : Nat → Prop} {cI cS cF cZ cJ : ClassId} {ad : Nat → Nat} {X : va_W} {n : Nat} {o : Nat} {p1 : Int32} {kb4 : Mem → Int32 → Int32 → Option (Int32 × Mem)} (G : cx p s m args meth c cX3_longestRun 6 wsX3_longestRun RX3 D (ty5 cI cS cF cZ cJ) A (some .int)) (hn : n ≤ 24) (ho : kC n o = 3) (hkb4 : ∀ (v : Mem) (l2 : Int32) (l3 : Int32), sk p l e rmX3_longestRun s m args below meth c D A 6 0 0 (fun res => MQ below (qi D A (ty5 cI cS cF cZ cJ) (Wc cI cS cF ad n X) res) args s 0 0 A) (Wc cI cS cF ad n X v) 4 [(0, .ref (ad o)), (1, .int p1), (2, .int l2), (3, .int l3)] [] (kb4 v l2 l3)) (v : Mem) (l2 : Int32) (l3 : Int32) (s0 : Int32) : sk p l e rmX3_longestRun s m args below meth c D A 6 0 0 (fun res => MQ below (qi D A (ty5 cI cS cF cZ cJ) (Wc cI cS cF ad n X) res) args s 0 0 A) (Wc cI cS cF ad n X v) 54 [(0, .ref (ad o)), (1, .int p1), (2, .int l2), (3, .int l3)] [.int s0] (fX3_longestRun_54 kb4 o p1 v l2 l3 s0) := by
  obtain ⟨F, hK, hA, hZ, hr, hlocks⟩ := G
  refine sk_eq (K' := if s0 = 0 then kb4 v l2 (l3 + 1) else if l2 = (-1) then fX3_longestRun_87 kb4 o p1 v l3 else gd (inb l3 12) (gd (inb l2 12) (if (v (o + 5 + l3.toNatClampNeg) 7) ≤ (v (o + 5 + l2.toNatClampNeg) 7) then kb4 v l2 (l3 + 1) else fX3_longestRun_87 kb4 o p1 v l3))) rfl ?_
  refine sk_istore F dX3_longestRun_54 (by decide) rfl ?_
  refine sk_iload F dX3_longestRun_56 0 rfl ?_
  refine sk_if_eq F 89 dX3_longestRun_58 (by decide) (fun h6 => ?_) (fun h6 => ?_)
  · refine sk_iinc (y := l3 + 1) F dX3_longestRun_89 4 rfl rfl (by decide) rfl ?_
    refine sk_goto F 4 dX3_longestRun_92 (by decide) ?_
    exact sk_lv [2, 3, 4, 0] rfl (hkb4 v l2 (l3 + 1))
  · refine sk_iload_n F dX3_longestRun_61 rfl 3 rfl ?_
    refine sk_iconst (x := (-1)) F dX3_longestRun_62 (by decide) ?_
    refine sk_icmp_eq F 87 dX3_longestRun_63 (by decide) (fun h7 => ?_) (fun h7 => ?_)
    · exact sk_lv [1, 2, 4] rfl (kX3_longestRun_87 ⟨F, hK, hA, hZ, hr, hlocks⟩ hn ho hkb4 v l3)
    · refine sk_aload_n F dX3_longestRun_66 rfl 1 rfl ?_
      refine sk_g3 (ref := "TunnelWatch$Tube") F hK ho iX3_longestRun_3 3 (by decide) (by decide +kernel) (fun _ h9 => h9) rfl dX3_longestRun_67 ?_
      refine sk_iload_n F dX3_longestRun_70 rfl 4 rfl ?_
      refine sk_aldF F hK ho dX3_longestRun_71 (fun h8 => ?_)
      refine sk_g1 (ref := "TunnelWatch$Fan") F hK (kC_f ho (inb_lt h8)) iX3_longestRun_1 7 (by decide) (by decide +kernel) (fun _ h9 => h9) rfl dX3_longestRun_72 ?_
      refine sk_aload_n F dX3_longestRun_75 rfl 1 rfl ?_
      refine sk_g3 (ref := "TunnelWatch$Tube") F hK ho iX3_longestRun_3 3 (by decide) (by decide +kernel) (fun _ h9 => h9) rfl dX3_longestRun_76 ?_
      refine sk_iload_n F dX3_longestRun_79 rfl 3 rfl ?_
      refine sk_aldF F hK ho dX3_longestRun_80 (fun h9 => ?_)
      refine sk_g1 (ref := "TunnelWatch$Fan") F hK (kC_f ho (inb_lt h9)) iX3_longestRun_1 7 (by decide) (by decide +kernel) (fun _ h9 => h9) rfl dX3_longestRun_81 ?_
      refine sk_icmp_le F 89 dX3_longestRun_84 (by decide) (fun h10 => ?_) (fun h10 => ?_)
      · refine sk_iinc (y := l3 + 1) F dX3_longestRun_89 4 rfl rfl (by decide) rfl ?_
        refine sk_goto F 4 dX3_longestRun_92 (by decide) ?_
        exact sk_lv [2, 3, 4, 0] rfl (hkb4 v l2 (l3 + 1))
      · exact sk_lv [1, 2, 4] rfl (kX3_longestRun_87 ⟨F, hK, hA, hZ, hr, hlocks⟩ hn ho hkb4 v l3)
def fX3_longestRun_4 (o : Nat) (p1 : Int32) : Nat → Mem → Int32 → Int32 → Option (Int32 × Mem)
  | 0, _, _, _ => none
  | fuel + 1, v, l2, l3 => if (v o 4) ≤ l3 then some (l2, v) else gd (inb l3 12) (if p1 = 0 then if (v (o + 5 + l3.toNatClampNeg) 0) = (v o 8) then fX3_longestRun_54 (fun v l2 l3 => fX3_longestRun_4 o p1 fuel v l2 l3) o p1 v l2 l3 1 else fX3_longestRun_54 (fun v l2 l3 => fX3_longestRun_4 o p1 fuel v l2 l3) o p1 v l2 l3 0 else if (v (o + 5 + l3.toNatClampNeg) 0) = 0 then fX3_longestRun_54 (fun v l2 l3 => fX3_longestRun_4 o p1 fuel v l2 l3) o p1 v l2 l3 0 else fX3_longestRun_54 (fun v l2 l3 => fX3_longestRun_4 o p1 fuel v l2 l3) o p1 v l2 l3 1)
set_option maxRecDepth 100000 in
set_option maxHeartbeats 4000000 in
theorem kX3_longestRun_4 {p : Program} {l : Launch} {e : Env} {s : State} {m : MethodId} {args : Array Value} {below : List Frame} {meth : Method} {c : Code} {D : va_G} {A : Nat → Prop} {cI cS cF cZ cJ : ClassId} {ad : Nat → Nat} {X : va_W} {n : Nat} {o : Nat} {p1 : Int32} (G : cx p s m args meth c cX3_longestRun 6 wsX3_longestRun RX3 D (ty5 cI cS cF cZ cJ) A (some .int)) (hn : n ≤ 24) (ho : kC n o = 3) : ∀ (fuel : Nat) (v : Mem) (l2 : Int32) (l3 : Int32), sk p l e rmX3_longestRun s m args below meth c D A 6 0 0 (fun res => MQ below (qi D A (ty5 cI cS cF cZ cJ) (Wc cI cS cF ad n X) res) args s 0 0 A) (Wc cI cS cF ad n X v) 4 [(0, .ref (ad o)), (1, .int p1), (2, .int l2), (3, .int l3)] [] (fX3_longestRun_4 o p1 fuel v l2 l3) := by
  obtain ⟨F, hK, hA, hZ, hr, hlocks⟩ := G
  intro fuel
  induction fuel with
  | zero => intro v l2 l3; exact sk_none
  | succ fuel ih =>
    intro v l2 l3
    refine sk_eq (K' := if (v o 4) ≤ l3 then some (l2, v) else gd (inb l3 12) (if p1 = 0 then if (v (o + 5 + l3.toNatClampNeg) 0) = (v o 8) then fX3_longestRun_54 (fun v l2 l3 => fX3_longestRun_4 o p1 fuel v l2 l3) o p1 v l2 l3 1 else fX3_longestRun_54 (fun v l2 l3 => fX3_longestRun_4 o p1 fuel v l2 l3) o p1 v l2 l3 0 else if (v (o + 5 + l3.toNatClampNeg) 0) = 0 then fX3_longestRun_54 (fun v l2 l3 => fX3_longestRun_4 o p1 fuel v l2 l3) o p1 v l2 l3 0 else fX3_longestRun_54 (fun v l2 l3 => fX3_longestRun_4 o p1 fuel v l2 l3) o p1 v l2 l3 1)) rfl ?_
    refine sk_iload_n F dX3_longestRun_4 rfl 3 rfl ?_
    refine sk_aload_n F dX3_longestRun_5 rfl 0 rfl ?_
    refine sk_g3 (ref := "TunnelWatch$Tube") F hK ho iX3_longestRun_3 4 (by decide) (by decide +kernel) (fun _ h9 => h9) rfl dX3_longestRun_6 ?_
    refine sk_icmp_ge F 95 dX3_longestRun_9 (by decide) (fun h1 => ?_) (fun h1 => ?_)
    · refine sk_iload_n F dX3_longestRun_95 rfl 2 rfl ?_
      exact sk_iret F hK hr hlocks dX3_longestRun_96
    · refine sk_aload_n F dX3_longestRun_12 rfl 0 rfl ?_
      refine sk_g3 (ref := "TunnelWatch$Tube") F hK ho iX3_longestRun_3 3 (by decide) (by decide +kernel) (fun _ h9 => h9) rfl dX3_longestRun_13 ?_
      refine sk_iload_n F dX3_longestRun_16 rfl 3 rfl ?_
      refine sk_aldF F hK ho dX3_longestRun_17 (fun h2 => ?_)
      refine sk_g1 (ref := "TunnelWatch$Fan") F hK (kC_f ho (inb_lt h2)) iX3_longestRun_1 0 (by decide) (by decide +kernel) (u_same (F.2.2.2.2 (.sameField "TunnelWatch$Fan" "TunnelWatch$Device" "command" "I") (by decide +kernel))) rfl dX3_longestRun_18 ?_
      refine sk_istore F dX3_longestRun_21 (by decide) rfl ?_
      refine sk_iload_n F dX3_longestRun_23 rfl 2 rfl ?_
      refine sk_if_eq F 40 dX3_longestRun_24 (by decide) (fun h3 => ?_) (fun h3 => ?_)
      · refine sk_iload F dX3_longestRun_40 0 rfl ?_
        refine sk_aload_n F dX3_longestRun_42 rfl 1 rfl ?_
        refine sk_g3 (ref := "TunnelWatch$Tube") F hK ho iX3_longestRun_3 8 (by decide) (by decide +kernel) (fun _ h9 => h9) rfl dX3_longestRun_43 ?_
        refine sk_icmp_ne F 53 dX3_longestRun_46 (by decide) (fun h4 => ?_) (fun h4 => ?_)
        · refine sk_iconst (x := 0) F dX3_longestRun_53 (by decide) ?_
          exact sk_lv [1, 2, 3, 4] rfl (kX3_longestRun_54 ⟨F, hK, hA, hZ, hr, hlocks⟩ hn ho ih v l2 l3 0)
        · refine sk_iconst (x := 1) F dX3_longestRun_49 (by decide) ?_
          refine sk_goto F 54 dX3_longestRun_50 (by decide) ?_
          exact sk_lv [1, 2, 3, 4] rfl (kX3_longestRun_54 ⟨F, hK, hA, hZ, hr, hlocks⟩ hn ho ih v l2 l3 1)
      · refine sk_iload F dX3_longestRun_27 0 rfl ?_
        refine sk_if_eq F 36 dX3_longestRun_29 (by decide) (fun h5 => ?_) (fun h5 => ?_)
        · refine sk_iconst (x := 0) F dX3_longestRun_36 (by decide) ?_
          refine sk_goto F 54 dX3_longestRun_37 (by decide) ?_
          exact sk_lv [1, 2, 3, 4] rfl (kX3_longestRun_54 ⟨F, hK, hA, hZ, hr, hlocks⟩ hn ho ih v l2 l3 0)
        · refine sk_iconst (x := 1) F dX3_longestRun_32 (by decide) ?_
          refine sk_goto F 54 dX3_longestRun_33 (by decide) ?_
          exact sk_lv [1, 2, 3, 4] rfl (kX3_longestRun_54 ⟨F, hK, hA, hZ, hr, hlocks⟩ hn ho ih v l2 l3 1)
def fX3_longestRun (o : Nat) (p1 : Int32) (v : Mem) : Option (Int32 × Mem) := fX3_longestRun_4 o p1 1000 v (-1) 0
set_option maxRecDepth 100000 in
set_option maxHeartbeats 4000000 in
theorem kX3_longestRun_0 {p : Program} {l : Launch} {e : Env} {s : State} {m : MethodId} {args : Array Value} {below : List Frame} {meth : Method} {c : Code} {D : va_G} {A : Nat → Prop} {cI cS cF cZ cJ : ClassId} {ad : Nat → Nat} {X : va_W} {n : Nat} {o : Nat} {p1 : Int32} (G : cx p s m args meth c cX3_longestRun 6 wsX3_longestRun RX3 D (ty5 cI cS cF cZ cJ) A (some .int)) (hn : n ≤ 24) (ho : kC n o = 3) (v : Mem) : sk p l e rmX3_longestRun s m args below meth c D A 6 0 0 (fun res => MQ below (qi D A (ty5 cI cS cF cZ cJ) (Wc cI cS cF ad n X) res) args s 0 0 A) (Wc cI cS cF ad n X v) 0 [(0, .ref (ad o)), (1, .int p1)] [] (fX3_longestRun o p1 v) := by
  obtain ⟨F, hK, hA, hZ, hr, hlocks⟩ := G
  refine sk_eq (K' := fX3_longestRun_4 o p1 1000 v (-1) 0) rfl ?_
  refine sk_iconst (x := (-1)) F dX3_longestRun_0 (by decide) ?_
  refine sk_istore_n F dX3_longestRun_1 rfl (by decide) rfl ?_
  refine sk_iconst (x := 0) F dX3_longestRun_2 (by decide) ?_
  refine sk_istore_n F dX3_longestRun_3 rfl (by decide) rfl ?_
  exact sk_lv [2, 3, 1, 0] rfl (kX3_longestRun_4 ⟨F, hK, hA, hZ, hr, hlocks⟩ hn ho 1000 v (-1) 0)
theorem tX3_longestRun {l : Launch} {D : va_G} {A : Nat → Prop} {cI cS cF cZ cJ : ClassId} {ad : Nat → Nat} {X : va_W} {n : Nat} (hn : n ≤ 24) {o : Nat} {p1 : Int32} (ho : kC n o = 3) (v : Mem) : CI l yX3_longestRun wsX3_longestRun rmX3_longestRun D A (ty5 cI cS cF cZ cJ) (Wc cI cS cF ad n X) [.ref (ad o), .int p1] v (fX3_longestRun o p1 v) :=
  CI_of (cc := cX3_longestRun) (maxL := 6) (ret := (some .int)) (by decide) rfl (Nat.le_of_ble_eq_true rfl) (fun p e s m below meth c G => kX3_longestRun_0 G hn ho v)
def rmX3_stopAt : Room := { frames := 2, cells := 0, slots := 0, locals := 43 }
theorem iX3_stopAt_3 : ∀ w ∈ wsX30, w ∈ wsX3_stopAt := by decide +kernel
def fX3_stopAt (o : Nat) (p1 : Int32) (p2 : Int32) (v : Mem) : Option (Mem) := if p1 = (-1) then some v else gd (inb p1 12) ((fX1_stand (o + 5 + p1.toNatClampNeg) p2 v).bind fun v4 => some v4)
set_option maxRecDepth 100000 in
set_option maxHeartbeats 4000000 in
theorem kX3_stopAt_0 {p : Program} {l : Launch} {e : Env} {s : State} {m : MethodId} {args : Array Value} {below : List Frame} {meth : Method} {c : Code} {D : va_G} {A : Nat → Prop} {cI cS cF cZ cJ : ClassId} {ad : Nat → Nat} {X : va_W} {n : Nat} {o : Nat} {p1 : Int32} {p2 : Int32} (G : cx p s m args meth c cX3_stopAt 3 wsX3_stopAt RX3 D (ty5 cI cS cF cZ cJ) A none) (hn : n ≤ 24) (ho : kC n o = 3) (v : Mem) : sk p l e rmX3_stopAt s m args below meth c D A 3 0 0 (fun res => MQ below (qv D A (ty5 cI cS cF cZ cJ) (Wc cI cS cF ad n X) res) args s 0 0 A) (Wc cI cS cF ad n X v) 0 [(0, .ref (ad o)), (1, .int p1), (2, .int p2)] [] (fX3_stopAt o p1 p2 v) := by
  obtain ⟨F, hK, hA, hZ, hr, hlocks⟩ := G
  refine sk_eq (K' := if p1 = (-1) then some v else gd (inb p1 12) ((fX1_stand (o + 5 + p1.toNatClampNeg) p2 v).bind fun v4 => some v4)) rfl ?_
  refine sk_iload_n F dX3_stopAt_0 rfl 1 rfl ?_
  refine sk_iconst (x := (-1)) F dX3_stopAt_1 (by decide) ?_
  refine sk_icmp_eq F 15 dX3_stopAt_2 (by decide) (fun h1 => ?_) (fun h1 => ?_)
  · exact sk_vret F hK hr hlocks dX3_stopAt_15
  · refine sk_aload_n F dX3_stopAt_5 rfl 0 rfl ?_
    refine sk_g3 (ref := "TunnelWatch$Tube") F hK ho iX3_stopAt_3 3 (by decide) (by decide +kernel) (fun _ h9 => h9) rfl dX3_stopAt_6 ?_
    refine sk_iload_n F dX3_stopAt_9 rfl 1 rfl ?_
    refine sk_aldF F hK ho dX3_stopAt_10 (fun h2 => ?_)
    refine sk_iload_n F dX3_stopAt_11 rfl 2 rfl ?_
    refine sk_callVv (As := [.int p2]) (rest := []) F hK hA hZ _ (tX1_stand hn (kC_f ho (inb_lt h2)) _) (cwV 1 F.2.2.2.2 gX3_stopAt_X1_stand rfl rfl rfl (by decide +kernel) ⟨Nat.le_of_ble_eq_true rfl, Nat.le_of_ble_eq_true rfl⟩) (rc1 hK (kC_f ho (inb_lt h2))) rfl rfl (Nat.le_of_ble_eq_true rfl) (by decide) dX3_stopAt_12 (fun v4 c3 => ?_)
    exact sk_vret F hK hr hlocks dX3_stopAt_15
theorem tX3_stopAt {l : Launch} {D : va_G} {A : Nat → Prop} {cI cS cF cZ cJ : ClassId} {ad : Nat → Nat} {X : va_W} {n : Nat} (hn : n ≤ 24) {o : Nat} {p1 : Int32} {p2 : Int32} (ho : kC n o = 3) (v : Mem) : CV l yX3_stopAt wsX3_stopAt rmX3_stopAt D A (ty5 cI cS cF cZ cJ) (Wc cI cS cF ad n X) [.ref (ad o), .int p1, .int p2] v (fX3_stopAt o p1 p2 v) :=
  CV_of (cc := cX3_stopAt) (maxL := 3) (ret := none) (by decide) rfl (Nat.le_of_ble_eq_true rfl) (fun p e s m below meth c G => kX3_stopAt_0 G hn ho v)
def rmX3_stopFans : Room := { frames := 3, cells := 0, slots := 0, locals := 65 }
theorem iX3_stopFans_3 : ∀ w ∈ wsX30, w ∈ wsX3_stopFans := by decide +kernel
def fX3_stopFans_34 (o : Nat) (p1 : Int32) (p2 : Int32) : Nat → Mem → Int32 → Int32 → Option (Mem)
  | 0, _, _, _ => none
  | fuel + 1, v, l3, l4 => if l3 ≤ l4 then some v else bd (fX3_longestRun o 0 v) fun x15 v14 => (fX3_stopAt o x15 p2 v14).bind fun v17 => fX3_stopFans_34 o p1 p2 fuel v17 l3 (l4 + 1)
set_option maxRecDepth 100000 in
set_option maxHeartbeats 4000000 in
theorem kX3_stopFans_34 {p : Program} {l : Launch} {e : Env} {s : State} {m : MethodId} {args : Array Value} {below : List Frame} {meth : Method} {c : Code} {D : va_G} {A : Nat → Prop} {cI cS cF cZ cJ : ClassId} {ad : Nat → Nat} {X : va_W} {n : Nat} {o : Nat} {p1 : Int32} {p2 : Int32} (G : cx p s m args meth c cX3_stopFans 5 wsX3_stopFans RX3 D (ty5 cI cS cF cZ cJ) A none) (hn : n ≤ 24) (ho : kC n o = 3) : ∀ (fuel : Nat) (v : Mem) (l3 : Int32) (l4 : Int32), sk p l e rmX3_stopFans s m args below meth c D A 5 0 0 (fun res => MQ below (qv D A (ty5 cI cS cF cZ cJ) (Wc cI cS cF ad n X) res) args s 0 0 A) (Wc cI cS cF ad n X v) 34 [(0, .ref (ad o)), (2, .int p2), (3, .int l3), (4, .int l4)] [] (fX3_stopFans_34 o p1 p2 fuel v l3 l4) := by
  obtain ⟨F, hK, hA, hZ, hr, hlocks⟩ := G
  intro fuel
  induction fuel with
  | zero => intro v l3 l4; exact sk_none
  | succ fuel ih =>
    intro v l3 l4
    refine sk_eq (K' := if l3 ≤ l4 then some v else bd (fX3_longestRun o 0 v) fun x15 v14 => (fX3_stopAt o x15 p2 v14).bind fun v17 => fX3_stopFans_34 o p1 p2 fuel v17 l3 (l4 + 1)) rfl ?_
    refine sk_iload F dX3_stopFans_34 3 rfl ?_
    refine sk_iload_n F dX3_stopFans_36 rfl 2 rfl ?_
    refine sk_icmp_ge F 56 dX3_stopFans_37 (by decide) (fun h12 => ?_) (fun h12 => ?_)
    · exact sk_vret F hK hr hlocks dX3_stopFans_56
    · refine sk_aload_n F dX3_stopFans_40 rfl 0 rfl ?_
      refine sk_aload_n F dX3_stopFans_41 rfl 0 rfl ?_
      refine sk_iconst (x := 0) F dX3_stopFans_42 (by decide) ?_
      refine sk_callVi (As := [.int 0]) (rest := [.ref (ad o)]) F hK hA hZ _ (tX3_longestRun hn ho _) (cwV 1 F.2.2.2.2 gX3_stopFans_X3_longestRun rfl rfl rfl (by decide +kernel) ⟨Nat.le_of_ble_eq_true rfl, Nat.le_of_ble_eq_true rfl⟩) (rc3 hK ho) rfl rfl (Nat.le_of_ble_eq_true rfl) (by decide) dX3_stopFans_43 (fun x15 v14 c13 => ?_)
      refine sk_iload_n F dX3_stopFans_46 rfl 1 rfl ?_
      refine sk_callVv (As := [.int x15, .int p2]) (rest := []) F hK hA hZ _ (tX3_stopAt hn ho _) (cwV 2 F.2.2.2.2 gX3_stopFans_X3_stopAt rfl rfl rfl (by decide +kernel) ⟨Nat.le_of_ble_eq_true rfl, Nat.le_of_ble_eq_true rfl⟩) (rc3 hK ho) rfl rfl (Nat.le_of_ble_eq_true rfl) (by decide) dX3_stopFans_47 (fun v17 c16 => ?_)
      refine sk_iinc (y := l4 + 1) F dX3_stopFans_50 3 rfl rfl (by decide) rfl ?_
      refine sk_goto F 34 dX3_stopFans_53 (by decide) ?_
      exact sk_lv [1, 2, 3, 0] rfl (ih v17 l3 (l4 + 1))
def fX3_stopFans_17 (o : Nat) (p1 : Int32) (p2 : Int32) (v : Mem) : Option (Mem) := bd (fX3_countBlowing o (v o 8) v) fun x11 v10 => fX3_stopFans_34 o p1 p2 1000 v10 (x11 - (v10 o 9)) 0
set_option maxRecDepth 100000 in
set_option maxHeartbeats 4000000 in
theorem kX3_stopFans_17 {p : Program} {l : Launch} {e : Env} {s : State} {m : MethodId} {args : Array Value} {below : List Frame} {meth : Method} {c : Code} {D : va_G} {A : Nat → Prop} {cI cS cF cZ cJ : ClassId} {ad : Nat → Nat} {X : va_W} {n : Nat} {o : Nat} {p1 : Int32} {p2 : Int32} (G : cx p s m args meth c cX3_stopFans 5 wsX3_stopFans RX3 D (ty5 cI cS cF cZ cJ) A none) (hn : n ≤ 24) (ho : kC n o = 3) (v : Mem) : sk p l e rmX3_stopFans s m args below meth c D A 5 0 0 (fun res => MQ below (qv D A (ty5 cI cS cF cZ cJ) (Wc cI cS cF ad n X) res) args s 0 0 A) (Wc cI cS cF ad n X v) 17 [(0, .ref (ad o)), (2, .int p2)] [] (fX3_stopFans_17 o p1 p2 v) := by
  obtain ⟨F, hK, hA, hZ, hr, hlocks⟩ := G
  refine sk_eq (K' := bd (fX3_countBlowing o (v o 8) v) fun x11 v10 => fX3_stopFans_34 o p1 p2 1000 v10 (x11 - (v10 o 9)) 0) rfl ?_
  refine sk_aload_n F dX3_stopFans_17 rfl 0 rfl ?_
  refine sk_aload_n F dX3_stopFans_18 rfl 0 rfl ?_
  refine sk_g3 (ref := "TunnelWatch$Tube") F hK ho iX3_stopFans_3 8 (by decide) (by decide +kernel) (fun _ h9 => h9) rfl dX3_stopFans_19 ?_
  refine sk_callVi (As := [.int (v o 8)]) (rest := []) F hK hA hZ _ (tX3_countBlowing hn ho _) (cwV 1 F.2.2.2.2 gX3_stopFans_X3_countBlowing rfl rfl rfl (by decide +kernel) ⟨Nat.le_of_ble_eq_true rfl, Nat.le_of_ble_eq_true rfl⟩) (rc3 hK ho) rfl rfl (Nat.le_of_ble_eq_true rfl) (by decide) dX3_stopFans_22 (fun x11 v10 c9 => ?_)
  refine sk_aload_n F dX3_stopFans_25 rfl 0 rfl ?_
  refine sk_g3 (ref := "TunnelWatch$Tube") F hK ho iX3_stopFans_3 9 (by decide) (by decide +kernel) (fun _ h9 => h9) rfl dX3_stopFans_26 ?_
  refine sk_isub F dX3_stopFans_29 ?_
  refine sk_istore_n F dX3_stopFans_30 rfl (by decide) rfl ?_
  refine sk_iconst (x := 0) F dX3_stopFans_31 (by decide) ?_
  refine sk_istore F dX3_stopFans_32 (by decide) rfl ?_
  exact sk_lv [2, 3, 1, 0] rfl (kX3_stopFans_34 ⟨F, hK, hA, hZ, hr, hlocks⟩ hn ho 1000 v10 (x11 - (v10 o 9)) 0)
def fX3_stopFans_12 (o : Nat) (p1 : Int32) (p2 : Int32) (v : Mem) : Option (Mem) := (fX3_stopBlowingAgainst o p2 v).bind fun v7 => fX3_stopFans_17 o p1 p2 v7
set_option maxRecDepth 100000 in
set_option maxHeartbeats 4000000 in
theorem kX3_stopFans_12 {p : Program} {l : Launch} {e : Env} {s : State} {m : MethodId} {args : Array Value} {below : List Frame} {meth : Method} {c : Code} {D : va_G} {A : Nat → Prop} {cI cS cF cZ cJ : ClassId} {ad : Nat → Nat} {X : va_W} {n : Nat} {o : Nat} {p1 : Int32} {p2 : Int32} (G : cx p s m args meth c cX3_stopFans 5 wsX3_stopFans RX3 D (ty5 cI cS cF cZ cJ) A none) (hn : n ≤ 24) (ho : kC n o = 3) (v : Mem) : sk p l e rmX3_stopFans s m args below meth c D A 5 0 0 (fun res => MQ below (qv D A (ty5 cI cS cF cZ cJ) (Wc cI cS cF ad n X) res) args s 0 0 A) (Wc cI cS cF ad n X v) 12 [(0, .ref (ad o)), (2, .int p2)] [] (fX3_stopFans_12 o p1 p2 v) := by
  obtain ⟨F, hK, hA, hZ, hr, hlocks⟩ := G
  refine sk_eq (K' := (fX3_stopBlowingAgainst o p2 v).bind fun v7 => fX3_stopFans_17 o p1 p2 v7) rfl ?_
  refine sk_aload_n F dX3_stopFans_12 rfl 0 rfl ?_
  refine sk_iload_n F dX3_stopFans_13 rfl 1 rfl ?_
  refine sk_callVv (As := [.int p2]) (rest := []) F hK hA hZ _ (tX3_stopBlowingAgainst hn ho _) (cwV 1 F.2.2.2.2 gX3_stopFans_X3_stopBlowingAgainst rfl rfl rfl (by decide +kernel) ⟨Nat.le_of_ble_eq_true rfl, Nat.le_of_ble_eq_true rfl⟩) (rc3 hK ho) rfl rfl (Nat.le_of_ble_eq_true rfl) (by decide) dX3_stopFans_14 (fun v7 c6 => ?_)
  exact kX3_stopFans_17 ⟨F, hK, hA, hZ, hr, hlocks⟩ hn ho v7
def fX3_stopFans (o : Nat) (p1 : Int32) (p2 : Int32) (v : Mem) : Option (Mem) := if p1 = 0 then fX3_stopFans_12 o p1 p2 v else bd (fX3_isHalted o p2 v) fun x4 v3 => if x4 = 0 then fX3_stopFans_17 o p1 p2 v3 else fX3_stopFans_12 o p1 p2 v3
set_option maxRecDepth 100000 in
set_option maxHeartbeats 4000000 in
theorem kX3_stopFans_0 {p : Program} {l : Launch} {e : Env} {s : State} {m : MethodId} {args : Array Value} {below : List Frame} {meth : Method} {c : Code} {D : va_G} {A : Nat → Prop} {cI cS cF cZ cJ : ClassId} {ad : Nat → Nat} {X : va_W} {n : Nat} {o : Nat} {p1 : Int32} {p2 : Int32} (G : cx p s m args meth c cX3_stopFans 5 wsX3_stopFans RX3 D (ty5 cI cS cF cZ cJ) A none) (hn : n ≤ 24) (ho : kC n o = 3) (v : Mem) : sk p l e rmX3_stopFans s m args below meth c D A 5 0 0 (fun res => MQ below (qv D A (ty5 cI cS cF cZ cJ) (Wc cI cS cF ad n X) res) args s 0 0 A) (Wc cI cS cF ad n X v) 0 [(0, .ref (ad o)), (1, .int p1), (2, .int p2)] [] (fX3_stopFans o p1 p2 v) := by
  obtain ⟨F, hK, hA, hZ, hr, hlocks⟩ := G
  refine sk_eq (K' := if p1 = 0 then fX3_stopFans_12 o p1 p2 v else bd (fX3_isHalted o p2 v) fun x4 v3 => if x4 = 0 then fX3_stopFans_17 o p1 p2 v3 else fX3_stopFans_12 o p1 p2 v3) rfl ?_
  refine sk_iload_n F dX3_stopFans_0 rfl 1 rfl ?_
  refine sk_if_eq F 12 dX3_stopFans_1 (by decide) (fun h1 => ?_) (fun h1 => ?_)
  · exact sk_lv [0, 2] rfl (kX3_stopFans_12 ⟨F, hK, hA, hZ, hr, hlocks⟩ hn ho v)
  · refine sk_aload_n F dX3_stopFans_4 rfl 0 rfl ?_
    refine sk_iload_n F dX3_stopFans_5 rfl 2 rfl ?_
    refine sk_callVi (As := [.int p2]) (rest := []) F hK hA hZ _ (tX3_isHalted hn ho _) (cwV 1 F.2.2.2.2 gX3_stopFans_X3_isHalted rfl rfl rfl (by decide +kernel) ⟨Nat.le_of_ble_eq_true rfl, Nat.le_of_ble_eq_true rfl⟩) (rc3 hK ho) rfl rfl (Nat.le_of_ble_eq_true rfl) (by decide) dX3_stopFans_6 (fun x4 v3 c2 => ?_)
    refine sk_if_eq F 17 dX3_stopFans_9 (by decide) (fun h5 => ?_) (fun h5 => ?_)
    · exact sk_lv [0, 2] rfl (kX3_stopFans_17 ⟨F, hK, hA, hZ, hr, hlocks⟩ hn ho v3)
    · exact sk_lv [0, 2] rfl (kX3_stopFans_12 ⟨F, hK, hA, hZ, hr, hlocks⟩ hn ho v3)
theorem tX3_stopFans {l : Launch} {D : va_G} {A : Nat → Prop} {cI cS cF cZ cJ : ClassId} {ad : Nat → Nat} {X : va_W} {n : Nat} (hn : n ≤ 24) {o : Nat} {p1 : Int32} {p2 : Int32} (ho : kC n o = 3) (v : Mem) : CV l yX3_stopFans wsX3_stopFans rmX3_stopFans D A (ty5 cI cS cF cZ cJ) (Wc cI cS cF ad n X) [.ref (ad o), .int p1, .int p2] v (fX3_stopFans o p1 p2 v) :=
  CV_of (cc := cX3_stopFans) (maxL := 5) (ret := none) (by decide) rfl (Nat.le_of_ble_eq_true rfl) (fun p e s m below meth c G => kX3_stopFans_0 G hn ho v)
def rmX3_stopLongestRun : Room := { frames := 3, cells := 0, slots := 0, locals := 65 }
def fX3_stopLongestRun (o : Nat) (p1 : Int32) (v : Mem) : Option (Int32 × Mem) := bd (fX3_longestRun o 1 v) fun x3 v2 => (fX3_stopAt o x3 p1 v2).bind fun v5 => if x3 = (-1) then some (0, v5) else some (1, v5)
set_option maxRecDepth 100000 in
set_option maxHeartbeats 4000000 in
theorem kX3_stopLongestRun_0 {p : Program} {l : Launch} {e : Env} {s : State} {m : MethodId} {args : Array Value} {below : List Frame} {meth : Method} {c : Code} {D : va_G} {A : Nat → Prop} {cI cS cF cZ cJ : ClassId} {ad : Nat → Nat} {X : va_W} {n : Nat} {o : Nat} {p1 : Int32} (G : cx p s m args meth c cX3_stopLongestRun 3 wsX3_stopLongestRun RX3 D (ty5 cI cS cF cZ cJ) A (some .boolean)) (hn : n ≤ 24) (ho : kC n o = 3) (v : Mem) : sk p l e rmX3_stopLongestRun s m args below meth c D A 3 0 0 (fun res => MQ below (qi D A (ty5 cI cS cF cZ cJ) (Wc cI cS cF ad n X) res) args s 0 0 A) (Wc cI cS cF ad n X v) 0 [(0, .ref (ad o)), (1, .int p1)] [] (fX3_stopLongestRun o p1 v) := by
  obtain ⟨F, hK, hA, hZ, hr, hlocks⟩ := G
  refine sk_eq (K' := bd (fX3_longestRun o 1 v) fun x3 v2 => (fX3_stopAt o x3 p1 v2).bind fun v5 => if x3 = (-1) then some (0, v5) else some (1, v5)) rfl ?_
  refine sk_aload_n F dX3_stopLongestRun_0 rfl 0 rfl ?_
  refine sk_iconst (x := 1) F dX3_stopLongestRun_1 (by decide) ?_
  refine sk_callVi (As := [.int 1]) (rest := []) F hK hA hZ _ (tX3_longestRun hn ho _) (cwV 1 F.2.2.2.2 gX3_stopLongestRun_X3_longestRun rfl rfl rfl (by decide +kernel) ⟨Nat.le_of_ble_eq_true rfl, Nat.le_of_ble_eq_true rfl⟩) (rc3 hK ho) rfl rfl (Nat.le_of_ble_eq_true rfl) (by decide) dX3_stopLongestRun_2 (fun x3 v2 c1 => ?_)
  refine sk_istore_n F dX3_stopLongestRun_5 rfl (by decide) rfl ?_
  refine sk_aload_n F dX3_stopLongestRun_6 rfl 1 rfl ?_
  refine sk_iload_n F dX3_stopLongestRun_7 rfl 0 rfl ?_
  refine sk_iload_n F dX3_stopLongestRun_8 rfl 2 rfl ?_
  refine sk_callVv (As := [.int x3, .int p1]) (rest := []) F hK hA hZ _ (tX3_stopAt hn ho _) (cwV 2 F.2.2.2.2 gX3_stopLongestRun_X3_stopAt rfl rfl rfl (by decide +kernel) ⟨Nat.le_of_ble_eq_true rfl, Nat.le_of_ble_eq_true rfl⟩) (rc3 hK ho) rfl rfl (Nat.le_of_ble_eq_true rfl) (by decide) dX3_stopLongestRun_9 (fun v5 c4 => ?_)
  refine sk_iload_n F dX3_stopLongestRun_12 rfl 0 rfl ?_
  refine sk_iconst (x := (-1)) F dX3_stopLongestRun_13 (by decide) ?_
  refine sk_icmp_eq F 21 dX3_stopLongestRun_14 (by decide) (fun h7 => ?_) (fun h7 => ?_)
  · refine sk_iconst (x := 0) F dX3_stopLongestRun_21 (by decide) ?_
    exact sk_zretc F hK hr hlocks (by decide) dX3_stopLongestRun_22
  · refine sk_iconst (x := 1) F dX3_stopLongestRun_17 (by decide) ?_
    refine sk_goto F 22 dX3_stopLongestRun_18 (by decide) ?_
    exact sk_zretc F hK hr hlocks (by decide) dX3_stopLongestRun_22
theorem tX3_stopLongestRun {l : Launch} {D : va_G} {A : Nat → Prop} {cI cS cF cZ cJ : ClassId} {ad : Nat → Nat} {X : va_W} {n : Nat} (hn : n ≤ 24) {o : Nat} {p1 : Int32} (ho : kC n o = 3) (v : Mem) : CI l yX3_stopLongestRun wsX3_stopLongestRun rmX3_stopLongestRun D A (ty5 cI cS cF cZ cJ) (Wc cI cS cF ad n X) [.ref (ad o), .int p1] v (fX3_stopLongestRun o p1 v) :=
  CI_of (cc := cX3_stopLongestRun) (maxL := 3) (ret := (some .boolean)) (by decide) rfl (Nat.le_of_ble_eq_true rfl) (fun p e s m below meth c G => kX3_stopLongestRun_0 G hn ho v)
def rmX3_isReady : Room := { frames := 2, cells := 0, slots := 0, locals := 46 }
theorem iX3_isReady_1 : ∀ w ∈ wsX10, w ∈ wsX3_isReady := by decide +kernel
theorem iX3_isReady_3 : ∀ w ∈ wsX30, w ∈ wsX3_isReady := by decide +kernel
def fX3_isReady_31 (o : Nat) (q1 : Nat) (p2 : Int32) (p3 : Int32) (v : Mem) : Option (Int32 × Mem) := some (0, v)
set_option maxRecDepth 100000 in
set_option maxHeartbeats 4000000 in
theorem kX3_isReady_31 {p : Program} {l : Launch} {e : Env} {s : State} {m : MethodId} {args : Array Value} {below : List Frame} {meth : Method} {c : Code} {D : va_G} {A : Nat → Prop} {cI cS cF cZ cJ : ClassId} {ad : Nat → Nat} {X : va_W} {n : Nat} {o : Nat} {q1 : Nat} {p2 : Int32} {p3 : Int32} (G : cx p s m args meth c cX3_isReady 4 wsX3_isReady RX3 D (ty5 cI cS cF cZ cJ) A (some .boolean)) (hn : n ≤ 24) (ho : kC n o = 3) (hq1 : kC n q1 = 1) (v : Mem) : sk p l e rmX3_isReady s m args below meth c D A 4 0 0 (fun res => MQ below (qi D A (ty5 cI cS cF cZ cJ) (Wc cI cS cF ad n X) res) args s 0 0 A) (Wc cI cS cF ad n X v) 31 [] [] (fX3_isReady_31 o q1 p2 p3 v) := by
  obtain ⟨F, hK, hA, hZ, hr, hlocks⟩ := G
  refine sk_eq (K' := some (0, v)) rfl ?_
  refine sk_iconst (x := 0) F dX3_isReady_31 (by decide) ?_
  exact sk_zretc F hK hr hlocks (by decide) dX3_isReady_32
def fX3_isReady (o : Nat) (q1 : Nat) (p2 : Int32) (p3 : Int32) (v : Mem) : Option (Int32 × Mem) := if (v q1 0) = 0 then if (v q1 5) = 0 then bd (fX1_hasRested q1 (v o 8) p2 p3 v) fun x5 v4 => if x5 = 0 then fX3_isReady_31 o q1 p2 p3 v4 else some (1, v4) else fX3_isReady_31 o q1 p2 p3 v else fX3_isReady_31 o q1 p2 p3 v
set_option maxRecDepth 100000 in
set_option maxHeartbeats 4000000 in
theorem kX3_isReady_0 {p : Program} {l : Launch} {e : Env} {s : State} {m : MethodId} {args : Array Value} {below : List Frame} {meth : Method} {c : Code} {D : va_G} {A : Nat → Prop} {cI cS cF cZ cJ : ClassId} {ad : Nat → Nat} {X : va_W} {n : Nat} {o : Nat} {q1 : Nat} {p2 : Int32} {p3 : Int32} (G : cx p s m args meth c cX3_isReady 4 wsX3_isReady RX3 D (ty5 cI cS cF cZ cJ) A (some .boolean)) (hn : n ≤ 24) (ho : kC n o = 3) (hq1 : kC n q1 = 1) (v : Mem) : sk p l e rmX3_isReady s m args below meth c D A 4 0 0 (fun res => MQ below (qi D A (ty5 cI cS cF cZ cJ) (Wc cI cS cF ad n X) res) args s 0 0 A) (Wc cI cS cF ad n X v) 0 [(0, .ref (ad o)), (1, .ref (ad q1)), (2, .int p2), (3, .int p3)] [] (fX3_isReady o q1 p2 p3 v) := by
  obtain ⟨F, hK, hA, hZ, hr, hlocks⟩ := G
  refine sk_eq (K' := if (v q1 0) = 0 then if (v q1 5) = 0 then bd (fX1_hasRested q1 (v o 8) p2 p3 v) fun x5 v4 => if x5 = 0 then fX3_isReady_31 o q1 p2 p3 v4 else some (1, v4) else fX3_isReady_31 o q1 p2 p3 v else fX3_isReady_31 o q1 p2 p3 v) rfl ?_
  refine sk_aload_n F dX3_isReady_0 rfl 1 rfl ?_
  refine sk_g1 (ref := "TunnelWatch$Fan") F hK hq1 iX3_isReady_1 0 (by decide) (by decide +kernel) (u_same (F.2.2.2.2 (.sameField "TunnelWatch$Fan" "TunnelWatch$Device" "command" "I") (by decide +kernel))) rfl dX3_isReady_1 ?_
  refine sk_if_ne F 31 dX3_isReady_4 (by decide) (fun h1 => ?_) (fun h1 => ?_)
  · exact sk_lv [] rfl (kX3_isReady_31 ⟨F, hK, hA, hZ, hr, hlocks⟩ hn ho hq1 v)
  · refine sk_aload_n F dX3_isReady_7 rfl 1 rfl ?_
    refine sk_g1 (ref := "TunnelWatch$Fan") F hK hq1 iX3_isReady_1 5 (by decide) (by decide +kernel) (u_same (F.2.2.2.2 (.sameField "TunnelWatch$Fan" "TunnelWatch$Device" "out" "Z") (by decide +kernel))) rfl dX3_isReady_8 ?_
    refine sk_if_ne F 31 dX3_isReady_11 (by decide) (fun h2 => ?_) (fun h2 => ?_)
    · exact sk_lv [] rfl (kX3_isReady_31 ⟨F, hK, hA, hZ, hr, hlocks⟩ hn ho hq1 v)
    · refine sk_aload_n F dX3_isReady_14 rfl 1 rfl ?_
      refine sk_aload_n F dX3_isReady_15 rfl 0 rfl ?_
      refine sk_g3 (ref := "TunnelWatch$Tube") F hK ho iX3_isReady_3 8 (by decide) (by decide +kernel) (fun _ h9 => h9) rfl dX3_isReady_16 ?_
      refine sk_iload_n F dX3_isReady_19 rfl 2 rfl ?_
      refine sk_iload_n F dX3_isReady_20 rfl 3 rfl ?_
      refine sk_callVi (As := [.int (v o 8), .int p2, .int p3]) (rest := []) F hK hA hZ _ (tX1_hasRested hn hq1 _) (cwV 3 F.2.2.2.2 gX3_isReady_X1_hasRested rfl rfl rfl (by decide +kernel) ⟨Nat.le_of_ble_eq_true rfl, Nat.le_of_ble_eq_true rfl⟩) (rc1 hK hq1) rfl rfl (Nat.le_of_ble_eq_true rfl) (by decide) dX3_isReady_21 (fun x5 v4 c3 => ?_)
      refine sk_if_eq F 31 dX3_isReady_24 (by decide) (fun h6 => ?_) (fun h6 => ?_)
      · exact sk_lv [] rfl (kX3_isReady_31 ⟨F, hK, hA, hZ, hr, hlocks⟩ hn ho hq1 v4)
      · refine sk_iconst (x := 1) F dX3_isReady_27 (by decide) ?_
        refine sk_goto F 32 dX3_isReady_28 (by decide) ?_
        exact sk_zretc F hK hr hlocks (by decide) dX3_isReady_32
theorem tX3_isReady {l : Launch} {D : va_G} {A : Nat → Prop} {cI cS cF cZ cJ : ClassId} {ad : Nat → Nat} {X : va_W} {n : Nat} (hn : n ≤ 24) {o : Nat} {q1 : Nat} {p2 : Int32} {p3 : Int32} (ho : kC n o = 3) (hq1 : kC n q1 = 1) (v : Mem) : CI l yX3_isReady wsX3_isReady rmX3_isReady D A (ty5 cI cS cF cZ cJ) (Wc cI cS cF ad n X) [.ref (ad o), .ref (ad q1), .int p2, .int p3] v (fX3_isReady o q1 p2 p3 v) :=
  CI_of (cc := cX3_isReady) (maxL := 4) (ret := (some .boolean)) (by decide) rfl (Nat.le_of_ble_eq_true rfl) (fun p e s m below meth c G => kX3_isReady_0 G hn ho hq1 v)
def rmX3_leastRunReady : Room := { frames := 3, cells := 0, slots := 0, locals := 69 }
theorem iX3_leastRunReady_1 : ∀ w ∈ wsX10, w ∈ wsX3_leastRunReady := by decide +kernel
theorem iX3_leastRunReady_3 : ∀ w ∈ wsX30, w ∈ wsX3_leastRunReady := by decide +kernel
def fX3_leastRunReady_57 (kb5 : Mem → Int32 → Int32 → Option (Int32 × Mem)) (o : Nat) (p1 : Int32) (p2 : Int32) (v : Mem) (l4 : Int32) : Option (Int32 × Mem) := kb5 v l4 (l4 + 1)
set_option maxRecDepth 100000 in
set_option maxHeartbeats 4000000 in
theorem kX3_leastRunReady_57 {p : Program} {l : Launch} {e : Env} {s : State} {m : MethodId} {args : Array Value} {below : List Frame} {meth : Method} {c : Code} {D : va_G} {A : Nat → Prop} {cI cS cF cZ cJ : ClassId} {ad : Nat → Nat} {X : va_W} {n : Nat} {o : Nat} {p1 : Int32} {p2 : Int32} {kb5 : Mem → Int32 → Int32 → Option (Int32 × Mem)} (G : cx p s m args meth c cX3_leastRunReady 5 wsX3_leastRunReady RX3 D (ty5 cI cS cF cZ cJ) A (some .int)) (hn : n ≤ 24) (ho : kC n o = 3) (hkb5 : ∀ (v : Mem) (l3 : Int32) (l4 : Int32), sk p l e rmX3_leastRunReady s m args below meth c D A 5 0 0 (fun res => MQ below (qi D A (ty5 cI cS cF cZ cJ) (Wc cI cS cF ad n X) res) args s 0 0 A) (Wc cI cS cF ad n X v) 5 [(0, .ref (ad o)), (1, .int p1), (2, .int p2), (3, .int l3), (4, .int l4)] [] (kb5 v l3 l4)) (v : Mem) (l4 : Int32) : sk p l e rmX3_leastRunReady s m args below meth c D A 5 0 0 (fun res => MQ below (qi D A (ty5 cI cS cF cZ cJ) (Wc cI cS cF ad n X) res) args s 0 0 A) (Wc cI cS cF ad n X v) 57 [(0, .ref (ad o)), (1, .int p1), (2, .int p2), (4, .int l4)] [] (fX3_leastRunReady_57 kb5 o p1 p2 v l4) := by
  obtain ⟨F, hK, hA, hZ, hr, hlocks⟩ := G
  refine sk_eq (K' := kb5 v l4 (l4 + 1)) rfl ?_
  refine sk_iload F dX3_leastRunReady_57 3 rfl ?_
  refine sk_istore_n F dX3_leastRunReady_59 rfl (by decide) rfl ?_
  refine sk_iinc (y := l4 + 1) F dX3_leastRunReady_60 4 rfl rfl (by decide) rfl ?_
  refine sk_goto F 5 dX3_leastRunReady_63 (by decide) ?_
  exact sk_lv [2, 3, 4, 1, 0] rfl (hkb5 v l4 (l4 + 1))
def fX3_leastRunReady_5 (o : Nat) (p1 : Int32) (p2 : Int32) : Nat → Mem → Int32 → Int32 → Option (Int32 × Mem)
  | 0, _, _, _ => none
  | fuel + 1, v, l3, l4 => if (v o 4) ≤ l4 then some (l3, v) else gd (inb l4 12) (bd (fX3_isReady o (o + 5 + l4.toNatClampNeg) p1 p2 v) fun x5 v4 => if x5 = 0 then fX3_leastRunReady_5 o p1 p2 fuel v4 l3 (l4 + 1) else if l3 = (-1) then fX3_leastRunReady_57 (fun v l3 l4 => fX3_leastRunReady_5 o p1 p2 fuel v l3 l4) o p1 p2 v4 l4 else gd (inb l4 12) (gd (inb l3 12) (if (v4 (o + 5 + l3.toNatClampNeg) 7) ≤ (v4 (o + 5 + l4.toNatClampNeg) 7) then fX3_leastRunReady_5 o p1 p2 fuel v4 l3 (l4 + 1) else fX3_leastRunReady_57 (fun v l3 l4 => fX3_leastRunReady_5 o p1 p2 fuel v l3 l4) o p1 p2 v4 l4)))
set_option maxRecDepth 100000 in
set_option maxHeartbeats 4000000 in
theorem kX3_leastRunReady_5 {p : Program} {l : Launch} {e : Env} {s : State} {m : MethodId} {args : Array Value} {below : List Frame} {meth : Method} {c : Code} {D : va_G} {A : Nat → Prop} {cI cS cF cZ cJ : ClassId} {ad : Nat → Nat} {X : va_W} {n : Nat} {o : Nat} {p1 : Int32} {p2 : Int32} (G : cx p s m args meth c cX3_leastRunReady 5 wsX3_leastRunReady RX3 D (ty5 cI cS cF cZ cJ) A (some .int)) (hn : n ≤ 24) (ho : kC n o = 3) : ∀ (fuel : Nat) (v : Mem) (l3 : Int32) (l4 : Int32), sk p l e rmX3_leastRunReady s m args below meth c D A 5 0 0 (fun res => MQ below (qi D A (ty5 cI cS cF cZ cJ) (Wc cI cS cF ad n X) res) args s 0 0 A) (Wc cI cS cF ad n X v) 5 [(0, .ref (ad o)), (1, .int p1), (2, .int p2), (3, .int l3), (4, .int l4)] [] (fX3_leastRunReady_5 o p1 p2 fuel v l3 l4) := by
  obtain ⟨F, hK, hA, hZ, hr, hlocks⟩ := G
  intro fuel
  induction fuel with
  | zero => intro v l3 l4; exact sk_none
  | succ fuel ih =>
    intro v l3 l4
    refine sk_eq (K' := if (v o 4) ≤ l4 then some (l3, v) else gd (inb l4 12) (bd (fX3_isReady o (o + 5 + l4.toNatClampNeg) p1 p2 v) fun x5 v4 => if x5 = 0 then fX3_leastRunReady_5 o p1 p2 fuel v4 l3 (l4 + 1) else if l3 = (-1) then fX3_leastRunReady_57 (fun v l3 l4 => fX3_leastRunReady_5 o p1 p2 fuel v l3 l4) o p1 p2 v4 l4 else gd (inb l4 12) (gd (inb l3 12) (if (v4 (o + 5 + l3.toNatClampNeg) 7) ≤ (v4 (o + 5 + l4.toNatClampNeg) 7) then fX3_leastRunReady_5 o p1 p2 fuel v4 l3 (l4 + 1) else fX3_leastRunReady_57 (fun v l3 l4 => fX3_leastRunReady_5 o p1 p2 fuel v l3 l4) o p1 p2 v4 l4)))) rfl ?_
    refine sk_iload F dX3_leastRunReady_5 4 rfl ?_
    refine sk_aload_n F dX3_leastRunReady_7 rfl 0 rfl ?_
    refine sk_g3 (ref := "TunnelWatch$Tube") F hK ho iX3_leastRunReady_3 4 (by decide) (by decide +kernel) (fun _ h9 => h9) rfl dX3_leastRunReady_8 ?_
    refine sk_icmp_ge F 66 dX3_leastRunReady_11 (by decide) (fun h1 => ?_) (fun h1 => ?_)
    · refine sk_iload_n F dX3_leastRunReady_66 rfl 3 rfl ?_
      exact sk_iret F hK hr hlocks dX3_leastRunReady_67
    · refine sk_aload_n F dX3_leastRunReady_14 rfl 0 rfl ?_
      refine sk_aload_n F dX3_leastRunReady_15 rfl 0 rfl ?_
      refine sk_g3 (ref := "TunnelWatch$Tube") F hK ho iX3_leastRunReady_3 3 (by decide) (by decide +kernel) (fun _ h9 => h9) rfl dX3_leastRunReady_16 ?_
      refine sk_iload F dX3_leastRunReady_19 4 rfl ?_
      refine sk_aldF F hK ho dX3_leastRunReady_21 (fun h2 => ?_)
      refine sk_iload_n F dX3_leastRunReady_22 rfl 1 rfl ?_
      refine sk_iload_n F dX3_leastRunReady_23 rfl 2 rfl ?_
      refine sk_callVi (As := [.ref (ad (o + 5 + l4.toNatClampNeg)), .int p1, .int p2]) (rest := []) F hK hA hZ _ (tX3_isReady hn ho (kC_f ho (inb_lt h2)) _) (cwV 3 F.2.2.2.2 gX3_leastRunReady_X3_isReady rfl rfl rfl (by decide +kernel) ⟨Nat.le_of_ble_eq_true rfl, Nat.le_of_ble_eq_true rfl⟩) (rc3 hK ho) rfl rfl (Nat.le_of_ble_eq_true rfl) (by decide) dX3_leastRunReady_24 (fun x5 v4 c3 => ?_)
      refine sk_if_eq F 60 dX3_leastRunReady_27 (by decide) (fun h6 => ?_) (fun h6 => ?_)
      · refine sk_iinc (y := l4 + 1) F dX3_leastRunReady_60 4 rfl rfl (by decide) rfl ?_
        refine sk_goto F 5 dX3_leastRunReady_63 (by decide) ?_
        exact sk_lv [1, 2, 3, 4, 0] rfl (ih v4 l3 (l4 + 1))
      · refine sk_iload_n F dX3_leastRunReady_30 rfl 3 rfl ?_
        refine sk_iconst (x := (-1)) F dX3_leastRunReady_31 (by decide) ?_
        refine sk_icmp_eq F 57 dX3_leastRunReady_32 (by decide) (fun h7 => ?_) (fun h7 => ?_)
        · exact sk_lv [0, 1, 2, 4] rfl (kX3_leastRunReady_57 ⟨F, hK, hA, hZ, hr, hlocks⟩ hn ho ih v4 l4)
        · refine sk_aload_n F dX3_leastRunReady_35 rfl 0 rfl ?_
          refine sk_g3 (ref := "TunnelWatch$Tube") F hK ho iX3_leastRunReady_3 3 (by decide) (by decide +kernel) (fun _ h9 => h9) rfl dX3_leastRunReady_36 ?_
          refine sk_iload F dX3_leastRunReady_39 4 rfl ?_
          refine sk_aldF F hK ho dX3_leastRunReady_41 (fun h8 => ?_)
          refine sk_g1 (ref := "TunnelWatch$Fan") F hK (kC_f ho (inb_lt h8)) iX3_leastRunReady_1 7 (by decide) (by decide +kernel) (fun _ h9 => h9) rfl dX3_leastRunReady_42 ?_
          refine sk_aload_n F dX3_leastRunReady_45 rfl 0 rfl ?_
          refine sk_g3 (ref := "TunnelWatch$Tube") F hK ho iX3_leastRunReady_3 3 (by decide) (by decide +kernel) (fun _ h9 => h9) rfl dX3_leastRunReady_46 ?_
          refine sk_iload_n F dX3_leastRunReady_49 rfl 3 rfl ?_
          refine sk_aldF F hK ho dX3_leastRunReady_50 (fun h9 => ?_)
          refine sk_g1 (ref := "TunnelWatch$Fan") F hK (kC_f ho (inb_lt h9)) iX3_leastRunReady_1 7 (by decide) (by decide +kernel) (fun _ h9 => h9) rfl dX3_leastRunReady_51 ?_
          refine sk_icmp_ge F 60 dX3_leastRunReady_54 (by decide) (fun h10 => ?_) (fun h10 => ?_)
          · refine sk_iinc (y := l4 + 1) F dX3_leastRunReady_60 4 rfl rfl (by decide) rfl ?_
            refine sk_goto F 5 dX3_leastRunReady_63 (by decide) ?_
            exact sk_lv [1, 2, 3, 4, 0] rfl (ih v4 l3 (l4 + 1))
          · exact sk_lv [0, 1, 2, 4] rfl (kX3_leastRunReady_57 ⟨F, hK, hA, hZ, hr, hlocks⟩ hn ho ih v4 l4)
def fX3_leastRunReady (o : Nat) (p1 : Int32) (p2 : Int32) (v : Mem) : Option (Int32 × Mem) := fX3_leastRunReady_5 o p1 p2 1000 v (-1) 0
set_option maxRecDepth 100000 in
set_option maxHeartbeats 4000000 in
theorem kX3_leastRunReady_0 {p : Program} {l : Launch} {e : Env} {s : State} {m : MethodId} {args : Array Value} {below : List Frame} {meth : Method} {c : Code} {D : va_G} {A : Nat → Prop} {cI cS cF cZ cJ : ClassId} {ad : Nat → Nat} {X : va_W} {n : Nat} {o : Nat} {p1 : Int32} {p2 : Int32} (G : cx p s m args meth c cX3_leastRunReady 5 wsX3_leastRunReady RX3 D (ty5 cI cS cF cZ cJ) A (some .int)) (hn : n ≤ 24) (ho : kC n o = 3) (v : Mem) : sk p l e rmX3_leastRunReady s m args below meth c D A 5 0 0 (fun res => MQ below (qi D A (ty5 cI cS cF cZ cJ) (Wc cI cS cF ad n X) res) args s 0 0 A) (Wc cI cS cF ad n X v) 0 [(0, .ref (ad o)), (1, .int p1), (2, .int p2)] [] (fX3_leastRunReady o p1 p2 v) := by
  obtain ⟨F, hK, hA, hZ, hr, hlocks⟩ := G
  refine sk_eq (K' := fX3_leastRunReady_5 o p1 p2 1000 v (-1) 0) rfl ?_
  refine sk_iconst (x := (-1)) F dX3_leastRunReady_0 (by decide) ?_
  refine sk_istore_n F dX3_leastRunReady_1 rfl (by decide) rfl ?_
  refine sk_iconst (x := 0) F dX3_leastRunReady_2 (by decide) ?_
  refine sk_istore F dX3_leastRunReady_3 (by decide) rfl ?_
  exact sk_lv [2, 3, 4, 1, 0] rfl (kX3_leastRunReady_5 ⟨F, hK, hA, hZ, hr, hlocks⟩ hn ho 1000 v (-1) 0)
theorem tX3_leastRunReady {l : Launch} {D : va_G} {A : Nat → Prop} {cI cS cF cZ cJ : ClassId} {ad : Nat → Nat} {X : va_W} {n : Nat} (hn : n ≤ 24) {o : Nat} {p1 : Int32} {p2 : Int32} (ho : kC n o = 3) (v : Mem) : CI l yX3_leastRunReady wsX3_leastRunReady rmX3_leastRunReady D A (ty5 cI cS cF cZ cJ) (Wc cI cS cF ad n X) [.ref (ad o), .int p1, .int p2] v (fX3_leastRunReady o p1 p2 v) :=
  CI_of (cc := cX3_leastRunReady) (maxL := 5) (ret := (some .int)) (by decide) rfl (Nat.le_of_ble_eq_true rfl) (fun p e s m below meth c G => kX3_leastRunReady_0 G hn ho v)
def rmX3_countRun : Room := { frames := 0, cells := 0, slots := 0, locals := 0 }
theorem iX3_countRun_1 : ∀ w ∈ wsX10, w ∈ wsX3_countRun := by decide +kernel
theorem iX3_countRun_3 : ∀ w ∈ wsX30, w ∈ wsX3_countRun := by decide +kernel
def fX3_countRun_2 (o : Nat) : Nat → Mem → Int32 → Option (Mem)
  | 0, _, _ => none
  | fuel + 1, v, l1 => if (v o 4) ≤ l1 then some v else gd (inb l1 12) (if (v (o + 5 + l1.toNatClampNeg) 0) = 0 then fX3_countRun_2 o fuel v (l1 + 1) else gd (inb l1 12) (fX3_countRun_2 o fuel (up2 v (o + 5 + l1.toNatClampNeg) 7 ((v (o + 5 + l1.toNatClampNeg) 7) + 1)) (l1 + 1)))
set_option maxRecDepth 100000 in
set_option maxHeartbeats 4000000 in
theorem kX3_countRun_2 {p : Program} {l : Launch} {e : Env} {s : State} {m : MethodId} {args : Array Value} {below : List Frame} {meth : Method} {c : Code} {D : va_G} {A : Nat → Prop} {cI cS cF cZ cJ : ClassId} {ad : Nat → Nat} {X : va_W} {n : Nat} {o : Nat} (G : cx p s m args meth c cX3_countRun 2 wsX3_countRun RX3 D (ty5 cI cS cF cZ cJ) A none) (hn : n ≤ 24) (ho : kC n o = 3) : ∀ (fuel : Nat) (v : Mem) (l1 : Int32), sk p l e rmX3_countRun s m args below meth c D A 2 0 0 (fun res => MQ below (qv D A (ty5 cI cS cF cZ cJ) (Wc cI cS cF ad n X) res) args s 0 0 A) (Wc cI cS cF ad n X v) 2 [(0, .ref (ad o)), (1, .int l1)] [] (fX3_countRun_2 o fuel v l1) := by
  obtain ⟨F, hK, hA, hZ, hr, hlocks⟩ := G
  intro fuel
  induction fuel with
  | zero => intro v l1; exact sk_none
  | succ fuel ih =>
    intro v l1
    refine sk_eq (K' := if (v o 4) ≤ l1 then some v else gd (inb l1 12) (if (v (o + 5 + l1.toNatClampNeg) 0) = 0 then fX3_countRun_2 o fuel v (l1 + 1) else gd (inb l1 12) (fX3_countRun_2 o fuel (up2 v (o + 5 + l1.toNatClampNeg) 7 ((v (o + 5 + l1.toNatClampNeg) 7) + 1)) (l1 + 1)))) rfl ?_
    refine sk_iload_n F dX3_countRun_2 rfl 1 rfl ?_
    refine sk_aload_n F dX3_countRun_3 rfl 0 rfl ?_
    refine sk_g3 (ref := "TunnelWatch$Tube") F hK ho iX3_countRun_3 4 (by decide) (by decide +kernel) (fun _ h9 => h9) rfl dX3_countRun_4 ?_
    refine sk_icmp_ge F 43 dX3_countRun_7 (by decide) (fun h1 => ?_) (fun h1 => ?_)
    · exact sk_vret F hK hr hlocks dX3_countRun_43
    · refine sk_aload_n F dX3_countRun_10 rfl 0 rfl ?_
      refine sk_g3 (ref := "TunnelWatch$Tube") F hK ho iX3_countRun_3 3 (by decide) (by decide +kernel) (fun _ h9 => h9) rfl dX3_countRun_11 ?_
      refine sk_iload_n F dX3_countRun_14 rfl 1 rfl ?_
      refine sk_aldF F hK ho dX3_countRun_15 (fun h2 => ?_)
      refine sk_g1 (ref := "TunnelWatch$Fan") F hK (kC_f ho (inb_lt h2)) iX3_countRun_1 0 (by decide) (by decide +kernel) (u_same (F.2.2.2.2 (.sameField "TunnelWatch$Fan" "TunnelWatch$Device" "command" "I") (by decide +kernel))) rfl dX3_countRun_16 ?_
      refine sk_if_eq F 37 dX3_countRun_19 (by decide) (fun h3 => ?_) (fun h3 => ?_)
      · refine sk_iinc (y := l1 + 1) F dX3_countRun_37 1 rfl rfl (by decide) rfl ?_
        refine sk_goto F 2 dX3_countRun_40 (by decide) ?_
        exact sk_lv [1, 0] rfl (ih v (l1 + 1))
      · refine sk_aload_n F dX3_countRun_22 rfl 0 rfl ?_
        refine sk_g3 (ref := "TunnelWatch$Tube") F hK ho iX3_countRun_3 3 (by decide) (by decide +kernel) (fun _ h9 => h9) rfl dX3_countRun_23 ?_
        refine sk_iload_n F dX3_countRun_26 rfl 1 rfl ?_
        refine sk_aldF F hK ho dX3_countRun_27 (fun h4 => ?_)
        refine sk_dup F dX3_countRun_28 rfl ?_
        refine sk_g1 (ref := "TunnelWatch$Fan") F hK (kC_f ho (inb_lt h4)) iX3_countRun_1 7 (by decide) (by decide +kernel) (fun _ h9 => h9) rfl dX3_countRun_29 ?_
        refine sk_iconst (x := 1) F dX3_countRun_32 (by decide) ?_
        refine sk_iadd F dX3_countRun_33 ?_
        refine sk_p1 (ref := "TunnelWatch$Fan") (ty := .int) F hK (kC_f ho (inb_lt h4)) iX3_countRun_1 7 (by decide) (by decide +kernel) (fun _ h9 => h9) rfl (by decide +kernel) rfl rfl rfl dX3_countRun_34 ?_
        refine sk_iinc (y := l1 + 1) F dX3_countRun_37 1 rfl rfl (by decide) rfl ?_
        refine sk_goto F 2 dX3_countRun_40 (by decide) ?_
        exact sk_lv [1, 0] rfl (ih (up2 v (o + 5 + l1.toNatClampNeg) 7 ((v (o + 5 + l1.toNatClampNeg) 7) + 1)) (l1 + 1))
def fX3_countRun (o : Nat) (v : Mem) : Option (Mem) := fX3_countRun_2 o 1000 v 0
set_option maxRecDepth 100000 in
set_option maxHeartbeats 4000000 in
theorem kX3_countRun_0 {p : Program} {l : Launch} {e : Env} {s : State} {m : MethodId} {args : Array Value} {below : List Frame} {meth : Method} {c : Code} {D : va_G} {A : Nat → Prop} {cI cS cF cZ cJ : ClassId} {ad : Nat → Nat} {X : va_W} {n : Nat} {o : Nat} (G : cx p s m args meth c cX3_countRun 2 wsX3_countRun RX3 D (ty5 cI cS cF cZ cJ) A none) (hn : n ≤ 24) (ho : kC n o = 3) (v : Mem) : sk p l e rmX3_countRun s m args below meth c D A 2 0 0 (fun res => MQ below (qv D A (ty5 cI cS cF cZ cJ) (Wc cI cS cF ad n X) res) args s 0 0 A) (Wc cI cS cF ad n X v) 0 [(0, .ref (ad o))] [] (fX3_countRun o v) := by
  obtain ⟨F, hK, hA, hZ, hr, hlocks⟩ := G
  refine sk_eq (K' := fX3_countRun_2 o 1000 v 0) rfl ?_
  refine sk_iconst (x := 0) F dX3_countRun_0 (by decide) ?_
  refine sk_istore_n F dX3_countRun_1 rfl (by decide) rfl ?_
  exact sk_lv [1, 0] rfl (kX3_countRun_2 ⟨F, hK, hA, hZ, hr, hlocks⟩ hn ho 1000 v 0)
theorem tX3_countRun {l : Launch} {D : va_G} {A : Nat → Prop} {cI cS cF cZ cJ : ClassId} {ad : Nat → Nat} {X : va_W} {n : Nat} (hn : n ≤ 24) {o : Nat} (ho : kC n o = 3) (v : Mem) : CV l yX3_countRun wsX3_countRun rmX3_countRun D A (ty5 cI cS cF cZ cJ) (Wc cI cS cF ad n X) [.ref (ad o)] v (fX3_countRun o v) :=
  CV_of (cc := cX3_countRun) (maxL := 2) (ret := none) (by decide) rfl (Nat.le_of_ble_eq_true rfl) (fun p e s m below meth c G => kX3_countRun_0 G hn ho v)
