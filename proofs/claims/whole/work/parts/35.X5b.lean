def rmX5_pull : Room := { frames := 2, cells := 0, slots := 0, locals := 42 }
theorem iX5_pull_5 : ∀ w ∈ wsX50, w ∈ wsX5_pull := by decide +kernel
def fX5_pull_15 (p1 : Int32) (p2 : Int32) (v : Mem) (s0 : Int32) : Option (Int32 × Mem) := if ((up2 v 0 0 s0) 0 0) ≤ 0 then gd (inb ((24 * p1) + p2) 48) (gd (inb ((24 * p1) + p2) 48) (if ((up2 v 0 0 s0) 19 ((24 * p1) + p2).toNatClampNeg) = 0 then some (1, up2 (up2 v 0 0 s0) 19 ((24 * p1) + p2).toNatClampNeg (vp_nar .boolean 1)) else some (0, up2 (up2 v 0 0 s0) 19 ((24 * p1) + p2).toNatClampNeg (vp_nar .boolean 1)))) else some (0, up2 v 0 0 s0)
set_option maxRecDepth 100000 in
set_option maxHeartbeats 4000000 in
theorem kX5_pull_15 {p : Program} {l : Launch} {e : Env} {s : State} {m : MethodId} {args : Array Value} {below : List Frame} {meth : Method} {c : Code} {D : va_G} {A : Nat → Prop} {cI cS cF cZ cJ : ClassId} {ad : Nat → Nat} {X : va_W} {p1 : Int32} {p2 : Int32} (G : cx p s m args meth c cX5_pull 4 wsX5_pull RX5 D (ty5 cI cS cF cZ cJ) A (some .boolean)) (v : Mem) (s0 : Int32) : sk p l e rmX5_pull s m args below meth c D A 4 0 0 (fun res => MQ below (qi D A (ty5 cI cS cF cZ cJ) (Wr cI cZ ad X) res) args s 0 0 A) (Wr cI cZ ad X v) 15 [(0, .ref (ad 0)), (1, .int p1), (2, .int p2)] [.int s0, .ref (ad 0)] (fX5_pull_15 p1 p2 v s0) := by
  obtain ⟨F, hK, hA, hZ, hr, hlocks⟩ := G
  refine sk_eq (K' := if ((up2 v 0 0 s0) 0 0) ≤ 0 then gd (inb ((24 * p1) + p2) 48) (gd (inb ((24 * p1) + p2) 48) (if ((up2 v 0 0 s0) 19 ((24 * p1) + p2).toNatClampNeg) = 0 then some (1, up2 (up2 v 0 0 s0) 19 ((24 * p1) + p2).toNatClampNeg (vp_nar .boolean 1)) else some (0, up2 (up2 v 0 0 s0) 19 ((24 * p1) + p2).toNatClampNeg (vp_nar .boolean 1)))) else some (0, up2 v 0 0 s0)) rfl ?_
  refine sk_put (ref := "TunnelWatchModel") (fs := fun r => fs5 ad r) (ty := .int) F hK Lr_nd (Lr_mem (by decide)) shR_0 rfl iX5_pull_5 tyX5 tyX5_ok nmX5 0 (by decide) (by decide +kernel) (fun _ h9 => h9) rfl (by decide +kernel) rfl rfl (Nat.le_of_ble_eq_true rfl) rfl dX5_pull_15 ?_
  refine sk_aload_n F dX5_pull_18 rfl 0 rfl ?_
  refine sk_get (ref := "TunnelWatchModel") F hK (Lr_mem (by decide)) (shR_0 _) rfl iX5_pull_5 0 (by decide) (by decide +kernel) (fun _ h9 => h9) rfl dX5_pull_19 ?_
  refine sk_if_le F 27 dX5_pull_22 (by decide) (fun h5 => ?_) (fun h5 => ?_)
  · refine sk_aload_n F dX5_pull_27 rfl 0 rfl ?_
    refine sk_get (ref := "TunnelWatchModel") F hK (Lr_mem (by decide)) (shR_0 _) rfl iX5_pull_5 19 (by decide) (by decide +kernel) (fun _ h9 => h9) rfl dX5_pull_28 ?_
    refine sk_bipush (x := 24) F dX5_pull_31 (by decide) ?_
    refine sk_iload_n F dX5_pull_33 rfl 1 rfl ?_
    refine sk_imul F dX5_pull_34 ?_
    refine sk_iload_n F dX5_pull_35 rfl 2 rfl ?_
    refine sk_iadd F dX5_pull_36 ?_
    refine sk_zald F hK (Lr_mem (by decide)) (shR_19 _) 3 rfl dX5_pull_37 (fun h6 => ?_)
    refine sk_istore_n F dX5_pull_38 rfl (by decide) rfl ?_
    refine sk_aload_n F dX5_pull_39 rfl 1 rfl ?_
    refine sk_get (ref := "TunnelWatchModel") F hK (Lr_mem (by decide)) (shR_0 _) rfl iX5_pull_5 19 (by decide) (by decide +kernel) (fun _ h9 => h9) rfl dX5_pull_40 ?_
    refine sk_bipush (x := 24) F dX5_pull_43 (by decide) ?_
    refine sk_iload_n F dX5_pull_45 rfl 2 rfl ?_
    refine sk_imul F dX5_pull_46 ?_
    refine sk_iload_n F dX5_pull_47 rfl 3 rfl ?_
    refine sk_iadd F dX5_pull_48 ?_
    refine sk_iconst (x := 1) F dX5_pull_49 (by decide) ?_
    refine sk_zast F hK Lr_nd (Lr_mem (by decide)) shR_19 3 rfl dX5_pull_50 (fun h7 => ?_)
    refine sk_iload_n F dX5_pull_51 rfl 0 rfl ?_
    refine sk_if_ne F 59 dX5_pull_52 (by decide) (fun h8 => ?_) (fun h8 => ?_)
    · refine sk_iconst (x := 0) F dX5_pull_59 (by decide) ?_
      exact sk_zretc F hK hr hlocks (by decide) dX5_pull_60
    · refine sk_iconst (x := 1) F dX5_pull_55 (by decide) ?_
      refine sk_goto F 60 dX5_pull_56 (by decide) ?_
      exact sk_zretc F hK hr hlocks (by decide) dX5_pull_60
  · refine sk_iconst (x := 0) F dX5_pull_25 (by decide) ?_
    exact sk_zretc F hK hr hlocks (by decide) dX5_pull_26
def fX5_pull (p1 : Int32) (p2 : Int32) (v : Mem) : Option (Int32 × Mem) := bd (fX5_isSection p1 p2 v) fun x3 v2 => if x3 = 0 then fX5_pull_15 p1 p2 v2 1 else fX5_pull_15 p1 p2 v2 0
set_option maxRecDepth 100000 in
set_option maxHeartbeats 4000000 in
theorem kX5_pull_0 {p : Program} {l : Launch} {e : Env} {s : State} {m : MethodId} {args : Array Value} {below : List Frame} {meth : Method} {c : Code} {D : va_G} {A : Nat → Prop} {cI cS cF cZ cJ : ClassId} {ad : Nat → Nat} {X : va_W} {p1 : Int32} {p2 : Int32} (G : cx p s m args meth c cX5_pull 4 wsX5_pull RX5 D (ty5 cI cS cF cZ cJ) A (some .boolean)) (v : Mem) : sk p l e rmX5_pull s m args below meth c D A 4 0 0 (fun res => MQ below (qi D A (ty5 cI cS cF cZ cJ) (Wr cI cZ ad X) res) args s 0 0 A) (Wr cI cZ ad X v) 0 [(0, .ref (ad 0)), (1, .int p1), (2, .int p2)] [] (fX5_pull p1 p2 v) := by
  obtain ⟨F, hK, hA, hZ, hr, hlocks⟩ := G
  refine sk_eq (K' := bd (fX5_isSection p1 p2 v) fun x3 v2 => if x3 = 0 then fX5_pull_15 p1 p2 v2 1 else fX5_pull_15 p1 p2 v2 0) rfl ?_
  refine sk_aload_n F dX5_pull_0 rfl 0 rfl ?_
  refine sk_aload_n F dX5_pull_1 rfl 0 rfl ?_
  refine sk_iload_n F dX5_pull_2 rfl 1 rfl ?_
  refine sk_iload_n F dX5_pull_3 rfl 2 rfl ?_
  refine sk_callVi (As := [.int p1, .int p2]) (rest := [.ref (ad 0)]) F hK hA hZ _ (tX5_isSection _) (cwV 2 F.2.2.2.2 gX5_pull_X5_isSection rfl rfl rfl (by decide +kernel) ⟨Nat.le_of_ble_eq_true rfl, Nat.le_of_ble_eq_true rfl⟩) (rc5 hK) rfl rfl (Nat.le_of_ble_eq_true rfl) (by decide) dX5_pull_4 (fun x3 v2 c1 => ?_)
  refine sk_if_eq F 14 dX5_pull_7 (by decide) (fun h4 => ?_) (fun h4 => ?_)
  · refine sk_iconst (x := 1) F dX5_pull_14 (by decide) ?_
    exact kX5_pull_15 ⟨F, hK, hA, hZ, hr, hlocks⟩ v2 1
  · refine sk_iconst (x := 0) F dX5_pull_10 (by decide) ?_
    refine sk_goto F 15 dX5_pull_11 (by decide) ?_
    exact kX5_pull_15 ⟨F, hK, hA, hZ, hr, hlocks⟩ v2 0
theorem tX5_pull {l : Launch} {D : va_G} {A : Nat → Prop} {cI cS cF cZ cJ : ClassId} {ad : Nat → Nat} {X : va_W} {p1 : Int32} {p2 : Int32} (v : Mem) : CI l yX5_pull wsX5_pull rmX5_pull D A (ty5 cI cS cF cZ cJ) (Wr cI cZ ad X) [.ref (ad 0), .int p1, .int p2] v (fX5_pull p1 p2 v) :=
  CI_of (cc := cX5_pull) (maxL := 4) (ret := (some .boolean)) (by decide) rfl (Nat.le_of_ble_eq_true rfl) (fun p e s m below meth c G => kX5_pull_0 G v)
def rmX5_confirm : Room := { frames := 1, cells := 0, slots := 0, locals := 20 }
theorem iX5_confirm_5 : ∀ w ∈ wsX50, w ∈ wsX5_confirm := by decide +kernel
def fX5_confirm_13 (p1 : Int32) (v : Mem) (s0 : Int32) : Option (Int32 × Mem) := if 0 < ((up2 v 0 0 s0) 0 0) then some (0, up2 v 0 0 s0) else gd (inb p1 2) (if ((up2 v 0 0 s0) 25 p1.toNatClampNeg) = 1 then gd (inb p1 2) (gd (inb ((24 * p1) + ((up2 v 0 0 s0) 26 p1.toNatClampNeg)) 48) (some (1, up2 (up2 v 0 0 s0) 19 ((24 * p1) + ((up2 v 0 0 s0) 26 p1.toNatClampNeg)).toNatClampNeg (vp_nar .boolean 1)))) else some (0, up2 v 0 0 s0))
set_option maxRecDepth 100000 in
set_option maxHeartbeats 4000000 in
theorem kX5_confirm_13 {p : Program} {l : Launch} {e : Env} {s : State} {m : MethodId} {args : Array Value} {below : List Frame} {meth : Method} {c : Code} {D : va_G} {A : Nat → Prop} {cI cS cF cZ cJ : ClassId} {ad : Nat → Nat} {X : va_W} {p1 : Int32} (G : cx p s m args meth c cX5_confirm 2 wsX5_confirm RX5 D (ty5 cI cS cF cZ cJ) A (some .boolean)) (v : Mem) (s0 : Int32) : sk p l e rmX5_confirm s m args below meth c D A 2 0 0 (fun res => MQ below (qi D A (ty5 cI cS cF cZ cJ) (Wr cI cZ ad X) res) args s 0 0 A) (Wr cI cZ ad X v) 13 [(0, .ref (ad 0)), (1, .int p1)] [.int s0, .ref (ad 0)] (fX5_confirm_13 p1 v s0) := by
  obtain ⟨F, hK, hA, hZ, hr, hlocks⟩ := G
  refine sk_eq (K' := if 0 < ((up2 v 0 0 s0) 0 0) then some (0, up2 v 0 0 s0) else gd (inb p1 2) (if ((up2 v 0 0 s0) 25 p1.toNatClampNeg) = 1 then gd (inb p1 2) (gd (inb ((24 * p1) + ((up2 v 0 0 s0) 26 p1.toNatClampNeg)) 48) (some (1, up2 (up2 v 0 0 s0) 19 ((24 * p1) + ((up2 v 0 0 s0) 26 p1.toNatClampNeg)).toNatClampNeg (vp_nar .boolean 1)))) else some (0, up2 v 0 0 s0))) rfl ?_
  refine sk_put (ref := "TunnelWatchModel") (fs := fun r => fs5 ad r) (ty := .int) F hK Lr_nd (Lr_mem (by decide)) shR_0 rfl iX5_confirm_5 tyX5 tyX5_ok nmX5 0 (by decide) (by decide +kernel) (fun _ h9 => h9) rfl (by decide +kernel) rfl rfl (Nat.le_of_ble_eq_true rfl) rfl dX5_confirm_13 ?_
  refine sk_aload_n F dX5_confirm_16 rfl 0 rfl ?_
  refine sk_get (ref := "TunnelWatchModel") F hK (Lr_mem (by decide)) (shR_0 _) rfl iX5_confirm_5 0 (by decide) (by decide +kernel) (fun _ h9 => h9) rfl dX5_confirm_17 ?_
  refine sk_if_gt F 33 dX5_confirm_20 (by decide) (fun h5 => ?_) (fun h5 => ?_)
  · refine sk_iconst (x := 0) F dX5_confirm_33 (by decide) ?_
    exact sk_zretc F hK hr hlocks (by decide) dX5_confirm_34
  · refine sk_aload_n F dX5_confirm_23 rfl 0 rfl ?_
    refine sk_get (ref := "TunnelWatchModel") F hK (Lr_mem (by decide)) (shR_0 _) rfl iX5_confirm_5 25 (by decide) (by decide +kernel) (fun _ h9 => h9) rfl dX5_confirm_24 ?_
    refine sk_iload_n F dX5_confirm_27 rfl 1 rfl ?_
    refine sk_iald F hK (Lr_mem (by decide)) (shR_25 _) 0 rfl dX5_confirm_28 (fun h6 => ?_)
    refine sk_iconst (x := 1) F dX5_confirm_29 (by decide) ?_
    refine sk_icmp_eq F 35 dX5_confirm_30 (by decide) (fun h7 => ?_) (fun h7 => ?_)
    · refine sk_aload_n F dX5_confirm_35 rfl 0 rfl ?_
      refine sk_get (ref := "TunnelWatchModel") F hK (Lr_mem (by decide)) (shR_0 _) rfl iX5_confirm_5 19 (by decide) (by decide +kernel) (fun _ h9 => h9) rfl dX5_confirm_36 ?_
      refine sk_bipush (x := 24) F dX5_confirm_39 (by decide) ?_
      refine sk_iload_n F dX5_confirm_41 rfl 1 rfl ?_
      refine sk_imul F dX5_confirm_42 ?_
      refine sk_aload_n F dX5_confirm_43 rfl 0 rfl ?_
      refine sk_get (ref := "TunnelWatchModel") F hK (Lr_mem (by decide)) (shR_0 _) rfl iX5_confirm_5 26 (by decide) (by decide +kernel) (fun _ h9 => h9) rfl dX5_confirm_44 ?_
      refine sk_iload_n F dX5_confirm_47 rfl 1 rfl ?_
      refine sk_iald F hK (Lr_mem (by decide)) (shR_26 _) 0 rfl dX5_confirm_48 (fun h8 => ?_)
      refine sk_iadd F dX5_confirm_49 ?_
      refine sk_iconst (x := 1) F dX5_confirm_50 (by decide) ?_
      refine sk_zast F hK Lr_nd (Lr_mem (by decide)) shR_19 3 rfl dX5_confirm_51 (fun h9 => ?_)
      refine sk_iconst (x := 1) F dX5_confirm_52 (by decide) ?_
      exact sk_zretc F hK hr hlocks (by decide) dX5_confirm_53
    · refine sk_iconst (x := 0) F dX5_confirm_33 (by decide) ?_
      exact sk_zretc F hK hr hlocks (by decide) dX5_confirm_34
def fX5_confirm (p1 : Int32) (v : Mem) : Option (Int32 × Mem) := bd (fX5_isTube p1 v) fun x3 v2 => if x3 = 0 then fX5_confirm_13 p1 v2 1 else fX5_confirm_13 p1 v2 0
set_option maxRecDepth 100000 in
set_option maxHeartbeats 4000000 in
theorem kX5_confirm_0 {p : Program} {l : Launch} {e : Env} {s : State} {m : MethodId} {args : Array Value} {below : List Frame} {meth : Method} {c : Code} {D : va_G} {A : Nat → Prop} {cI cS cF cZ cJ : ClassId} {ad : Nat → Nat} {X : va_W} {p1 : Int32} (G : cx p s m args meth c cX5_confirm 2 wsX5_confirm RX5 D (ty5 cI cS cF cZ cJ) A (some .boolean)) (v : Mem) : sk p l e rmX5_confirm s m args below meth c D A 2 0 0 (fun res => MQ below (qi D A (ty5 cI cS cF cZ cJ) (Wr cI cZ ad X) res) args s 0 0 A) (Wr cI cZ ad X v) 0 [(0, .ref (ad 0)), (1, .int p1)] [] (fX5_confirm p1 v) := by
  obtain ⟨F, hK, hA, hZ, hr, hlocks⟩ := G
  refine sk_eq (K' := bd (fX5_isTube p1 v) fun x3 v2 => if x3 = 0 then fX5_confirm_13 p1 v2 1 else fX5_confirm_13 p1 v2 0) rfl ?_
  refine sk_aload_n F dX5_confirm_0 rfl 0 rfl ?_
  refine sk_iload_n F dX5_confirm_1 rfl 1 rfl ?_
  refine sk_callSi (As := [.int p1]) (rest := [.ref (ad 0)]) F hK hA hZ _ (tX5_isTube _) (va_cwS 1 F.2.2.2.2 gX5_confirm_X5_isTube rfl rfl rfl (by decide +kernel) ⟨Nat.le_of_ble_eq_true rfl, Nat.le_of_ble_eq_true rfl⟩) rfl rfl (Nat.le_of_ble_eq_true rfl) (by decide) dX5_confirm_2 (fun x3 v2 c1 => ?_)
  refine sk_if_eq F 12 dX5_confirm_5 (by decide) (fun h4 => ?_) (fun h4 => ?_)
  · refine sk_iconst (x := 1) F dX5_confirm_12 (by decide) ?_
    exact kX5_confirm_13 ⟨F, hK, hA, hZ, hr, hlocks⟩ v2 1
  · refine sk_iconst (x := 0) F dX5_confirm_8 (by decide) ?_
    refine sk_goto F 13 dX5_confirm_9 (by decide) ?_
    exact kX5_confirm_13 ⟨F, hK, hA, hZ, hr, hlocks⟩ v2 0
theorem tX5_confirm {l : Launch} {D : va_G} {A : Nat → Prop} {cI cS cF cZ cJ : ClassId} {ad : Nat → Nat} {X : va_W} {p1 : Int32} (v : Mem) : CI l yX5_confirm wsX5_confirm rmX5_confirm D A (ty5 cI cS cF cZ cJ) (Wr cI cZ ad X) [.ref (ad 0), .int p1] v (fX5_confirm p1 v) :=
  CI_of (cc := cX5_confirm) (maxL := 2) (ret := (some .boolean)) (by decide) rfl (Nat.le_of_ble_eq_true rfl) (fun p e s m below meth c G => kX5_confirm_0 G v)
def rmX5_isOn : Room := { frames := 0, cells := 0, slots := 0, locals := 0 }
theorem iX5_isOn_5 : ∀ w ∈ wsX50, w ∈ wsX5_isOn := by decide +kernel
def fX5_isOn_46 (p1 : Int32) (p2 : Int32) (v : Mem) : Option (Int32 × Mem) := some (0, v)
set_option maxRecDepth 100000 in
set_option maxHeartbeats 4000000 in
theorem kX5_isOn_46 {p : Program} {l : Launch} {e : Env} {s : State} {m : MethodId} {args : Array Value} {below : List Frame} {meth : Method} {c : Code} {D : va_G} {A : Nat → Prop} {cI cS cF cZ cJ : ClassId} {ad : Nat → Nat} {X : va_W} {p1 : Int32} {p2 : Int32} (G : cx p s m args meth c cX5_isOn 3 wsX5_isOn RX5 D (ty5 cI cS cF cZ cJ) A (some .boolean)) (v : Mem) : sk p l e rmX5_isOn s m args below meth c D A 3 0 0 (fun res => MQ below (qi D A (ty5 cI cS cF cZ cJ) (Wr cI cZ ad X) res) args s 0 0 A) (Wr cI cZ ad X v) 46 [] [] (fX5_isOn_46 p1 p2 v) := by
  obtain ⟨F, hK, hA, hZ, hr, hlocks⟩ := G
  refine sk_eq (K' := some (0, v)) rfl ?_
  refine sk_iconst (x := 0) F dX5_isOn_46 (by decide) ?_
  exact sk_zretc F hK hr hlocks (by decide) dX5_isOn_47
def fX5_isOn (p1 : Int32) (p2 : Int32) (v : Mem) : Option (Int32 × Mem) := if p2 < 0 then fX5_isOn_46 p1 p2 v else if (v 0 1) ≤ p2 then fX5_isOn_46 p1 p2 v else gd (inb ((24 * p1) + p2) 48) (if (v 17 ((24 * p1) + p2).toNatClampNeg) < 50 then fX5_isOn_46 p1 p2 v else gd (inb ((24 * p1) + p2) 48) (if (v 18 ((24 * p1) + p2).toNatClampNeg) = 0 then some (1, v) else fX5_isOn_46 p1 p2 v))
set_option maxRecDepth 100000 in
set_option maxHeartbeats 4000000 in
theorem kX5_isOn_0 {p : Program} {l : Launch} {e : Env} {s : State} {m : MethodId} {args : Array Value} {below : List Frame} {meth : Method} {c : Code} {D : va_G} {A : Nat → Prop} {cI cS cF cZ cJ : ClassId} {ad : Nat → Nat} {X : va_W} {p1 : Int32} {p2 : Int32} (G : cx p s m args meth c cX5_isOn 3 wsX5_isOn RX5 D (ty5 cI cS cF cZ cJ) A (some .boolean)) (v : Mem) : sk p l e rmX5_isOn s m args below meth c D A 3 0 0 (fun res => MQ below (qi D A (ty5 cI cS cF cZ cJ) (Wr cI cZ ad X) res) args s 0 0 A) (Wr cI cZ ad X v) 0 [(0, .ref (ad 0)), (1, .int p1), (2, .int p2)] [] (fX5_isOn p1 p2 v) := by
  obtain ⟨F, hK, hA, hZ, hr, hlocks⟩ := G
  refine sk_eq (K' := if p2 < 0 then fX5_isOn_46 p1 p2 v else if (v 0 1) ≤ p2 then fX5_isOn_46 p1 p2 v else gd (inb ((24 * p1) + p2) 48) (if (v 17 ((24 * p1) + p2).toNatClampNeg) < 50 then fX5_isOn_46 p1 p2 v else gd (inb ((24 * p1) + p2) 48) (if (v 18 ((24 * p1) + p2).toNatClampNeg) = 0 then some (1, v) else fX5_isOn_46 p1 p2 v))) rfl ?_
  refine sk_iload_n F dX5_isOn_0 rfl 2 rfl ?_
  refine sk_if_lt F 46 dX5_isOn_1 (by decide) (fun h1 => ?_) (fun h1 => ?_)
  · exact sk_lv [] rfl (kX5_isOn_46 ⟨F, hK, hA, hZ, hr, hlocks⟩ v)
  · refine sk_iload_n F dX5_isOn_4 rfl 2 rfl ?_
    refine sk_aload_n F dX5_isOn_5 rfl 0 rfl ?_
    refine sk_get (ref := "TunnelWatchModel") F hK (Lr_mem (by decide)) (shR_0 _) rfl iX5_isOn_5 1 (by decide) (by decide +kernel) (fun _ h9 => h9) rfl dX5_isOn_6 ?_
    refine sk_icmp_ge F 46 dX5_isOn_9 (by decide) (fun h2 => ?_) (fun h2 => ?_)
    · exact sk_lv [] rfl (kX5_isOn_46 ⟨F, hK, hA, hZ, hr, hlocks⟩ v)
    · refine sk_aload_n F dX5_isOn_12 rfl 0 rfl ?_
      refine sk_get (ref := "TunnelWatchModel") F hK (Lr_mem (by decide)) (shR_0 _) rfl iX5_isOn_5 17 (by decide) (by decide +kernel) (fun _ h9 => h9) rfl dX5_isOn_13 ?_
      refine sk_bipush (x := 24) F dX5_isOn_16 (by decide) ?_
      refine sk_iload_n F dX5_isOn_18 rfl 1 rfl ?_
      refine sk_imul F dX5_isOn_19 ?_
      refine sk_iload_n F dX5_isOn_20 rfl 2 rfl ?_
      refine sk_iadd F dX5_isOn_21 ?_
      refine sk_iald F hK (Lr_mem (by decide)) (shR_17 _) 0 rfl dX5_isOn_22 (fun h3 => ?_)
      refine sk_bipush (x := 50) F dX5_isOn_23 (by decide) ?_
      refine sk_icmp_lt F 46 dX5_isOn_25 (by decide) (fun h4 => ?_) (fun h4 => ?_)
      · exact sk_lv [] rfl (kX5_isOn_46 ⟨F, hK, hA, hZ, hr, hlocks⟩ v)
      · refine sk_aload_n F dX5_isOn_28 rfl 0 rfl ?_
        refine sk_get (ref := "TunnelWatchModel") F hK (Lr_mem (by decide)) (shR_0 _) rfl iX5_isOn_5 18 (by decide) (by decide +kernel) (fun _ h9 => h9) rfl dX5_isOn_29 ?_
        refine sk_bipush (x := 24) F dX5_isOn_32 (by decide) ?_
        refine sk_iload_n F dX5_isOn_34 rfl 1 rfl ?_
        refine sk_imul F dX5_isOn_35 ?_
        refine sk_iload_n F dX5_isOn_36 rfl 2 rfl ?_
        refine sk_iadd F dX5_isOn_37 ?_
        refine sk_zald F hK (Lr_mem (by decide)) (shR_18 _) 3 rfl dX5_isOn_38 (fun h5 => ?_)
        refine sk_if_ne F 46 dX5_isOn_39 (by decide) (fun h6 => ?_) (fun h6 => ?_)
        · exact sk_lv [] rfl (kX5_isOn_46 ⟨F, hK, hA, hZ, hr, hlocks⟩ v)
        · refine sk_iconst (x := 1) F dX5_isOn_42 (by decide) ?_
          refine sk_goto F 47 dX5_isOn_43 (by decide) ?_
          exact sk_zretc F hK hr hlocks (by decide) dX5_isOn_47
theorem tX5_isOn {l : Launch} {D : va_G} {A : Nat → Prop} {cI cS cF cZ cJ : ClassId} {ad : Nat → Nat} {X : va_W} {p1 : Int32} {p2 : Int32} (v : Mem) : CI l yX5_isOn wsX5_isOn rmX5_isOn D A (ty5 cI cS cF cZ cJ) (Wr cI cZ ad X) [.ref (ad 0), .int p1, .int p2] v (fX5_isOn p1 p2 v) :=
  CI_of (cc := cX5_isOn) (maxL := 3) (ret := (some .boolean)) (by decide) rfl (Nat.le_of_ble_eq_true rfl) (fun p e s m below meth c G => kX5_isOn_0 G v)
def rmX5_leastOn : Room := { frames := 1, cells := 0, slots := 0, locals := 22 }
theorem iX5_leastOn_5 : ∀ w ∈ wsX50, w ∈ wsX5_leastOn := by decide +kernel
def fX5_leastOn_9 (p1 : Int32) : Nat → Mem → Int32 → Int32 → Option (Int32 × Mem)
  | 0, _, _, _ => none
  | fuel + 1, v, l2, l3 => if l3 < 0 then some (l2, v) else bd (fX5_isOn p1 l3 v) fun x4 v3 => if x4 = 0 then fX5_leastOn_9 p1 fuel v3 l2 (l3 + (-1)) else fX5_leastOn_9 p1 fuel v3 l3 (l3 + (-1))
set_option maxRecDepth 100000 in
set_option maxHeartbeats 4000000 in
theorem kX5_leastOn_9 {p : Program} {l : Launch} {e : Env} {s : State} {m : MethodId} {args : Array Value} {below : List Frame} {meth : Method} {c : Code} {D : va_G} {A : Nat → Prop} {cI cS cF cZ cJ : ClassId} {ad : Nat → Nat} {X : va_W} {p1 : Int32} (G : cx p s m args meth c cX5_leastOn 4 wsX5_leastOn RX5 D (ty5 cI cS cF cZ cJ) A (some .int)) : ∀ (fuel : Nat) (v : Mem) (l2 : Int32) (l3 : Int32), sk p l e rmX5_leastOn s m args below meth c D A 4 0 0 (fun res => MQ below (qi D A (ty5 cI cS cF cZ cJ) (Wr cI cZ ad X) res) args s 0 0 A) (Wr cI cZ ad X v) 9 [(0, .ref (ad 0)), (1, .int p1), (2, .int l2), (3, .int l3)] [] (fX5_leastOn_9 p1 fuel v l2 l3) := by
  obtain ⟨F, hK, hA, hZ, hr, hlocks⟩ := G
  intro fuel
  induction fuel with
  | zero => intro v l2 l3; exact sk_none
  | succ fuel ih =>
    intro v l2 l3
    refine sk_eq (K' := if l3 < 0 then some (l2, v) else bd (fX5_isOn p1 l3 v) fun x4 v3 => if x4 = 0 then fX5_leastOn_9 p1 fuel v3 l2 (l3 + (-1)) else fX5_leastOn_9 p1 fuel v3 l3 (l3 + (-1))) rfl ?_
    refine sk_iload_n F dX5_leastOn_9 rfl 3 rfl ?_
    refine sk_if_lt F 34 dX5_leastOn_10 (by decide) (fun h1 => ?_) (fun h1 => ?_)
    · refine sk_iload_n F dX5_leastOn_34 rfl 2 rfl ?_
      exact sk_iret F hK hr hlocks dX5_leastOn_35
    · refine sk_aload_n F dX5_leastOn_13 rfl 0 rfl ?_
      refine sk_iload_n F dX5_leastOn_14 rfl 1 rfl ?_
      refine sk_iload_n F dX5_leastOn_15 rfl 3 rfl ?_
      refine sk_callVi (As := [.int p1, .int l3]) (rest := []) F hK hA hZ _ (tX5_isOn _) (cwV 2 F.2.2.2.2 gX5_leastOn_X5_isOn rfl rfl rfl (by decide +kernel) ⟨Nat.le_of_ble_eq_true rfl, Nat.le_of_ble_eq_true rfl⟩) (rc5 hK) rfl rfl (Nat.le_of_ble_eq_true rfl) (by decide) dX5_leastOn_16 (fun x4 v3 c2 => ?_)
      refine sk_if_eq F 26 dX5_leastOn_19 (by decide) (fun h5 => ?_) (fun h5 => ?_)
      · refine sk_iload_n F dX5_leastOn_26 rfl 2 rfl ?_
        refine sk_istore_n F dX5_leastOn_27 rfl (by decide) rfl ?_
        refine sk_iinc (y := l3 + (-1)) F dX5_leastOn_28 3 rfl rfl (by decide) rfl ?_
        refine sk_goto F 9 dX5_leastOn_31 (by decide) ?_
        exact sk_lv [2, 3, 1, 0] rfl (ih v3 l2 (l3 + (-1)))
      · refine sk_iload_n F dX5_leastOn_22 rfl 3 rfl ?_
        refine sk_goto F 27 dX5_leastOn_23 (by decide) ?_
        refine sk_istore_n F dX5_leastOn_27 rfl (by decide) rfl ?_
        refine sk_iinc (y := l3 + (-1)) F dX5_leastOn_28 3 rfl rfl (by decide) rfl ?_
        refine sk_goto F 9 dX5_leastOn_31 (by decide) ?_
        exact sk_lv [2, 3, 1, 0] rfl (ih v3 l3 (l3 + (-1)))
def fX5_leastOn (p1 : Int32) (v : Mem) : Option (Int32 × Mem) := fX5_leastOn_9 p1 1000 v (-1) ((v 0 1) - 1)
set_option maxRecDepth 100000 in
set_option maxHeartbeats 4000000 in
theorem kX5_leastOn_0 {p : Program} {l : Launch} {e : Env} {s : State} {m : MethodId} {args : Array Value} {below : List Frame} {meth : Method} {c : Code} {D : va_G} {A : Nat → Prop} {cI cS cF cZ cJ : ClassId} {ad : Nat → Nat} {X : va_W} {p1 : Int32} (G : cx p s m args meth c cX5_leastOn 4 wsX5_leastOn RX5 D (ty5 cI cS cF cZ cJ) A (some .int)) (v : Mem) : sk p l e rmX5_leastOn s m args below meth c D A 4 0 0 (fun res => MQ below (qi D A (ty5 cI cS cF cZ cJ) (Wr cI cZ ad X) res) args s 0 0 A) (Wr cI cZ ad X v) 0 [(0, .ref (ad 0)), (1, .int p1)] [] (fX5_leastOn p1 v) := by
  obtain ⟨F, hK, hA, hZ, hr, hlocks⟩ := G
  refine sk_eq (K' := fX5_leastOn_9 p1 1000 v (-1) ((v 0 1) - 1)) rfl ?_
  refine sk_iconst (x := (-1)) F dX5_leastOn_0 (by decide) ?_
  refine sk_istore_n F dX5_leastOn_1 rfl (by decide) rfl ?_
  refine sk_aload_n F dX5_leastOn_2 rfl 1 rfl ?_
  refine sk_get (ref := "TunnelWatchModel") F hK (Lr_mem (by decide)) (shR_0 _) rfl iX5_leastOn_5 1 (by decide) (by decide +kernel) (fun _ h9 => h9) rfl dX5_leastOn_3 ?_
  refine sk_iconst (x := 1) F dX5_leastOn_6 (by decide) ?_
  refine sk_isub F dX5_leastOn_7 ?_
  refine sk_istore_n F dX5_leastOn_8 rfl (by decide) rfl ?_
  exact sk_lv [2, 3, 1, 0] rfl (kX5_leastOn_9 ⟨F, hK, hA, hZ, hr, hlocks⟩ 1000 v (-1) ((v 0 1) - 1))
theorem tX5_leastOn {l : Launch} {D : va_G} {A : Nat → Prop} {cI cS cF cZ cJ : ClassId} {ad : Nat → Nat} {X : va_W} {p1 : Int32} (v : Mem) : CI l yX5_leastOn wsX5_leastOn rmX5_leastOn D A (ty5 cI cS cF cZ cJ) (Wr cI cZ ad X) [.ref (ad 0), .int p1] v (fX5_leastOn p1 v) :=
  CI_of (cc := cX5_leastOn) (maxL := 4) (ret := (some .int)) (by decide) rfl (Nat.le_of_ble_eq_true rfl) (fun p e s m below meth c G => kX5_leastOn_0 G v)
def rmX5_reset : Room := { frames := 2, cells := 0, slots := 0, locals := 45 }
theorem iX5_reset_5 : ∀ w ∈ wsX50, w ∈ wsX5_reset := by decide +kernel
def fX5_reset_35 (p1 : Int32) : Nat → Mem → Int32 → Option (Int32 × Mem)
  | 0, _, _ => none
  | fuel + 1, v, l2 => if (v 0 1) ≤ l2 then gd (inb p1 2) (gd (inb p1 2) (some (1, up2 (up2 v 25 p1.toNatClampNeg 0) 26 p1.toNatClampNeg (-1)))) else gd (inb ((24 * p1) + l2) 48) (fX5_reset_35 p1 fuel (up2 v 19 ((24 * p1) + l2).toNatClampNeg (vp_nar .boolean 0)) (l2 + 1))
set_option maxRecDepth 100000 in
set_option maxHeartbeats 4000000 in
theorem kX5_reset_35 {p : Program} {l : Launch} {e : Env} {s : State} {m : MethodId} {args : Array Value} {below : List Frame} {meth : Method} {c : Code} {D : va_G} {A : Nat → Prop} {cI cS cF cZ cJ : ClassId} {ad : Nat → Nat} {X : va_W} {p1 : Int32} (G : cx p s m args meth c cX5_reset 3 wsX5_reset RX5 D (ty5 cI cS cF cZ cJ) A (some .boolean)) : ∀ (fuel : Nat) (v : Mem) (l2 : Int32), sk p l e rmX5_reset s m args below meth c D A 3 0 0 (fun res => MQ below (qi D A (ty5 cI cS cF cZ cJ) (Wr cI cZ ad X) res) args s 0 0 A) (Wr cI cZ ad X v) 35 [(0, .ref (ad 0)), (1, .int p1), (2, .int l2)] [] (fX5_reset_35 p1 fuel v l2) := by
  obtain ⟨F, hK, hA, hZ, hr, hlocks⟩ := G
  intro fuel
  induction fuel with
  | zero => intro v l2; exact sk_none
  | succ fuel ih =>
    intro v l2
    refine sk_eq (K' := if (v 0 1) ≤ l2 then gd (inb p1 2) (gd (inb p1 2) (some (1, up2 (up2 v 25 p1.toNatClampNeg 0) 26 p1.toNatClampNeg (-1)))) else gd (inb ((24 * p1) + l2) 48) (fX5_reset_35 p1 fuel (up2 v 19 ((24 * p1) + l2).toNatClampNeg (vp_nar .boolean 0)) (l2 + 1))) rfl ?_
    refine sk_iload_n F dX5_reset_35 rfl 2 rfl ?_
    refine sk_aload_n F dX5_reset_36 rfl 0 rfl ?_
    refine sk_get (ref := "TunnelWatchModel") F hK (Lr_mem (by decide)) (shR_0 _) rfl iX5_reset_5 1 (by decide) (by decide +kernel) (fun _ h9 => h9) rfl dX5_reset_37 ?_
    refine sk_icmp_ge F 61 dX5_reset_40 (by decide) (fun h10 => ?_) (fun h10 => ?_)
    · refine sk_aload_n F dX5_reset_61 rfl 0 rfl ?_
      refine sk_get (ref := "TunnelWatchModel") F hK (Lr_mem (by decide)) (shR_0 _) rfl iX5_reset_5 25 (by decide) (by decide +kernel) (fun _ h9 => h9) rfl dX5_reset_62 ?_
      refine sk_iload_n F dX5_reset_65 rfl 1 rfl ?_
      refine sk_iconst (x := 0) F dX5_reset_66 (by decide) ?_
      refine sk_iast F hK Lr_nd (Lr_mem (by decide)) shR_25 0 rfl dX5_reset_67 (fun h11 => ?_)
      refine sk_aload_n F dX5_reset_68 rfl 0 rfl ?_
      refine sk_get (ref := "TunnelWatchModel") F hK (Lr_mem (by decide)) (shR_0 _) rfl iX5_reset_5 26 (by decide) (by decide +kernel) (fun _ h9 => h9) rfl dX5_reset_69 ?_
      refine sk_iload_n F dX5_reset_72 rfl 1 rfl ?_
      refine sk_iconst (x := (-1)) F dX5_reset_73 (by decide) ?_
      refine sk_iast F hK Lr_nd (Lr_mem (by decide)) shR_26 0 rfl dX5_reset_74 (fun h12 => ?_)
      refine sk_iconst (x := 1) F dX5_reset_75 (by decide) ?_
      exact sk_zretc F hK hr hlocks (by decide) dX5_reset_76
    · refine sk_aload_n F dX5_reset_43 rfl 0 rfl ?_
      refine sk_get (ref := "TunnelWatchModel") F hK (Lr_mem (by decide)) (shR_0 _) rfl iX5_reset_5 19 (by decide) (by decide +kernel) (fun _ h9 => h9) rfl dX5_reset_44 ?_
      refine sk_bipush (x := 24) F dX5_reset_47 (by decide) ?_
      refine sk_iload_n F dX5_reset_49 rfl 1 rfl ?_
      refine sk_imul F dX5_reset_50 ?_
      refine sk_iload_n F dX5_reset_51 rfl 2 rfl ?_
      refine sk_iadd F dX5_reset_52 ?_
      refine sk_iconst (x := 0) F dX5_reset_53 (by decide) ?_
      refine sk_zast F hK Lr_nd (Lr_mem (by decide)) shR_19 3 rfl dX5_reset_54 (fun h13 => ?_)
      refine sk_iinc (y := l2 + 1) F dX5_reset_55 2 rfl rfl (by decide) rfl ?_
      refine sk_goto F 35 dX5_reset_58 (by decide) ?_
      exact sk_lv [1, 2, 0] rfl (ih (up2 v 19 ((24 * p1) + l2).toNatClampNeg (vp_nar .boolean 0)) (l2 + 1))
def fX5_reset_13 (p1 : Int32) (v : Mem) (s0 : Int32) : Option (Int32 × Mem) := if 0 < ((up2 v 0 0 s0) 0 0) then some (0, up2 v 0 0 s0) else bd (fX5_leastOn p1 (up2 v 0 0 s0)) fun x8 v7 => if x8 < 0 then fX5_reset_35 p1 1000 v7 0 else some (0, v7)
set_option maxRecDepth 100000 in
set_option maxHeartbeats 4000000 in
theorem kX5_reset_13 {p : Program} {l : Launch} {e : Env} {s : State} {m : MethodId} {args : Array Value} {below : List Frame} {meth : Method} {c : Code} {D : va_G} {A : Nat → Prop} {cI cS cF cZ cJ : ClassId} {ad : Nat → Nat} {X : va_W} {p1 : Int32} (G : cx p s m args meth c cX5_reset 3 wsX5_reset RX5 D (ty5 cI cS cF cZ cJ) A (some .boolean)) (v : Mem) (s0 : Int32) : sk p l e rmX5_reset s m args below meth c D A 3 0 0 (fun res => MQ below (qi D A (ty5 cI cS cF cZ cJ) (Wr cI cZ ad X) res) args s 0 0 A) (Wr cI cZ ad X v) 13 [(0, .ref (ad 0)), (1, .int p1)] [.int s0, .ref (ad 0)] (fX5_reset_13 p1 v s0) := by
  obtain ⟨F, hK, hA, hZ, hr, hlocks⟩ := G
  refine sk_eq (K' := if 0 < ((up2 v 0 0 s0) 0 0) then some (0, up2 v 0 0 s0) else bd (fX5_leastOn p1 (up2 v 0 0 s0)) fun x8 v7 => if x8 < 0 then fX5_reset_35 p1 1000 v7 0 else some (0, v7)) rfl ?_
  refine sk_put (ref := "TunnelWatchModel") (fs := fun r => fs5 ad r) (ty := .int) F hK Lr_nd (Lr_mem (by decide)) shR_0 rfl iX5_reset_5 tyX5 tyX5_ok nmX5 0 (by decide) (by decide +kernel) (fun _ h9 => h9) rfl (by decide +kernel) rfl rfl (Nat.le_of_ble_eq_true rfl) rfl dX5_reset_13 ?_
  refine sk_aload_n F dX5_reset_16 rfl 0 rfl ?_
  refine sk_get (ref := "TunnelWatchModel") F hK (Lr_mem (by decide)) (shR_0 _) rfl iX5_reset_5 0 (by decide) (by decide +kernel) (fun _ h9 => h9) rfl dX5_reset_17 ?_
  refine sk_if_gt F 31 dX5_reset_20 (by decide) (fun h5 => ?_) (fun h5 => ?_)
  · refine sk_iconst (x := 0) F dX5_reset_31 (by decide) ?_
    exact sk_zretc F hK hr hlocks (by decide) dX5_reset_32
  · refine sk_aload_n F dX5_reset_23 rfl 0 rfl ?_
    refine sk_iload_n F dX5_reset_24 rfl 1 rfl ?_
    refine sk_callVi (As := [.int p1]) (rest := []) F hK hA hZ _ (tX5_leastOn _) (cwV 1 F.2.2.2.2 gX5_reset_X5_leastOn rfl rfl rfl (by decide +kernel) ⟨Nat.le_of_ble_eq_true rfl, Nat.le_of_ble_eq_true rfl⟩) (rc5 hK) rfl rfl (Nat.le_of_ble_eq_true rfl) (by decide) dX5_reset_25 (fun x8 v7 c6 => ?_)
    refine sk_if_lt F 33 dX5_reset_28 (by decide) (fun h9 => ?_) (fun h9 => ?_)
    · refine sk_iconst (x := 0) F dX5_reset_33 (by decide) ?_
      refine sk_istore_n F dX5_reset_34 rfl (by decide) rfl ?_
      exact sk_lv [1, 2, 0] rfl (kX5_reset_35 ⟨F, hK, hA, hZ, hr, hlocks⟩ 1000 v7 0)
    · refine sk_iconst (x := 0) F dX5_reset_31 (by decide) ?_
      exact sk_zretc F hK hr hlocks (by decide) dX5_reset_32
def fX5_reset (p1 : Int32) (v : Mem) : Option (Int32 × Mem) := bd (fX5_isTube p1 v) fun x3 v2 => if x3 = 0 then fX5_reset_13 p1 v2 1 else fX5_reset_13 p1 v2 0
set_option maxRecDepth 100000 in
set_option maxHeartbeats 4000000 in
theorem kX5_reset_0 {p : Program} {l : Launch} {e : Env} {s : State} {m : MethodId} {args : Array Value} {below : List Frame} {meth : Method} {c : Code} {D : va_G} {A : Nat → Prop} {cI cS cF cZ cJ : ClassId} {ad : Nat → Nat} {X : va_W} {p1 : Int32} (G : cx p s m args meth c cX5_reset 3 wsX5_reset RX5 D (ty5 cI cS cF cZ cJ) A (some .boolean)) (v : Mem) : sk p l e rmX5_reset s m args below meth c D A 3 0 0 (fun res => MQ below (qi D A (ty5 cI cS cF cZ cJ) (Wr cI cZ ad X) res) args s 0 0 A) (Wr cI cZ ad X v) 0 [(0, .ref (ad 0)), (1, .int p1)] [] (fX5_reset p1 v) := by
  obtain ⟨F, hK, hA, hZ, hr, hlocks⟩ := G
  refine sk_eq (K' := bd (fX5_isTube p1 v) fun x3 v2 => if x3 = 0 then fX5_reset_13 p1 v2 1 else fX5_reset_13 p1 v2 0) rfl ?_
  refine sk_aload_n F dX5_reset_0 rfl 0 rfl ?_
  refine sk_iload_n F dX5_reset_1 rfl 1 rfl ?_
  refine sk_callSi (As := [.int p1]) (rest := [.ref (ad 0)]) F hK hA hZ _ (tX5_isTube _) (va_cwS 1 F.2.2.2.2 gX5_reset_X5_isTube rfl rfl rfl (by decide +kernel) ⟨Nat.le_of_ble_eq_true rfl, Nat.le_of_ble_eq_true rfl⟩) rfl rfl (Nat.le_of_ble_eq_true rfl) (by decide) dX5_reset_2 (fun x3 v2 c1 => ?_)
  refine sk_if_eq F 12 dX5_reset_5 (by decide) (fun h4 => ?_) (fun h4 => ?_)
  · refine sk_iconst (x := 1) F dX5_reset_12 (by decide) ?_
    exact kX5_reset_13 ⟨F, hK, hA, hZ, hr, hlocks⟩ v2 1
  · refine sk_iconst (x := 0) F dX5_reset_8 (by decide) ?_
    refine sk_goto F 13 dX5_reset_9 (by decide) ?_
    exact kX5_reset_13 ⟨F, hK, hA, hZ, hr, hlocks⟩ v2 0
theorem tX5_reset {l : Launch} {D : va_G} {A : Nat → Prop} {cI cS cF cZ cJ : ClassId} {ad : Nat → Nat} {X : va_W} {p1 : Int32} (v : Mem) : CI l yX5_reset wsX5_reset rmX5_reset D A (ty5 cI cS cF cZ cJ) (Wr cI cZ ad X) [.ref (ad 0), .int p1] v (fX5_reset p1 v) :=
  CI_of (cc := cX5_reset) (maxL := 3) (ret := (some .boolean)) (by decide) rfl (Nat.le_of_ble_eq_true rfl) (fun p e s m below meth c G => kX5_reset_0 G v)
def rmX5_wish : Room := { frames := 1, cells := 0, slots := 0, locals := 20 }
theorem iX5_wish_5 : ∀ w ∈ wsX50, w ∈ wsX5_wish := by decide +kernel
def fX5_wish_23 (p1 : Int32) (p2 : Int32) (p3 : Int32) (v : Mem) (s0 : Int32) : Option (Mem) := if ((up2 v 0 0 s0) 0 0) = 0 then bd (fX5_turnOf p2 (up2 v 0 0 s0)) fun x10 v9 => gd (inb p1 2) (gd (inb p1 2) (some (up2 (up2 v9 28 p1.toNatClampNeg x10) 29 p1.toNatClampNeg p3))) else some (up2 v 0 0 s0)
set_option maxRecDepth 100000 in
set_option maxHeartbeats 4000000 in
theorem kX5_wish_23 {p : Program} {l : Launch} {e : Env} {s : State} {m : MethodId} {args : Array Value} {below : List Frame} {meth : Method} {c : Code} {D : va_G} {A : Nat → Prop} {cI cS cF cZ cJ : ClassId} {ad : Nat → Nat} {X : va_W} {p1 : Int32} {p2 : Int32} {p3 : Int32} (G : cx p s m args meth c cX5_wish 4 wsX5_wish RX5 D (ty5 cI cS cF cZ cJ) A none) (v : Mem) (s0 : Int32) : sk p l e rmX5_wish s m args below meth c D A 4 0 0 (fun res => MQ below (qv D A (ty5 cI cS cF cZ cJ) (Wr cI cZ ad X) res) args s 0 0 A) (Wr cI cZ ad X v) 23 [(0, .ref (ad 0)), (1, .int p1), (2, .int p2), (3, .int p3)] [.int s0, .ref (ad 0)] (fX5_wish_23 p1 p2 p3 v s0) := by
  obtain ⟨F, hK, hA, hZ, hr, hlocks⟩ := G
  refine sk_eq (K' := if ((up2 v 0 0 s0) 0 0) = 0 then bd (fX5_turnOf p2 (up2 v 0 0 s0)) fun x10 v9 => gd (inb p1 2) (gd (inb p1 2) (some (up2 (up2 v9 28 p1.toNatClampNeg x10) 29 p1.toNatClampNeg p3))) else some (up2 v 0 0 s0)) rfl ?_
  refine sk_put (ref := "TunnelWatchModel") (fs := fun r => fs5 ad r) (ty := .int) F hK Lr_nd (Lr_mem (by decide)) shR_0 rfl iX5_wish_5 tyX5 tyX5_ok nmX5 0 (by decide) (by decide +kernel) (fun _ h9 => h9) rfl (by decide +kernel) rfl rfl (Nat.le_of_ble_eq_true rfl) rfl dX5_wish_23 ?_
  refine sk_aload_n F dX5_wish_26 rfl 0 rfl ?_
  refine sk_get (ref := "TunnelWatchModel") F hK (Lr_mem (by decide)) (shR_0 _) rfl iX5_wish_5 0 (by decide) (by decide +kernel) (fun _ h9 => h9) rfl dX5_wish_27 ?_
  refine sk_if_ne F 50 dX5_wish_30 (by decide) (fun h7 => ?_) (fun h7 => ?_)
  · exact sk_vret F hK hr hlocks dX5_wish_50
  · refine sk_aload_n F dX5_wish_33 rfl 0 rfl ?_
    refine sk_get (ref := "TunnelWatchModel") F hK (Lr_mem (by decide)) (shR_0 _) rfl iX5_wish_5 28 (by decide) (by decide +kernel) (fun _ h9 => h9) rfl dX5_wish_34 ?_
    refine sk_iload_n F dX5_wish_37 rfl 1 rfl ?_
    refine sk_iload_n F dX5_wish_38 rfl 2 rfl ?_
    refine sk_callSi (As := [.int p2]) (rest := [.int p1, .ref (ad 28)]) F hK hA hZ _ (tX5_turnOf _) (va_cwS 1 F.2.2.2.2 gX5_wish_X5_turnOf rfl rfl rfl (by decide +kernel) ⟨Nat.le_of_ble_eq_true rfl, Nat.le_of_ble_eq_true rfl⟩) rfl rfl (Nat.le_of_ble_eq_true rfl) (by decide) dX5_wish_39 (fun x10 v9 c8 => ?_)
    refine sk_iast F hK Lr_nd (Lr_mem (by decide)) shR_28 0 rfl dX5_wish_42 (fun h11 => ?_)
    refine sk_aload_n F dX5_wish_43 rfl 0 rfl ?_
    refine sk_get (ref := "TunnelWatchModel") F hK (Lr_mem (by decide)) (shR_0 _) rfl iX5_wish_5 29 (by decide) (by decide +kernel) (fun _ h9 => h9) rfl dX5_wish_44 ?_
    refine sk_iload_n F dX5_wish_47 rfl 1 rfl ?_
    refine sk_iload_n F dX5_wish_48 rfl 3 rfl ?_
    refine sk_iast F hK Lr_nd (Lr_mem (by decide)) shR_29 0 rfl dX5_wish_49 (fun h12 => ?_)
    exact sk_vret F hK hr hlocks dX5_wish_50
def fX5_wish_22 (p1 : Int32) (p2 : Int32) (p3 : Int32) (v : Mem) : Option (Mem) := fX5_wish_23 p1 p2 p3 v 1
set_option maxRecDepth 100000 in
set_option maxHeartbeats 4000000 in
theorem kX5_wish_22 {p : Program} {l : Launch} {e : Env} {s : State} {m : MethodId} {args : Array Value} {below : List Frame} {meth : Method} {c : Code} {D : va_G} {A : Nat → Prop} {cI cS cF cZ cJ : ClassId} {ad : Nat → Nat} {X : va_W} {p1 : Int32} {p2 : Int32} {p3 : Int32} (G : cx p s m args meth c cX5_wish 4 wsX5_wish RX5 D (ty5 cI cS cF cZ cJ) A none) (v : Mem) : sk p l e rmX5_wish s m args below meth c D A 4 0 0 (fun res => MQ below (qv D A (ty5 cI cS cF cZ cJ) (Wr cI cZ ad X) res) args s 0 0 A) (Wr cI cZ ad X v) 22 [(0, .ref (ad 0)), (1, .int p1), (2, .int p2), (3, .int p3)] [.ref (ad 0)] (fX5_wish_22 p1 p2 p3 v) := by
  obtain ⟨F, hK, hA, hZ, hr, hlocks⟩ := G
  refine sk_eq (K' := fX5_wish_23 p1 p2 p3 v 1) rfl ?_
  refine sk_iconst (x := 1) F dX5_wish_22 (by decide) ?_
  exact kX5_wish_23 ⟨F, hK, hA, hZ, hr, hlocks⟩ v 1
def fX5_wish (p1 : Int32) (p2 : Int32) (p3 : Int32) (v : Mem) : Option (Mem) := bd (fX5_isTube p1 v) fun x3 v2 => if x3 = 0 then fX5_wish_22 p1 p2 p3 v2 else if p3 < 0 then fX5_wish_22 p1 p2 p3 v2 else if 12 < p3 then fX5_wish_22 p1 p2 p3 v2 else fX5_wish_23 p1 p2 p3 v2 0
set_option maxRecDepth 100000 in
set_option maxHeartbeats 4000000 in
theorem kX5_wish_0 {p : Program} {l : Launch} {e : Env} {s : State} {m : MethodId} {args : Array Value} {below : List Frame} {meth : Method} {c : Code} {D : va_G} {A : Nat → Prop} {cI cS cF cZ cJ : ClassId} {ad : Nat → Nat} {X : va_W} {p1 : Int32} {p2 : Int32} {p3 : Int32} (G : cx p s m args meth c cX5_wish 4 wsX5_wish RX5 D (ty5 cI cS cF cZ cJ) A none) (v : Mem) : sk p l e rmX5_wish s m args below meth c D A 4 0 0 (fun res => MQ below (qv D A (ty5 cI cS cF cZ cJ) (Wr cI cZ ad X) res) args s 0 0 A) (Wr cI cZ ad X v) 0 [(0, .ref (ad 0)), (1, .int p1), (2, .int p2), (3, .int p3)] [] (fX5_wish p1 p2 p3 v) := by
  obtain ⟨F, hK, hA, hZ, hr, hlocks⟩ := G
  refine sk_eq (K' := bd (fX5_isTube p1 v) fun x3 v2 => if x3 = 0 then fX5_wish_22 p1 p2 p3 v2 else if p3 < 0 then fX5_wish_22 p1 p2 p3 v2 else if 12 < p3 then fX5_wish_22 p1 p2 p3 v2 else fX5_wish_23 p1 p2 p3 v2 0) rfl ?_
  refine sk_aload_n F dX5_wish_0 rfl 0 rfl ?_
  refine sk_iload_n F dX5_wish_1 rfl 1 rfl ?_
  refine sk_callSi (As := [.int p1]) (rest := [.ref (ad 0)]) F hK hA hZ _ (tX5_isTube _) (va_cwS 1 F.2.2.2.2 gX5_wish_X5_isTube rfl rfl rfl (by decide +kernel) ⟨Nat.le_of_ble_eq_true rfl, Nat.le_of_ble_eq_true rfl⟩) rfl rfl (Nat.le_of_ble_eq_true rfl) (by decide) dX5_wish_2 (fun x3 v2 c1 => ?_)
  refine sk_if_eq F 22 dX5_wish_5 (by decide) (fun h4 => ?_) (fun h4 => ?_)
  · exact kX5_wish_22 ⟨F, hK, hA, hZ, hr, hlocks⟩ v2
  · refine sk_iload_n F dX5_wish_8 rfl 3 rfl ?_
    refine sk_if_lt F 22 dX5_wish_9 (by decide) (fun h5 => ?_) (fun h5 => ?_)
    · exact kX5_wish_22 ⟨F, hK, hA, hZ, hr, hlocks⟩ v2
    · refine sk_iload_n F dX5_wish_12 rfl 3 rfl ?_
      refine sk_bipush (x := 12) F dX5_wish_13 (by decide) ?_
      refine sk_icmp_gt F 22 dX5_wish_15 (by decide) (fun h6 => ?_) (fun h6 => ?_)
      · exact kX5_wish_22 ⟨F, hK, hA, hZ, hr, hlocks⟩ v2
      · refine sk_iconst (x := 0) F dX5_wish_18 (by decide) ?_
        refine sk_goto F 23 dX5_wish_19 (by decide) ?_
        exact kX5_wish_23 ⟨F, hK, hA, hZ, hr, hlocks⟩ v2 0
theorem tX5_wish {l : Launch} {D : va_G} {A : Nat → Prop} {cI cS cF cZ cJ : ClassId} {ad : Nat → Nat} {X : va_W} {p1 : Int32} {p2 : Int32} {p3 : Int32} (v : Mem) : CV l yX5_wish wsX5_wish rmX5_wish D A (ty5 cI cS cF cZ cJ) (Wr cI cZ ad X) [.ref (ad 0), .int p1, .int p2, .int p3] v (fX5_wish p1 p2 p3 v) :=
  CV_of (cc := cX5_wish) (maxL := 4) (ret := none) (by decide) rfl (Nat.le_of_ble_eq_true rfl) (fun p e s m below meth c G => kX5_wish_0 G v)
def rmX5_order : Room := { frames := 1, cells := 0, slots := 0, locals := 20 }
theorem iX5_order_5 : ∀ w ∈ wsX50, w ∈ wsX5_order := by decide +kernel
def fX5_order_13 (p1 : Int32) (p2 : Int32) (v : Mem) (s0 : Int32) : Option (Int32 × Mem) := if ((up2 v 0 0 s0) 0 0) ≤ 0 then gd (inb p1 2) (gd (inb p1 2) (gd (bo ((up2 v 0 0 s0) 27 p1.toNatClampNeg)) (some ((up2 v 0 0 s0) 27 p1.toNatClampNeg, up2 (up2 v 0 0 s0) 27 p1.toNatClampNeg (vp_nar .boolean p2))))) else some (0, up2 v 0 0 s0)
set_option maxRecDepth 100000 in
set_option maxHeartbeats 4000000 in
theorem kX5_order_13 {p : Program} {l : Launch} {e : Env} {s : State} {m : MethodId} {args : Array Value} {below : List Frame} {meth : Method} {c : Code} {D : va_G} {A : Nat → Prop} {cI cS cF cZ cJ : ClassId} {ad : Nat → Nat} {X : va_W} {p1 : Int32} {p2 : Int32} (G : cx p s m args meth c cX5_order 4 wsX5_order RX5 D (ty5 cI cS cF cZ cJ) A (some .boolean)) (v : Mem) (s0 : Int32) : sk p l e rmX5_order s m args below meth c D A 4 0 0 (fun res => MQ below (qi D A (ty5 cI cS cF cZ cJ) (Wr cI cZ ad X) res) args s 0 0 A) (Wr cI cZ ad X v) 13 [(0, .ref (ad 0)), (1, .int p1), (2, .int p2)] [.int s0, .ref (ad 0)] (fX5_order_13 p1 p2 v s0) := by
  obtain ⟨F, hK, hA, hZ, hr, hlocks⟩ := G
  refine sk_eq (K' := if ((up2 v 0 0 s0) 0 0) ≤ 0 then gd (inb p1 2) (gd (inb p1 2) (gd (bo ((up2 v 0 0 s0) 27 p1.toNatClampNeg)) (some ((up2 v 0 0 s0) 27 p1.toNatClampNeg, up2 (up2 v 0 0 s0) 27 p1.toNatClampNeg (vp_nar .boolean p2))))) else some (0, up2 v 0 0 s0)) rfl ?_
  refine sk_put (ref := "TunnelWatchModel") (fs := fun r => fs5 ad r) (ty := .int) F hK Lr_nd (Lr_mem (by decide)) shR_0 rfl iX5_order_5 tyX5 tyX5_ok nmX5 0 (by decide) (by decide +kernel) (fun _ h9 => h9) rfl (by decide +kernel) rfl rfl (Nat.le_of_ble_eq_true rfl) rfl dX5_order_13 ?_
  refine sk_aload_n F dX5_order_16 rfl 0 rfl ?_
  refine sk_get (ref := "TunnelWatchModel") F hK (Lr_mem (by decide)) (shR_0 _) rfl iX5_order_5 0 (by decide) (by decide +kernel) (fun _ h9 => h9) rfl dX5_order_17 ?_
  refine sk_if_le F 25 dX5_order_20 (by decide) (fun h5 => ?_) (fun h5 => ?_)
  · refine sk_aload_n F dX5_order_25 rfl 0 rfl ?_
    refine sk_get (ref := "TunnelWatchModel") F hK (Lr_mem (by decide)) (shR_0 _) rfl iX5_order_5 27 (by decide) (by decide +kernel) (fun _ h9 => h9) rfl dX5_order_26 ?_
    refine sk_iload_n F dX5_order_29 rfl 1 rfl ?_
    refine sk_zald F hK (Lr_mem (by decide)) (shR_27 _) 3 rfl dX5_order_30 (fun h6 => ?_)
    refine sk_istore_n F dX5_order_31 rfl (by decide) rfl ?_
    refine sk_aload_n F dX5_order_32 rfl 1 rfl ?_
    refine sk_get (ref := "TunnelWatchModel") F hK (Lr_mem (by decide)) (shR_0 _) rfl iX5_order_5 27 (by decide) (by decide +kernel) (fun _ h9 => h9) rfl dX5_order_33 ?_
    refine sk_iload_n F dX5_order_36 rfl 2 rfl ?_
    refine sk_iload_n F dX5_order_37 rfl 3 rfl ?_
    refine sk_zast F hK Lr_nd (Lr_mem (by decide)) shR_27 3 rfl dX5_order_38 (fun h7 => ?_)
    refine sk_iload_n F dX5_order_39 rfl 0 rfl ?_
    exact sk_zret F hK hr hlocks dX5_order_40
  · refine sk_iconst (x := 0) F dX5_order_23 (by decide) ?_
    exact sk_zretc F hK hr hlocks (by decide) dX5_order_24
def fX5_order (p1 : Int32) (p2 : Int32) (v : Mem) : Option (Int32 × Mem) := bd (fX5_isTube p1 v) fun x3 v2 => if x3 = 0 then fX5_order_13 p1 p2 v2 1 else fX5_order_13 p1 p2 v2 0
set_option maxRecDepth 100000 in
set_option maxHeartbeats 4000000 in
theorem kX5_order_0 {p : Program} {l : Launch} {e : Env} {s : State} {m : MethodId} {args : Array Value} {below : List Frame} {meth : Method} {c : Code} {D : va_G} {A : Nat → Prop} {cI cS cF cZ cJ : ClassId} {ad : Nat → Nat} {X : va_W} {p1 : Int32} {p2 : Int32} (G : cx p s m args meth c cX5_order 4 wsX5_order RX5 D (ty5 cI cS cF cZ cJ) A (some .boolean)) (v : Mem) : sk p l e rmX5_order s m args below meth c D A 4 0 0 (fun res => MQ below (qi D A (ty5 cI cS cF cZ cJ) (Wr cI cZ ad X) res) args s 0 0 A) (Wr cI cZ ad X v) 0 [(0, .ref (ad 0)), (1, .int p1), (2, .int p2)] [] (fX5_order p1 p2 v) := by
  obtain ⟨F, hK, hA, hZ, hr, hlocks⟩ := G
  refine sk_eq (K' := bd (fX5_isTube p1 v) fun x3 v2 => if x3 = 0 then fX5_order_13 p1 p2 v2 1 else fX5_order_13 p1 p2 v2 0) rfl ?_
  refine sk_aload_n F dX5_order_0 rfl 0 rfl ?_
  refine sk_iload_n F dX5_order_1 rfl 1 rfl ?_
  refine sk_callSi (As := [.int p1]) (rest := [.ref (ad 0)]) F hK hA hZ _ (tX5_isTube _) (va_cwS 1 F.2.2.2.2 gX5_order_X5_isTube rfl rfl rfl (by decide +kernel) ⟨Nat.le_of_ble_eq_true rfl, Nat.le_of_ble_eq_true rfl⟩) rfl rfl (Nat.le_of_ble_eq_true rfl) (by decide) dX5_order_2 (fun x3 v2 c1 => ?_)
  refine sk_if_eq F 12 dX5_order_5 (by decide) (fun h4 => ?_) (fun h4 => ?_)
  · refine sk_iconst (x := 1) F dX5_order_12 (by decide) ?_
    exact kX5_order_13 ⟨F, hK, hA, hZ, hr, hlocks⟩ v2 1
  · refine sk_iconst (x := 0) F dX5_order_8 (by decide) ?_
    refine sk_goto F 13 dX5_order_9 (by decide) ?_
    exact kX5_order_13 ⟨F, hK, hA, hZ, hr, hlocks⟩ v2 0
theorem tX5_order {l : Launch} {D : va_G} {A : Nat → Prop} {cI cS cF cZ cJ : ClassId} {ad : Nat → Nat} {X : va_W} {p1 : Int32} {p2 : Int32} (v : Mem) : CI l yX5_order wsX5_order rmX5_order D A (ty5 cI cS cF cZ cJ) (Wr cI cZ ad X) [.ref (ad 0), .int p1, .int p2] v (fX5_order p1 p2 v) :=
  CI_of (cc := cX5_order) (maxL := 4) (ret := (some .boolean)) (by decide) rfl (Nat.le_of_ble_eq_true rfl) (fun p e s m below meth c G => kX5_order_0 G v)
def rmX5_limit : Room := { frames := 0, cells := 0, slots := 0, locals := 0 }
theorem iX5_limit_5 : ∀ w ∈ wsX50, w ∈ wsX5_limit := by decide +kernel
def fX5_limit_16 (p1 : Int32) (v : Mem) (s0 : Int32) : Option (Int32 × Mem) := if ((up2 v 0 0 s0) 0 0) ≤ 0 then some ((up2 v 0 0 s0) 0 3, up2 (up2 v 0 0 s0) 0 3 p1) else some (0, up2 v 0 0 s0)
set_option maxRecDepth 100000 in
set_option maxHeartbeats 4000000 in
theorem kX5_limit_16 {p : Program} {l : Launch} {e : Env} {s : State} {m : MethodId} {args : Array Value} {below : List Frame} {meth : Method} {c : Code} {D : va_G} {A : Nat → Prop} {cI cS cF cZ cJ : ClassId} {ad : Nat → Nat} {X : va_W} {p1 : Int32} (G : cx p s m args meth c cX5_limit 3 wsX5_limit RX5 D (ty5 cI cS cF cZ cJ) A (some .int)) (v : Mem) (s0 : Int32) : sk p l e rmX5_limit s m args below meth c D A 3 0 0 (fun res => MQ below (qi D A (ty5 cI cS cF cZ cJ) (Wr cI cZ ad X) res) args s 0 0 A) (Wr cI cZ ad X v) 16 [(0, .ref (ad 0)), (1, .int p1)] [.int s0, .ref (ad 0)] (fX5_limit_16 p1 v s0) := by
  obtain ⟨F, hK, hA, hZ, hr, hlocks⟩ := G
  refine sk_eq (K' := if ((up2 v 0 0 s0) 0 0) ≤ 0 then some ((up2 v 0 0 s0) 0 3, up2 (up2 v 0 0 s0) 0 3 p1) else some (0, up2 v 0 0 s0)) rfl ?_
  refine sk_put (ref := "TunnelWatchModel") (fs := fun r => fs5 ad r) (ty := .int) F hK Lr_nd (Lr_mem (by decide)) shR_0 rfl iX5_limit_5 tyX5 tyX5_ok nmX5 0 (by decide) (by decide +kernel) (fun _ h9 => h9) rfl (by decide +kernel) rfl rfl (Nat.le_of_ble_eq_true rfl) rfl dX5_limit_16 ?_
  refine sk_aload_n F dX5_limit_19 rfl 0 rfl ?_
  refine sk_get (ref := "TunnelWatchModel") F hK (Lr_mem (by decide)) (shR_0 _) rfl iX5_limit_5 0 (by decide) (by decide +kernel) (fun _ h9 => h9) rfl dX5_limit_20 ?_
  refine sk_if_le F 28 dX5_limit_23 (by decide) (fun h3 => ?_) (fun h3 => ?_)
  · refine sk_aload_n F dX5_limit_28 rfl 0 rfl ?_
    refine sk_get (ref := "TunnelWatchModel") F hK (Lr_mem (by decide)) (shR_0 _) rfl iX5_limit_5 3 (by decide) (by decide +kernel) (fun _ h9 => h9) rfl dX5_limit_29 ?_
    refine sk_istore_n F dX5_limit_32 rfl (by decide) rfl ?_
    refine sk_aload_n F dX5_limit_33 rfl 1 rfl ?_
    refine sk_iload_n F dX5_limit_34 rfl 2 rfl ?_
    refine sk_put (ref := "TunnelWatchModel") (fs := fun r => fs5 ad r) (ty := .int) F hK Lr_nd (Lr_mem (by decide)) shR_0 rfl iX5_limit_5 tyX5 tyX5_ok nmX5 3 (by decide) (by decide +kernel) (fun _ h9 => h9) rfl (by decide +kernel) rfl rfl (Nat.le_of_ble_eq_true rfl) rfl dX5_limit_35 ?_
    refine sk_iload_n F dX5_limit_38 rfl 0 rfl ?_
    exact sk_iret F hK hr hlocks dX5_limit_39
  · refine sk_iconst (x := 0) F dX5_limit_26 (by decide) ?_
    exact sk_iret F hK hr hlocks dX5_limit_27
def fX5_limit_15 (p1 : Int32) (v : Mem) : Option (Int32 × Mem) := fX5_limit_16 p1 v 1
set_option maxRecDepth 100000 in
set_option maxHeartbeats 4000000 in
theorem kX5_limit_15 {p : Program} {l : Launch} {e : Env} {s : State} {m : MethodId} {args : Array Value} {below : List Frame} {meth : Method} {c : Code} {D : va_G} {A : Nat → Prop} {cI cS cF cZ cJ : ClassId} {ad : Nat → Nat} {X : va_W} {p1 : Int32} (G : cx p s m args meth c cX5_limit 3 wsX5_limit RX5 D (ty5 cI cS cF cZ cJ) A (some .int)) (v : Mem) : sk p l e rmX5_limit s m args below meth c D A 3 0 0 (fun res => MQ below (qi D A (ty5 cI cS cF cZ cJ) (Wr cI cZ ad X) res) args s 0 0 A) (Wr cI cZ ad X v) 15 [(0, .ref (ad 0)), (1, .int p1)] [.ref (ad 0)] (fX5_limit_15 p1 v) := by
  obtain ⟨F, hK, hA, hZ, hr, hlocks⟩ := G
  refine sk_eq (K' := fX5_limit_16 p1 v 1) rfl ?_
  refine sk_iconst (x := 1) F dX5_limit_15 (by decide) ?_
  exact kX5_limit_16 ⟨F, hK, hA, hZ, hr, hlocks⟩ v 1
def fX5_limit (p1 : Int32) (v : Mem) : Option (Int32 × Mem) := if p1 < 0 then fX5_limit_15 p1 v else if 100000 < p1 then fX5_limit_15 p1 v else fX5_limit_16 p1 v 0
set_option maxRecDepth 100000 in
set_option maxHeartbeats 4000000 in
theorem kX5_limit_0 {p : Program} {l : Launch} {e : Env} {s : State} {m : MethodId} {args : Array Value} {below : List Frame} {meth : Method} {c : Code} {D : va_G} {A : Nat → Prop} {cI cS cF cZ cJ : ClassId} {ad : Nat → Nat} {X : va_W} {p1 : Int32} (G : cx p s m args meth c cX5_limit 3 wsX5_limit RX5 D (ty5 cI cS cF cZ cJ) A (some .int)) (v : Mem) : sk p l e rmX5_limit s m args below meth c D A 3 0 0 (fun res => MQ below (qi D A (ty5 cI cS cF cZ cJ) (Wr cI cZ ad X) res) args s 0 0 A) (Wr cI cZ ad X v) 0 [(0, .ref (ad 0)), (1, .int p1)] [] (fX5_limit p1 v) := by
  obtain ⟨F, hK, hA, hZ, hr, hlocks⟩ := G
  refine sk_eq (K' := if p1 < 0 then fX5_limit_15 p1 v else if 100000 < p1 then fX5_limit_15 p1 v else fX5_limit_16 p1 v 0) rfl ?_
  refine sk_aload_n F dX5_limit_0 rfl 0 rfl ?_
  refine sk_iload_n F dX5_limit_1 rfl 1 rfl ?_
  refine sk_if_lt F 15 dX5_limit_2 (by decide) (fun h1 => ?_) (fun h1 => ?_)
  · exact kX5_limit_15 ⟨F, hK, hA, hZ, hr, hlocks⟩ v
  · refine sk_iload_n F dX5_limit_5 rfl 1 rfl ?_
    refine sk_ldc (x := 100000) F dX5_limit_6 (F.2.2.2.2 _ (by decide +kernel)) ?_
    refine sk_icmp_gt F 15 dX5_limit_8 (by decide) (fun h2 => ?_) (fun h2 => ?_)
    · exact kX5_limit_15 ⟨F, hK, hA, hZ, hr, hlocks⟩ v
    · refine sk_iconst (x := 0) F dX5_limit_11 (by decide) ?_
      refine sk_goto F 16 dX5_limit_12 (by decide) ?_
      exact kX5_limit_16 ⟨F, hK, hA, hZ, hr, hlocks⟩ v 0
theorem tX5_limit {l : Launch} {D : va_G} {A : Nat → Prop} {cI cS cF cZ cJ : ClassId} {ad : Nat → Nat} {X : va_W} {p1 : Int32} (v : Mem) : CI l yX5_limit wsX5_limit rmX5_limit D A (ty5 cI cS cF cZ cJ) (Wr cI cZ ad X) [.ref (ad 0), .int p1] v (fX5_limit p1 v) :=
  CI_of (cc := cX5_limit) (maxL := 3) (ret := (some .int)) (by decide) rfl (Nat.le_of_ble_eq_true rfl) (fun p e s m below meth c G => kX5_limit_0 G v)
def rmX5_fail : Room := { frames := 2, cells := 0, slots := 0, locals := 42 }
theorem iX5_fail_5 : ∀ w ∈ wsX50, w ∈ wsX5_fail := by decide +kernel
def fX5_fail_15 (p1 : Int32) (p2 : Int32) (v : Mem) (s0 : Int32) : Option (Int32 × Mem) := if ((up2 v 0 0 s0) 0 0) ≤ 0 then gd (inb ((14 * p1) + p2) 28) (gd (inb ((14 * p1) + p2) 28) (if ((up2 v 0 0 s0) 10 ((14 * p1) + p2).toNatClampNeg) = 0 then some (1, up2 (up2 v 0 0 s0) 10 ((14 * p1) + p2).toNatClampNeg (vp_nar .boolean 1)) else some (0, up2 (up2 v 0 0 s0) 10 ((14 * p1) + p2).toNatClampNeg (vp_nar .boolean 1)))) else some (0, up2 v 0 0 s0)
set_option maxRecDepth 100000 in
set_option maxHeartbeats 4000000 in
theorem kX5_fail_15 {p : Program} {l : Launch} {e : Env} {s : State} {m : MethodId} {args : Array Value} {below : List Frame} {meth : Method} {c : Code} {D : va_G} {A : Nat → Prop} {cI cS cF cZ cJ : ClassId} {ad : Nat → Nat} {X : va_W} {p1 : Int32} {p2 : Int32} (G : cx p s m args meth c cX5_fail 4 wsX5_fail RX5 D (ty5 cI cS cF cZ cJ) A (some .boolean)) (v : Mem) (s0 : Int32) : sk p l e rmX5_fail s m args below meth c D A 4 0 0 (fun res => MQ below (qi D A (ty5 cI cS cF cZ cJ) (Wr cI cZ ad X) res) args s 0 0 A) (Wr cI cZ ad X v) 15 [(0, .ref (ad 0)), (1, .int p1), (2, .int p2)] [.int s0, .ref (ad 0)] (fX5_fail_15 p1 p2 v s0) := by
  obtain ⟨F, hK, hA, hZ, hr, hlocks⟩ := G
  refine sk_eq (K' := if ((up2 v 0 0 s0) 0 0) ≤ 0 then gd (inb ((14 * p1) + p2) 28) (gd (inb ((14 * p1) + p2) 28) (if ((up2 v 0 0 s0) 10 ((14 * p1) + p2).toNatClampNeg) = 0 then some (1, up2 (up2 v 0 0 s0) 10 ((14 * p1) + p2).toNatClampNeg (vp_nar .boolean 1)) else some (0, up2 (up2 v 0 0 s0) 10 ((14 * p1) + p2).toNatClampNeg (vp_nar .boolean 1)))) else some (0, up2 v 0 0 s0)) rfl ?_
  refine sk_put (ref := "TunnelWatchModel") (fs := fun r => fs5 ad r) (ty := .int) F hK Lr_nd (Lr_mem (by decide)) shR_0 rfl iX5_fail_5 tyX5 tyX5_ok nmX5 0 (by decide) (by decide +kernel) (fun _ h9 => h9) rfl (by decide +kernel) rfl rfl (Nat.le_of_ble_eq_true rfl) rfl dX5_fail_15 ?_
  refine sk_aload_n F dX5_fail_18 rfl 0 rfl ?_
  refine sk_get (ref := "TunnelWatchModel") F hK (Lr_mem (by decide)) (shR_0 _) rfl iX5_fail_5 0 (by decide) (by decide +kernel) (fun _ h9 => h9) rfl dX5_fail_19 ?_
  refine sk_if_le F 27 dX5_fail_22 (by decide) (fun h5 => ?_) (fun h5 => ?_)
  · refine sk_aload_n F dX5_fail_27 rfl 0 rfl ?_
    refine sk_get (ref := "TunnelWatchModel") F hK (Lr_mem (by decide)) (shR_0 _) rfl iX5_fail_5 10 (by decide) (by decide +kernel) (fun _ h9 => h9) rfl dX5_fail_28 ?_
    refine sk_bipush (x := 14) F dX5_fail_31 (by decide) ?_
    refine sk_iload_n F dX5_fail_33 rfl 1 rfl ?_
    refine sk_imul F dX5_fail_34 ?_
    refine sk_iload_n F dX5_fail_35 rfl 2 rfl ?_
    refine sk_iadd F dX5_fail_36 ?_
    refine sk_zald F hK (Lr_mem (by decide)) (shR_10 _) 3 rfl dX5_fail_37 (fun h6 => ?_)
    refine sk_istore_n F dX5_fail_38 rfl (by decide) rfl ?_
    refine sk_aload_n F dX5_fail_39 rfl 1 rfl ?_
    refine sk_get (ref := "TunnelWatchModel") F hK (Lr_mem (by decide)) (shR_0 _) rfl iX5_fail_5 10 (by decide) (by decide +kernel) (fun _ h9 => h9) rfl dX5_fail_40 ?_
    refine sk_bipush (x := 14) F dX5_fail_43 (by decide) ?_
    refine sk_iload_n F dX5_fail_45 rfl 2 rfl ?_
    refine sk_imul F dX5_fail_46 ?_
    refine sk_iload_n F dX5_fail_47 rfl 3 rfl ?_
    refine sk_iadd F dX5_fail_48 ?_
    refine sk_iconst (x := 1) F dX5_fail_49 (by decide) ?_
    refine sk_zast F hK Lr_nd (Lr_mem (by decide)) shR_10 3 rfl dX5_fail_50 (fun h7 => ?_)
    refine sk_iload_n F dX5_fail_51 rfl 0 rfl ?_
    refine sk_if_ne F 59 dX5_fail_52 (by decide) (fun h8 => ?_) (fun h8 => ?_)
    · refine sk_iconst (x := 0) F dX5_fail_59 (by decide) ?_
      exact sk_zretc F hK hr hlocks (by decide) dX5_fail_60
    · refine sk_iconst (x := 1) F dX5_fail_55 (by decide) ?_
      refine sk_goto F 60 dX5_fail_56 (by decide) ?_
      exact sk_zretc F hK hr hlocks (by decide) dX5_fail_60
  · refine sk_iconst (x := 0) F dX5_fail_25 (by decide) ?_
    exact sk_zretc F hK hr hlocks (by decide) dX5_fail_26
def fX5_fail (p1 : Int32) (p2 : Int32) (v : Mem) : Option (Int32 × Mem) := bd (fX5_isDevice p1 p2 v) fun x3 v2 => if x3 = 0 then fX5_fail_15 p1 p2 v2 1 else fX5_fail_15 p1 p2 v2 0
set_option maxRecDepth 100000 in
set_option maxHeartbeats 4000000 in
theorem kX5_fail_0 {p : Program} {l : Launch} {e : Env} {s : State} {m : MethodId} {args : Array Value} {below : List Frame} {meth : Method} {c : Code} {D : va_G} {A : Nat → Prop} {cI cS cF cZ cJ : ClassId} {ad : Nat → Nat} {X : va_W} {p1 : Int32} {p2 : Int32} (G : cx p s m args meth c cX5_fail 4 wsX5_fail RX5 D (ty5 cI cS cF cZ cJ) A (some .boolean)) (v : Mem) : sk p l e rmX5_fail s m args below meth c D A 4 0 0 (fun res => MQ below (qi D A (ty5 cI cS cF cZ cJ) (Wr cI cZ ad X) res) args s 0 0 A) (Wr cI cZ ad X v) 0 [(0, .ref (ad 0)), (1, .int p1), (2, .int p2)] [] (fX5_fail p1 p2 v) := by
  obtain ⟨F, hK, hA, hZ, hr, hlocks⟩ := G
  refine sk_eq (K' := bd (fX5_isDevice p1 p2 v) fun x3 v2 => if x3 = 0 then fX5_fail_15 p1 p2 v2 1 else fX5_fail_15 p1 p2 v2 0) rfl ?_
  refine sk_aload_n F dX5_fail_0 rfl 0 rfl ?_
  refine sk_aload_n F dX5_fail_1 rfl 0 rfl ?_
  refine sk_iload_n F dX5_fail_2 rfl 1 rfl ?_
  refine sk_iload_n F dX5_fail_3 rfl 2 rfl ?_
  refine sk_callVi (As := [.int p1, .int p2]) (rest := [.ref (ad 0)]) F hK hA hZ _ (tX5_isDevice _) (cwV 2 F.2.2.2.2 gX5_fail_X5_isDevice rfl rfl rfl (by decide +kernel) ⟨Nat.le_of_ble_eq_true rfl, Nat.le_of_ble_eq_true rfl⟩) (rc5 hK) rfl rfl (Nat.le_of_ble_eq_true rfl) (by decide) dX5_fail_4 (fun x3 v2 c1 => ?_)
  refine sk_if_eq F 14 dX5_fail_7 (by decide) (fun h4 => ?_) (fun h4 => ?_)
  · refine sk_iconst (x := 1) F dX5_fail_14 (by decide) ?_
    exact kX5_fail_15 ⟨F, hK, hA, hZ, hr, hlocks⟩ v2 1
  · refine sk_iconst (x := 0) F dX5_fail_10 (by decide) ?_
    refine sk_goto F 15 dX5_fail_11 (by decide) ?_
    exact kX5_fail_15 ⟨F, hK, hA, hZ, hr, hlocks⟩ v2 0
theorem tX5_fail {l : Launch} {D : va_G} {A : Nat → Prop} {cI cS cF cZ cJ : ClassId} {ad : Nat → Nat} {X : va_W} {p1 : Int32} {p2 : Int32} (v : Mem) : CI l yX5_fail wsX5_fail rmX5_fail D A (ty5 cI cS cF cZ cJ) (Wr cI cZ ad X) [.ref (ad 0), .int p1, .int p2] v (fX5_fail p1 p2 v) :=
  CI_of (cc := cX5_fail) (maxL := 4) (ret := (some .boolean)) (by decide) rfl (Nat.le_of_ble_eq_true rfl) (fun p e s m below meth c G => kX5_fail_0 G v)
def rmX5_mend : Room := { frames := 2, cells := 0, slots := 0, locals := 42 }
theorem iX5_mend_5 : ∀ w ∈ wsX50, w ∈ wsX5_mend := by decide +kernel
def fX5_mend_57 (p1 : Int32) (p2 : Int32) (v : Mem) (l3 : Int32) (s0 : Int32) : Option (Int32 × Mem) := gd (inb l3 28) (gd (inb l3 28) (gd (inb l3 28) (gd (inb l3 28) (gd (bo s0) (some (s0, up2 (up2 (up2 v 10 l3.toNatClampNeg (vp_nar .boolean 0)) 11 l3.toNatClampNeg (vp_nar .boolean 0)) 8 l3.toNatClampNeg ((up2 (up2 v 10 l3.toNatClampNeg (vp_nar .boolean 0)) 11 l3.toNatClampNeg (vp_nar .boolean 0)) 7 l3.toNatClampNeg)))))))
set_option maxRecDepth 100000 in
set_option maxHeartbeats 4000000 in
theorem kX5_mend_57 {p : Program} {l : Launch} {e : Env} {s : State} {m : MethodId} {args : Array Value} {below : List Frame} {meth : Method} {c : Code} {D : va_G} {A : Nat → Prop} {cI cS cF cZ cJ : ClassId} {ad : Nat → Nat} {X : va_W} {p1 : Int32} {p2 : Int32} (G : cx p s m args meth c cX5_mend 5 wsX5_mend RX5 D (ty5 cI cS cF cZ cJ) A (some .boolean)) (v : Mem) (l3 : Int32) (s0 : Int32) : sk p l e rmX5_mend s m args below meth c D A 5 0 0 (fun res => MQ below (qi D A (ty5 cI cS cF cZ cJ) (Wr cI cZ ad X) res) args s 0 0 A) (Wr cI cZ ad X v) 57 [(0, .ref (ad 0)), (3, .int l3)] [.int s0] (fX5_mend_57 p1 p2 v l3 s0) := by
  obtain ⟨F, hK, hA, hZ, hr, hlocks⟩ := G
  refine sk_eq (K' := gd (inb l3 28) (gd (inb l3 28) (gd (inb l3 28) (gd (inb l3 28) (gd (bo s0) (some (s0, up2 (up2 (up2 v 10 l3.toNatClampNeg (vp_nar .boolean 0)) 11 l3.toNatClampNeg (vp_nar .boolean 0)) 8 l3.toNatClampNeg ((up2 (up2 v 10 l3.toNatClampNeg (vp_nar .boolean 0)) 11 l3.toNatClampNeg (vp_nar .boolean 0)) 7 l3.toNatClampNeg)))))))) rfl ?_
  refine sk_istore F dX5_mend_57 (by decide) rfl ?_
  refine sk_aload_n F dX5_mend_59 rfl 1 rfl ?_
  refine sk_get (ref := "TunnelWatchModel") F hK (Lr_mem (by decide)) (shR_0 _) rfl iX5_mend_5 10 (by decide) (by decide +kernel) (fun _ h9 => h9) rfl dX5_mend_60 ?_
  refine sk_iload_n F dX5_mend_63 rfl 2 rfl ?_
  refine sk_iconst (x := 0) F dX5_mend_64 (by decide) ?_
  refine sk_zast F hK Lr_nd (Lr_mem (by decide)) shR_10 3 rfl dX5_mend_65 (fun h10 => ?_)
  refine sk_aload_n F dX5_mend_66 rfl 1 rfl ?_
  refine sk_get (ref := "TunnelWatchModel") F hK (Lr_mem (by decide)) (shR_0 _) rfl iX5_mend_5 11 (by decide) (by decide +kernel) (fun _ h9 => h9) rfl dX5_mend_67 ?_
  refine sk_iload_n F dX5_mend_70 rfl 2 rfl ?_
  refine sk_iconst (x := 0) F dX5_mend_71 (by decide) ?_
  refine sk_zast F hK Lr_nd (Lr_mem (by decide)) shR_11 3 rfl dX5_mend_72 (fun h11 => ?_)
  refine sk_aload_n F dX5_mend_73 rfl 1 rfl ?_
  refine sk_get (ref := "TunnelWatchModel") F hK (Lr_mem (by decide)) (shR_0 _) rfl iX5_mend_5 8 (by decide) (by decide +kernel) (fun _ h9 => h9) rfl dX5_mend_74 ?_
  refine sk_iload_n F dX5_mend_77 rfl 2 rfl ?_
  refine sk_aload_n F dX5_mend_78 rfl 1 rfl ?_
  refine sk_get (ref := "TunnelWatchModel") F hK (Lr_mem (by decide)) (shR_0 _) rfl iX5_mend_5 7 (by decide) (by decide +kernel) (fun _ h9 => h9) rfl dX5_mend_79 ?_
  refine sk_iload_n F dX5_mend_82 rfl 2 rfl ?_
  refine sk_iald F hK (Lr_mem (by decide)) (shR_7 _) 0 rfl dX5_mend_83 (fun h12 => ?_)
  refine sk_iast F hK Lr_nd (Lr_mem (by decide)) shR_8 0 rfl dX5_mend_84 (fun h13 => ?_)
  refine sk_iload F dX5_mend_85 0 rfl ?_
  exact sk_zret F hK hr hlocks dX5_mend_87
def fX5_mend_15 (p1 : Int32) (p2 : Int32) (v : Mem) (s0 : Int32) : Option (Int32 × Mem) := if ((up2 v 0 0 s0) 0 0) ≤ 0 then gd (inb ((14 * p1) + p2) 28) (if ((up2 v 0 0 s0) 10 ((14 * p1) + p2).toNatClampNeg) = 0 then gd (inb ((14 * p1) + p2) 28) (if ((up2 v 0 0 s0) 11 ((14 * p1) + p2).toNatClampNeg) = 0 then fX5_mend_57 p1 p2 (up2 v 0 0 s0) ((14 * p1) + p2) 0 else fX5_mend_57 p1 p2 (up2 v 0 0 s0) ((14 * p1) + p2) 1) else fX5_mend_57 p1 p2 (up2 v 0 0 s0) ((14 * p1) + p2) 1) else some (0, up2 v 0 0 s0)
set_option maxRecDepth 100000 in
set_option maxHeartbeats 4000000 in
theorem kX5_mend_15 {p : Program} {l : Launch} {e : Env} {s : State} {m : MethodId} {args : Array Value} {below : List Frame} {meth : Method} {c : Code} {D : va_G} {A : Nat → Prop} {cI cS cF cZ cJ : ClassId} {ad : Nat → Nat} {X : va_W} {p1 : Int32} {p2 : Int32} (G : cx p s m args meth c cX5_mend 5 wsX5_mend RX5 D (ty5 cI cS cF cZ cJ) A (some .boolean)) (v : Mem) (s0 : Int32) : sk p l e rmX5_mend s m args below meth c D A 5 0 0 (fun res => MQ below (qi D A (ty5 cI cS cF cZ cJ) (Wr cI cZ ad X) res) args s 0 0 A) (Wr cI cZ ad X v) 15 [(0, .ref (ad 0)), (1, .int p1), (2, .int p2)] [.int s0, .ref (ad 0)] (fX5_mend_15 p1 p2 v s0) := by
  obtain ⟨F, hK, hA, hZ, hr, hlocks⟩ := G
  refine sk_eq (K' := if ((up2 v 0 0 s0) 0 0) ≤ 0 then gd (inb ((14 * p1) + p2) 28) (if ((up2 v 0 0 s0) 10 ((14 * p1) + p2).toNatClampNeg) = 0 then gd (inb ((14 * p1) + p2) 28) (if ((up2 v 0 0 s0) 11 ((14 * p1) + p2).toNatClampNeg) = 0 then fX5_mend_57 p1 p2 (up2 v 0 0 s0) ((14 * p1) + p2) 0 else fX5_mend_57 p1 p2 (up2 v 0 0 s0) ((14 * p1) + p2) 1) else fX5_mend_57 p1 p2 (up2 v 0 0 s0) ((14 * p1) + p2) 1) else some (0, up2 v 0 0 s0)) rfl ?_
  refine sk_put (ref := "TunnelWatchModel") (fs := fun r => fs5 ad r) (ty := .int) F hK Lr_nd (Lr_mem (by decide)) shR_0 rfl iX5_mend_5 tyX5 tyX5_ok nmX5 0 (by decide) (by decide +kernel) (fun _ h9 => h9) rfl (by decide +kernel) rfl rfl (Nat.le_of_ble_eq_true rfl) rfl dX5_mend_15 ?_
  refine sk_aload_n F dX5_mend_18 rfl 0 rfl ?_
  refine sk_get (ref := "TunnelWatchModel") F hK (Lr_mem (by decide)) (shR_0 _) rfl iX5_mend_5 0 (by decide) (by decide +kernel) (fun _ h9 => h9) rfl dX5_mend_19 ?_
  refine sk_if_le F 27 dX5_mend_22 (by decide) (fun h5 => ?_) (fun h5 => ?_)
  · refine sk_bipush (x := 14) F dX5_mend_27 (by decide) ?_
    refine sk_iload_n F dX5_mend_29 rfl 1 rfl ?_
    refine sk_imul F dX5_mend_30 ?_
    refine sk_iload_n F dX5_mend_31 rfl 2 rfl ?_
    refine sk_iadd F dX5_mend_32 ?_
    refine sk_istore_n F dX5_mend_33 rfl (by decide) rfl ?_
    refine sk_aload_n F dX5_mend_34 rfl 1 rfl ?_
    refine sk_get (ref := "TunnelWatchModel") F hK (Lr_mem (by decide)) (shR_0 _) rfl iX5_mend_5 10 (by decide) (by decide +kernel) (fun _ h9 => h9) rfl dX5_mend_35 ?_
    refine sk_iload_n F dX5_mend_38 rfl 0 rfl ?_
    refine sk_zald F hK (Lr_mem (by decide)) (shR_10 _) 3 rfl dX5_mend_39 (fun h6 => ?_)
    refine sk_if_ne F 52 dX5_mend_40 (by decide) (fun h7 => ?_) (fun h7 => ?_)
    · refine sk_iconst (x := 1) F dX5_mend_52 (by decide) ?_
      refine sk_goto F 57 dX5_mend_53 (by decide) ?_
      exact sk_lv [1, 0] rfl (kX5_mend_57 ⟨F, hK, hA, hZ, hr, hlocks⟩ (up2 v 0 0 s0) ((14 * p1) + p2) 1)
    · refine sk_aload_n F dX5_mend_43 rfl 1 rfl ?_
      refine sk_get (ref := "TunnelWatchModel") F hK (Lr_mem (by decide)) (shR_0 _) rfl iX5_mend_5 11 (by decide) (by decide +kernel) (fun _ h9 => h9) rfl dX5_mend_44 ?_
      refine sk_iload_n F dX5_mend_47 rfl 0 rfl ?_
      refine sk_zald F hK (Lr_mem (by decide)) (shR_11 _) 3 rfl dX5_mend_48 (fun h8 => ?_)
      refine sk_if_eq F 56 dX5_mend_49 (by decide) (fun h9 => ?_) (fun h9 => ?_)
      · refine sk_iconst (x := 0) F dX5_mend_56 (by decide) ?_
        exact sk_lv [1, 0] rfl (kX5_mend_57 ⟨F, hK, hA, hZ, hr, hlocks⟩ (up2 v 0 0 s0) ((14 * p1) + p2) 0)
      · refine sk_iconst (x := 1) F dX5_mend_52 (by decide) ?_
        refine sk_goto F 57 dX5_mend_53 (by decide) ?_
        exact sk_lv [1, 0] rfl (kX5_mend_57 ⟨F, hK, hA, hZ, hr, hlocks⟩ (up2 v 0 0 s0) ((14 * p1) + p2) 1)
  · refine sk_iconst (x := 0) F dX5_mend_25 (by decide) ?_
    exact sk_zretc F hK hr hlocks (by decide) dX5_mend_26
def fX5_mend (p1 : Int32) (p2 : Int32) (v : Mem) : Option (Int32 × Mem) := bd (fX5_isDevice p1 p2 v) fun x3 v2 => if x3 = 0 then fX5_mend_15 p1 p2 v2 1 else fX5_mend_15 p1 p2 v2 0
set_option maxRecDepth 100000 in
set_option maxHeartbeats 4000000 in
theorem kX5_mend_0 {p : Program} {l : Launch} {e : Env} {s : State} {m : MethodId} {args : Array Value} {below : List Frame} {meth : Method} {c : Code} {D : va_G} {A : Nat → Prop} {cI cS cF cZ cJ : ClassId} {ad : Nat → Nat} {X : va_W} {p1 : Int32} {p2 : Int32} (G : cx p s m args meth c cX5_mend 5 wsX5_mend RX5 D (ty5 cI cS cF cZ cJ) A (some .boolean)) (v : Mem) : sk p l e rmX5_mend s m args below meth c D A 5 0 0 (fun res => MQ below (qi D A (ty5 cI cS cF cZ cJ) (Wr cI cZ ad X) res) args s 0 0 A) (Wr cI cZ ad X v) 0 [(0, .ref (ad 0)), (1, .int p1), (2, .int p2)] [] (fX5_mend p1 p2 v) := by
  obtain ⟨F, hK, hA, hZ, hr, hlocks⟩ := G
  refine sk_eq (K' := bd (fX5_isDevice p1 p2 v) fun x3 v2 => if x3 = 0 then fX5_mend_15 p1 p2 v2 1 else fX5_mend_15 p1 p2 v2 0) rfl ?_
  refine sk_aload_n F dX5_mend_0 rfl 0 rfl ?_
  refine sk_aload_n F dX5_mend_1 rfl 0 rfl ?_
  refine sk_iload_n F dX5_mend_2 rfl 1 rfl ?_
  refine sk_iload_n F dX5_mend_3 rfl 2 rfl ?_
  refine sk_callVi (As := [.int p1, .int p2]) (rest := [.ref (ad 0)]) F hK hA hZ _ (tX5_isDevice _) (cwV 2 F.2.2.2.2 gX5_mend_X5_isDevice rfl rfl rfl (by decide +kernel) ⟨Nat.le_of_ble_eq_true rfl, Nat.le_of_ble_eq_true rfl⟩) (rc5 hK) rfl rfl (Nat.le_of_ble_eq_true rfl) (by decide) dX5_mend_4 (fun x3 v2 c1 => ?_)
  refine sk_if_eq F 14 dX5_mend_7 (by decide) (fun h4 => ?_) (fun h4 => ?_)
  · refine sk_iconst (x := 1) F dX5_mend_14 (by decide) ?_
    exact kX5_mend_15 ⟨F, hK, hA, hZ, hr, hlocks⟩ v2 1
  · refine sk_iconst (x := 0) F dX5_mend_10 (by decide) ?_
    refine sk_goto F 15 dX5_mend_11 (by decide) ?_
    exact kX5_mend_15 ⟨F, hK, hA, hZ, hr, hlocks⟩ v2 0
theorem tX5_mend {l : Launch} {D : va_G} {A : Nat → Prop} {cI cS cF cZ cJ : ClassId} {ad : Nat → Nat} {X : va_W} {p1 : Int32} {p2 : Int32} (v : Mem) : CI l yX5_mend wsX5_mend rmX5_mend D A (ty5 cI cS cF cZ cJ) (Wr cI cZ ad X) [.ref (ad 0), .int p1, .int p2] v (fX5_mend p1 p2 v) :=
  CI_of (cc := cX5_mend) (maxL := 5) (ret := (some .boolean)) (by decide) rfl (Nat.le_of_ble_eq_true rfl) (fun p e s m below meth c G => kX5_mend_0 G v)
def rmX5_send : Room := { frames := 0, cells := 0, slots := 0, locals := 0 }
theorem iX5_send_5 : ∀ w ∈ wsX50, w ∈ wsX5_send := by decide +kernel
def fX5_send_28 (p1 : Int32) (p2 : Int32) (v : Mem) (s0 : Int32) (s1 : Int32) : Option (Mem) := gd (inb s1 28) (gd (inb p1 28) (some (up2 (up2 v 9 s1.toNatClampNeg s0) 7 p1.toNatClampNeg p2)))
set_option maxRecDepth 100000 in
set_option maxHeartbeats 4000000 in
theorem kX5_send_28 {p : Program} {l : Launch} {e : Env} {s : State} {m : MethodId} {args : Array Value} {below : List Frame} {meth : Method} {c : Code} {D : va_G} {A : Nat → Prop} {cI cS cF cZ cJ : ClassId} {ad : Nat → Nat} {X : va_W} {p1 : Int32} {p2 : Int32} (G : cx p s m args meth c cX5_send 3 wsX5_send RX5 D (ty5 cI cS cF cZ cJ) A none) (v : Mem) (s0 : Int32) (s1 : Int32) : sk p l e rmX5_send s m args below meth c D A 3 0 0 (fun res => MQ below (qv D A (ty5 cI cS cF cZ cJ) (Wr cI cZ ad X) res) args s 0 0 A) (Wr cI cZ ad X v) 28 [(0, .ref (ad 0)), (1, .int p1), (2, .int p2)] [.int s0, .int s1, .ref (ad 9)] (fX5_send_28 p1 p2 v s0 s1) := by
  obtain ⟨F, hK, hA, hZ, hr, hlocks⟩ := G
  refine sk_eq (K' := gd (inb s1 28) (gd (inb p1 28) (some (up2 (up2 v 9 s1.toNatClampNeg s0) 7 p1.toNatClampNeg p2)))) rfl ?_
  refine sk_iast F hK Lr_nd (Lr_mem (by decide)) shR_9 0 rfl dX5_send_28 (fun h4 => ?_)
  refine sk_aload_n F dX5_send_29 rfl 0 rfl ?_
  refine sk_get (ref := "TunnelWatchModel") F hK (Lr_mem (by decide)) (shR_0 _) rfl iX5_send_5 7 (by decide) (by decide +kernel) (fun _ h9 => h9) rfl dX5_send_30 ?_
  refine sk_iload_n F dX5_send_33 rfl 1 rfl ?_
  refine sk_iload_n F dX5_send_34 rfl 2 rfl ?_
  refine sk_iast F hK Lr_nd (Lr_mem (by decide)) shR_7 0 rfl dX5_send_35 (fun h5 => ?_)
  exact sk_vret F hK hr hlocks dX5_send_36
def fX5_send (p1 : Int32) (p2 : Int32) (v : Mem) : Option (Mem) := gd (inb p1 28) (if (v 7 p1.toNatClampNeg) = p2 then gd (inb p1 28) (fX5_send_28 p1 p2 v (v 9 p1.toNatClampNeg) p1) else fX5_send_28 p1 p2 v (v 0 4) p1)
set_option maxRecDepth 100000 in
set_option maxHeartbeats 4000000 in
theorem kX5_send_0 {p : Program} {l : Launch} {e : Env} {s : State} {m : MethodId} {args : Array Value} {below : List Frame} {meth : Method} {c : Code} {D : va_G} {A : Nat → Prop} {cI cS cF cZ cJ : ClassId} {ad : Nat → Nat} {X : va_W} {p1 : Int32} {p2 : Int32} (G : cx p s m args meth c cX5_send 3 wsX5_send RX5 D (ty5 cI cS cF cZ cJ) A none) (v : Mem) : sk p l e rmX5_send s m args below meth c D A 3 0 0 (fun res => MQ below (qv D A (ty5 cI cS cF cZ cJ) (Wr cI cZ ad X) res) args s 0 0 A) (Wr cI cZ ad X v) 0 [(0, .ref (ad 0)), (1, .int p1), (2, .int p2)] [] (fX5_send p1 p2 v) := by
  obtain ⟨F, hK, hA, hZ, hr, hlocks⟩ := G
  refine sk_eq (K' := gd (inb p1 28) (if (v 7 p1.toNatClampNeg) = p2 then gd (inb p1 28) (fX5_send_28 p1 p2 v (v 9 p1.toNatClampNeg) p1) else fX5_send_28 p1 p2 v (v 0 4) p1)) rfl ?_
  refine sk_aload_n F dX5_send_0 rfl 0 rfl ?_
  refine sk_get (ref := "TunnelWatchModel") F hK (Lr_mem (by decide)) (shR_0 _) rfl iX5_send_5 9 (by decide) (by decide +kernel) (fun _ h9 => h9) rfl dX5_send_1 ?_
  refine sk_iload_n F dX5_send_4 rfl 1 rfl ?_
  refine sk_aload_n F dX5_send_5 rfl 0 rfl ?_
  refine sk_get (ref := "TunnelWatchModel") F hK (Lr_mem (by decide)) (shR_0 _) rfl iX5_send_5 7 (by decide) (by decide +kernel) (fun _ h9 => h9) rfl dX5_send_6 ?_
  refine sk_iload_n F dX5_send_9 rfl 1 rfl ?_
  refine sk_iald F hK (Lr_mem (by decide)) (shR_7 _) 0 rfl dX5_send_10 (fun h1 => ?_)
  refine sk_iload_n F dX5_send_11 rfl 2 rfl ?_
  refine sk_icmp_ne F 24 dX5_send_12 (by decide) (fun h2 => ?_) (fun h2 => ?_)
  · refine sk_aload_n F dX5_send_24 rfl 0 rfl ?_
    refine sk_get (ref := "TunnelWatchModel") F hK (Lr_mem (by decide)) (shR_0 _) rfl iX5_send_5 4 (by decide) (by decide +kernel) (fun _ h9 => h9) rfl dX5_send_25 ?_
    exact kX5_send_28 ⟨F, hK, hA, hZ, hr, hlocks⟩ v (v 0 4) p1
  · refine sk_aload_n F dX5_send_15 rfl 0 rfl ?_
    refine sk_get (ref := "TunnelWatchModel") F hK (Lr_mem (by decide)) (shR_0 _) rfl iX5_send_5 9 (by decide) (by decide +kernel) (fun _ h9 => h9) rfl dX5_send_16 ?_
    refine sk_iload_n F dX5_send_19 rfl 1 rfl ?_
    refine sk_iald F hK (Lr_mem (by decide)) (shR_9 _) 0 rfl dX5_send_20 (fun h3 => ?_)
    refine sk_goto F 28 dX5_send_21 (by decide) ?_
    exact kX5_send_28 ⟨F, hK, hA, hZ, hr, hlocks⟩ v (v 9 p1.toNatClampNeg) p1
theorem tX5_send {l : Launch} {D : va_G} {A : Nat → Prop} {cI cS cF cZ cJ : ClassId} {ad : Nat → Nat} {X : va_W} {p1 : Int32} {p2 : Int32} (v : Mem) : CV l yX5_send wsX5_send rmX5_send D A (ty5 cI cS cF cZ cJ) (Wr cI cZ ad X) [.ref (ad 0), .int p1, .int p2] v (fX5_send p1 p2 v) :=
  CV_of (cc := cX5_send) (maxL := 3) (ret := none) (by decide) rfl (Nat.le_of_ble_eq_true rfl) (fun p e s m below meth c G => kX5_send_0 G v)
def rmX5_stop : Room := { frames := 1, cells := 0, slots := 0, locals := 22 }
theorem iX5_stop_5 : ∀ w ∈ wsX50, w ∈ wsX5_stop := by decide +kernel
def fX5_stop_27 (p1 : Int32) (v : Mem) (s0 : Int32) (s1 : Int32) : Option (Mem) := gd (inb s1 28) ((fX5_send p1 0 (up2 v 15 s1.toNatClampNeg s0)).bind fun v6 => some v6)
set_option maxRecDepth 100000 in
set_option maxHeartbeats 4000000 in
theorem kX5_stop_27 {p : Program} {l : Launch} {e : Env} {s : State} {m : MethodId} {args : Array Value} {below : List Frame} {meth : Method} {c : Code} {D : va_G} {A : Nat → Prop} {cI cS cF cZ cJ : ClassId} {ad : Nat → Nat} {X : va_W} {p1 : Int32} (G : cx p s m args meth c cX5_stop 2 wsX5_stop RX5 D (ty5 cI cS cF cZ cJ) A none) (v : Mem) (s0 : Int32) (s1 : Int32) : sk p l e rmX5_stop s m args below meth c D A 2 0 0 (fun res => MQ below (qv D A (ty5 cI cS cF cZ cJ) (Wr cI cZ ad X) res) args s 0 0 A) (Wr cI cZ ad X v) 27 [(0, .ref (ad 0)), (1, .int p1)] [.int s0, .int s1, .ref (ad 15)] (fX5_stop_27 p1 v s0 s1) := by
  obtain ⟨F, hK, hA, hZ, hr, hlocks⟩ := G
  refine sk_eq (K' := gd (inb s1 28) ((fX5_send p1 0 (up2 v 15 s1.toNatClampNeg s0)).bind fun v6 => some v6)) rfl ?_
  refine sk_iast F hK Lr_nd (Lr_mem (by decide)) shR_15 0 rfl dX5_stop_27 (fun h4 => ?_)
  refine sk_aload_n F dX5_stop_28 rfl 0 rfl ?_
  refine sk_iload_n F dX5_stop_29 rfl 1 rfl ?_
  refine sk_iconst (x := 0) F dX5_stop_30 (by decide) ?_
  refine sk_callVv (As := [.int p1, .int 0]) (rest := []) F hK hA hZ _ (tX5_send _) (cwV 2 F.2.2.2.2 gX5_stop_X5_send rfl rfl rfl (by decide +kernel) ⟨Nat.le_of_ble_eq_true rfl, Nat.le_of_ble_eq_true rfl⟩) (rc5 hK) rfl rfl (Nat.le_of_ble_eq_true rfl) (by decide) dX5_stop_31 (fun v6 c5 => ?_)
  exact sk_vret F hK hr hlocks dX5_stop_34
def fX5_stop (p1 : Int32) (v : Mem) : Option (Mem) := gd (inb p1 28) (if (v 7 p1.toNatClampNeg) = 0 then gd (inb p1 28) (fX5_stop_27 p1 v (v 15 p1.toNatClampNeg) p1) else fX5_stop_27 p1 v (v 0 4) p1)
set_option maxRecDepth 100000 in
set_option maxHeartbeats 4000000 in
theorem kX5_stop_0 {p : Program} {l : Launch} {e : Env} {s : State} {m : MethodId} {args : Array Value} {below : List Frame} {meth : Method} {c : Code} {D : va_G} {A : Nat → Prop} {cI cS cF cZ cJ : ClassId} {ad : Nat → Nat} {X : va_W} {p1 : Int32} (G : cx p s m args meth c cX5_stop 2 wsX5_stop RX5 D (ty5 cI cS cF cZ cJ) A none) (v : Mem) : sk p l e rmX5_stop s m args below meth c D A 2 0 0 (fun res => MQ below (qv D A (ty5 cI cS cF cZ cJ) (Wr cI cZ ad X) res) args s 0 0 A) (Wr cI cZ ad X v) 0 [(0, .ref (ad 0)), (1, .int p1)] [] (fX5_stop p1 v) := by
  obtain ⟨F, hK, hA, hZ, hr, hlocks⟩ := G
  refine sk_eq (K' := gd (inb p1 28) (if (v 7 p1.toNatClampNeg) = 0 then gd (inb p1 28) (fX5_stop_27 p1 v (v 15 p1.toNatClampNeg) p1) else fX5_stop_27 p1 v (v 0 4) p1)) rfl ?_
  refine sk_aload_n F dX5_stop_0 rfl 0 rfl ?_
  refine sk_get (ref := "TunnelWatchModel") F hK (Lr_mem (by decide)) (shR_0 _) rfl iX5_stop_5 15 (by decide) (by decide +kernel) (fun _ h9 => h9) rfl dX5_stop_1 ?_
  refine sk_iload_n F dX5_stop_4 rfl 1 rfl ?_
  refine sk_aload_n F dX5_stop_5 rfl 0 rfl ?_
  refine sk_get (ref := "TunnelWatchModel") F hK (Lr_mem (by decide)) (shR_0 _) rfl iX5_stop_5 7 (by decide) (by decide +kernel) (fun _ h9 => h9) rfl dX5_stop_6 ?_
  refine sk_iload_n F dX5_stop_9 rfl 1 rfl ?_
  refine sk_iald F hK (Lr_mem (by decide)) (shR_7 _) 0 rfl dX5_stop_10 (fun h1 => ?_)
  refine sk_if_ne F 23 dX5_stop_11 (by decide) (fun h2 => ?_) (fun h2 => ?_)
  · refine sk_aload_n F dX5_stop_23 rfl 0 rfl ?_
    refine sk_get (ref := "TunnelWatchModel") F hK (Lr_mem (by decide)) (shR_0 _) rfl iX5_stop_5 4 (by decide) (by decide +kernel) (fun _ h9 => h9) rfl dX5_stop_24 ?_
    exact kX5_stop_27 ⟨F, hK, hA, hZ, hr, hlocks⟩ v (v 0 4) p1
  · refine sk_aload_n F dX5_stop_14 rfl 0 rfl ?_
    refine sk_get (ref := "TunnelWatchModel") F hK (Lr_mem (by decide)) (shR_0 _) rfl iX5_stop_5 15 (by decide) (by decide +kernel) (fun _ h9 => h9) rfl dX5_stop_15 ?_
    refine sk_iload_n F dX5_stop_18 rfl 1 rfl ?_
    refine sk_iald F hK (Lr_mem (by decide)) (shR_15 _) 0 rfl dX5_stop_19 (fun h3 => ?_)
    refine sk_goto F 27 dX5_stop_20 (by decide) ?_
    exact kX5_stop_27 ⟨F, hK, hA, hZ, hr, hlocks⟩ v (v 15 p1.toNatClampNeg) p1
theorem tX5_stop {l : Launch} {D : va_G} {A : Nat → Prop} {cI cS cF cZ cJ : ClassId} {ad : Nat → Nat} {X : va_W} {p1 : Int32} (v : Mem) : CV l yX5_stop wsX5_stop rmX5_stop D A (ty5 cI cS cF cZ cJ) (Wr cI cZ ad X) [.ref (ad 0), .int p1] v (fX5_stop p1 v) :=
  CV_of (cc := cX5_stop) (maxL := 2) (ret := none) (by decide) rfl (Nat.le_of_ble_eq_true rfl) (fun p e s m below meth c G => kX5_stop_0 G v)
