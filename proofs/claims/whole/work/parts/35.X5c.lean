def rmX5_isHalted : Room := { frames := 0, cells := 0, slots := 0, locals := 0 }
theorem iX5_isHalted_5 : ∀ w ∈ wsX50, w ∈ wsX5_isHalted := by decide +kernel
def fX5_isHalted_45 (p1 : Int32) (v : Mem) : Option (Int32 × Mem) := some (0, v)
set_option maxRecDepth 100000 in
set_option maxHeartbeats 4000000 in
theorem kX5_isHalted_45 {p : Program} {l : Launch} {e : Env} {s : State} {m : MethodId} {args : Array Value} {below : List Frame} {meth : Method} {c : Code} {D : va_G} {A : Nat → Prop} {cI cS cF cZ cJ : ClassId} {ad : Nat → Nat} {X : va_W} {p1 : Int32} (G : cx p s m args meth c cX5_isHalted 3 wsX5_isHalted RX5 D (ty5 cI cS cF cZ cJ) A (some .boolean)) (v : Mem) : sk p l e rmX5_isHalted s m args below meth c D A 3 0 0 (fun res => MQ below (qi D A (ty5 cI cS cF cZ cJ) (Wr cI cZ ad X) res) args s 0 0 A) (Wr cI cZ ad X v) 45 [] [] (fX5_isHalted_45 p1 v) := by
  obtain ⟨F, hK, hA, hZ, hr, hlocks⟩ := G
  refine sk_eq (K' := some (0, v)) rfl ?_
  refine sk_iconst (x := 0) F dX5_isHalted_45 (by decide) ?_
  exact sk_zretc F hK hr hlocks (by decide) dX5_isHalted_46
def fX5_isHalted (p1 : Int32) (v : Mem) : Option (Int32 × Mem) := gd (inb (14 * p1) 28) (if (v 7 (14 * p1).toNatClampNeg) = 1 then gd (inb (14 * p1) 28) (if (v 8 (14 * p1).toNatClampNeg) = 1 then some (1, v) else gd (inb (14 * p1) 28) (if ((v 0 4) - (v 9 (14 * p1).toNatClampNeg)) < 60 then fX5_isHalted_45 p1 v else some (1, v))) else fX5_isHalted_45 p1 v)
set_option maxRecDepth 100000 in
set_option maxHeartbeats 4000000 in
theorem kX5_isHalted_0 {p : Program} {l : Launch} {e : Env} {s : State} {m : MethodId} {args : Array Value} {below : List Frame} {meth : Method} {c : Code} {D : va_G} {A : Nat → Prop} {cI cS cF cZ cJ : ClassId} {ad : Nat → Nat} {X : va_W} {p1 : Int32} (G : cx p s m args meth c cX5_isHalted 3 wsX5_isHalted RX5 D (ty5 cI cS cF cZ cJ) A (some .boolean)) (v : Mem) : sk p l e rmX5_isHalted s m args below meth c D A 3 0 0 (fun res => MQ below (qi D A (ty5 cI cS cF cZ cJ) (Wr cI cZ ad X) res) args s 0 0 A) (Wr cI cZ ad X v) 0 [(0, .ref (ad 0)), (1, .int p1)] [] (fX5_isHalted p1 v) := by
  obtain ⟨F, hK, hA, hZ, hr, hlocks⟩ := G
  refine sk_eq (K' := gd (inb (14 * p1) 28) (if (v 7 (14 * p1).toNatClampNeg) = 1 then gd (inb (14 * p1) 28) (if (v 8 (14 * p1).toNatClampNeg) = 1 then some (1, v) else gd (inb (14 * p1) 28) (if ((v 0 4) - (v 9 (14 * p1).toNatClampNeg)) < 60 then fX5_isHalted_45 p1 v else some (1, v))) else fX5_isHalted_45 p1 v)) rfl ?_
  refine sk_bipush (x := 14) F dX5_isHalted_0 (by decide) ?_
  refine sk_iload_n F dX5_isHalted_2 rfl 1 rfl ?_
  refine sk_imul F dX5_isHalted_3 ?_
  refine sk_istore_n F dX5_isHalted_4 rfl (by decide) rfl ?_
  refine sk_aload_n F dX5_isHalted_5 rfl 1 rfl ?_
  refine sk_get (ref := "TunnelWatchModel") F hK (Lr_mem (by decide)) (shR_0 _) rfl iX5_isHalted_5 7 (by decide) (by decide +kernel) (fun _ h9 => h9) rfl dX5_isHalted_6 ?_
  refine sk_iload_n F dX5_isHalted_9 rfl 0 rfl ?_
  refine sk_iald F hK (Lr_mem (by decide)) (shR_7 _) 0 rfl dX5_isHalted_10 (fun h1 => ?_)
  refine sk_iconst (x := 1) F dX5_isHalted_11 (by decide) ?_
  refine sk_icmp_ne F 45 dX5_isHalted_12 (by decide) (fun h2 => ?_) (fun h2 => ?_)
  · exact sk_lv [] rfl (kX5_isHalted_45 ⟨F, hK, hA, hZ, hr, hlocks⟩ v)
  · refine sk_aload_n F dX5_isHalted_15 rfl 1 rfl ?_
    refine sk_get (ref := "TunnelWatchModel") F hK (Lr_mem (by decide)) (shR_0 _) rfl iX5_isHalted_5 8 (by decide) (by decide +kernel) (fun _ h9 => h9) rfl dX5_isHalted_16 ?_
    refine sk_iload_n F dX5_isHalted_19 rfl 0 rfl ?_
    refine sk_iald F hK (Lr_mem (by decide)) (shR_8 _) 0 rfl dX5_isHalted_20 (fun h3 => ?_)
    refine sk_iconst (x := 1) F dX5_isHalted_21 (by decide) ?_
    refine sk_icmp_eq F 41 dX5_isHalted_22 (by decide) (fun h4 => ?_) (fun h4 => ?_)
    · refine sk_iconst (x := 1) F dX5_isHalted_41 (by decide) ?_
      refine sk_goto F 46 dX5_isHalted_42 (by decide) ?_
      exact sk_zretc F hK hr hlocks (by decide) dX5_isHalted_46
    · refine sk_aload_n F dX5_isHalted_25 rfl 1 rfl ?_
      refine sk_get (ref := "TunnelWatchModel") F hK (Lr_mem (by decide)) (shR_0 _) rfl iX5_isHalted_5 4 (by decide) (by decide +kernel) (fun _ h9 => h9) rfl dX5_isHalted_26 ?_
      refine sk_aload_n F dX5_isHalted_29 rfl 1 rfl ?_
      refine sk_get (ref := "TunnelWatchModel") F hK (Lr_mem (by decide)) (shR_0 _) rfl iX5_isHalted_5 9 (by decide) (by decide +kernel) (fun _ h9 => h9) rfl dX5_isHalted_30 ?_
      refine sk_iload_n F dX5_isHalted_33 rfl 0 rfl ?_
      refine sk_iald F hK (Lr_mem (by decide)) (shR_9 _) 0 rfl dX5_isHalted_34 (fun h5 => ?_)
      refine sk_isub F dX5_isHalted_35 ?_
      refine sk_bipush (x := 60) F dX5_isHalted_36 (by decide) ?_
      refine sk_icmp_lt F 45 dX5_isHalted_38 (by decide) (fun h6 => ?_) (fun h6 => ?_)
      · exact sk_lv [] rfl (kX5_isHalted_45 ⟨F, hK, hA, hZ, hr, hlocks⟩ v)
      · refine sk_iconst (x := 1) F dX5_isHalted_41 (by decide) ?_
        refine sk_goto F 46 dX5_isHalted_42 (by decide) ?_
        exact sk_zretc F hK hr hlocks (by decide) dX5_isHalted_46
theorem tX5_isHalted {l : Launch} {D : va_G} {A : Nat → Prop} {cI cS cF cZ cJ : ClassId} {ad : Nat → Nat} {X : va_W} {p1 : Int32} (v : Mem) : CI l yX5_isHalted wsX5_isHalted rmX5_isHalted D A (ty5 cI cS cF cZ cJ) (Wr cI cZ ad X) [.ref (ad 0), .int p1] v (fX5_isHalted p1 v) :=
  CI_of (cc := cX5_isHalted) (maxL := 3) (ret := (some .boolean)) (by decide) rfl (Nat.le_of_ble_eq_true rfl) (fun p e s m below meth c G => kX5_isHalted_0 G v)
def rmX5_act : Room := { frames := 2, cells := 0, slots := 0, locals := 43 }
theorem iX5_act_5 : ∀ w ∈ wsX50, w ∈ wsX5_act := by decide +kernel
def fX5_act_77 (kb2 : Mem → Int32 → Option (Mem)) (kb9 : Mem → Int32 → Int32 → Option (Mem)) (v : Mem) (l1 : Int32) (l2 : Int32) (l3 : Int32) (s0 : Int32) (s1 : Int32) : Option (Mem) := gd (inb s1 28) (if l2 ≤ 1 then kb9 (up2 v 8 s1.toNatClampNeg s0) l1 (l2 + 1) else gd (inb l3 28) (if ((up2 v 8 s1.toNatClampNeg s0) 11 l3.toNatClampNeg) = 0 then gd (inb l3 28) (gd (inb l3 28) (if ((up2 v 8 s1.toNatClampNeg s0) 8 l3.toNatClampNeg) = ((up2 v 8 s1.toNatClampNeg s0) 7 l3.toNatClampNeg) then kb9 (up2 v 8 s1.toNatClampNeg s0) l1 (l2 + 1) else gd (inb l3 28) (if (((up2 v 8 s1.toNatClampNeg s0) 0 4) - ((up2 v 8 s1.toNatClampNeg s0) 9 l3.toNatClampNeg)) < 10 then kb9 (up2 v 8 s1.toNatClampNeg s0) l1 (l2 + 1) else gd (inb l3 28) ((fX5_stop l3 (up2 (up2 v 8 s1.toNatClampNeg s0) 11 l3.toNatClampNeg (vp_nar .boolean 1))).bind fun v22 => kb9 v22 l1 (l2 + 1))))) else kb9 (up2 v 8 s1.toNatClampNeg s0) l1 (l2 + 1)))
set_option maxRecDepth 100000 in
set_option maxHeartbeats 4000000 in
theorem kX5_act_77 {p : Program} {l : Launch} {e : Env} {s : State} {m : MethodId} {args : Array Value} {below : List Frame} {meth : Method} {c : Code} {D : va_G} {A : Nat → Prop} {cI cS cF cZ cJ : ClassId} {ad : Nat → Nat} {X : va_W} {kb2 : Mem → Int32 → Option (Mem)} {kb9 : Mem → Int32 → Int32 → Option (Mem)} (G : cx p s m args meth c cX5_act 4 wsX5_act RX5 D (ty5 cI cS cF cZ cJ) A none) (hkb2 : ∀ (v : Mem) (l1 : Int32), sk p l e rmX5_act s m args below meth c D A 4 0 0 (fun res => MQ below (qv D A (ty5 cI cS cF cZ cJ) (Wr cI cZ ad X) res) args s 0 0 A) (Wr cI cZ ad X v) 2 [(0, .ref (ad 0)), (1, .int l1)] [] (kb2 v l1)) (hkb9 : ∀ (v : Mem) (l1 : Int32) (l2 : Int32), sk p l e rmX5_act s m args below meth c D A 4 0 0 (fun res => MQ below (qv D A (ty5 cI cS cF cZ cJ) (Wr cI cZ ad X) res) args s 0 0 A) (Wr cI cZ ad X v) 9 [(0, .ref (ad 0)), (1, .int l1), (2, .int l2)] [] (kb9 v l1 l2)) (v : Mem) (l1 : Int32) (l2 : Int32) (l3 : Int32) (s0 : Int32) (s1 : Int32) : sk p l e rmX5_act s m args below meth c D A 4 0 0 (fun res => MQ below (qv D A (ty5 cI cS cF cZ cJ) (Wr cI cZ ad X) res) args s 0 0 A) (Wr cI cZ ad X v) 77 [(0, .ref (ad 0)), (1, .int l1), (2, .int l2), (3, .int l3)] [.int s0, .int s1, .ref (ad 8)] (fX5_act_77 kb2 kb9 v l1 l2 l3 s0 s1) := by
  obtain ⟨F, hK, hA, hZ, hr, hlocks⟩ := G
  refine sk_eq (K' := gd (inb s1 28) (if l2 ≤ 1 then kb9 (up2 v 8 s1.toNatClampNeg s0) l1 (l2 + 1) else gd (inb l3 28) (if ((up2 v 8 s1.toNatClampNeg s0) 11 l3.toNatClampNeg) = 0 then gd (inb l3 28) (gd (inb l3 28) (if ((up2 v 8 s1.toNatClampNeg s0) 8 l3.toNatClampNeg) = ((up2 v 8 s1.toNatClampNeg s0) 7 l3.toNatClampNeg) then kb9 (up2 v 8 s1.toNatClampNeg s0) l1 (l2 + 1) else gd (inb l3 28) (if (((up2 v 8 s1.toNatClampNeg s0) 0 4) - ((up2 v 8 s1.toNatClampNeg s0) 9 l3.toNatClampNeg)) < 10 then kb9 (up2 v 8 s1.toNatClampNeg s0) l1 (l2 + 1) else gd (inb l3 28) ((fX5_stop l3 (up2 (up2 v 8 s1.toNatClampNeg s0) 11 l3.toNatClampNeg (vp_nar .boolean 1))).bind fun v22 => kb9 v22 l1 (l2 + 1))))) else kb9 (up2 v 8 s1.toNatClampNeg s0) l1 (l2 + 1)))) rfl ?_
  refine sk_iast F hK Lr_nd (Lr_mem (by decide)) shR_8 0 rfl dX5_act_77 (fun h11 => ?_)
  refine sk_iload_n F dX5_act_78 rfl 2 rfl ?_
  refine sk_iconst (x := 1) F dX5_act_79 (by decide) ?_
  refine sk_icmp_le F 135 dX5_act_80 (by decide) (fun h12 => ?_) (fun h12 => ?_)
  · refine sk_iinc (y := l2 + 1) F dX5_act_135 2 rfl rfl (by decide) rfl ?_
    refine sk_goto F 9 dX5_act_138 (by decide) ?_
    exact sk_lv [1, 2, 0] rfl (hkb9 (up2 v 8 s1.toNatClampNeg s0) l1 (l2 + 1))
  · refine sk_aload_n F dX5_act_83 rfl 0 rfl ?_
    refine sk_get (ref := "TunnelWatchModel") F hK (Lr_mem (by decide)) (shR_0 _) rfl iX5_act_5 11 (by decide) (by decide +kernel) (fun _ h9 => h9) rfl dX5_act_84 ?_
    refine sk_iload_n F dX5_act_87 rfl 3 rfl ?_
    refine sk_zald F hK (Lr_mem (by decide)) (shR_11 _) 3 rfl dX5_act_88 (fun h13 => ?_)
    refine sk_if_ne F 135 dX5_act_89 (by decide) (fun h14 => ?_) (fun h14 => ?_)
    · refine sk_iinc (y := l2 + 1) F dX5_act_135 2 rfl rfl (by decide) rfl ?_
      refine sk_goto F 9 dX5_act_138 (by decide) ?_
      exact sk_lv [1, 2, 0] rfl (hkb9 (up2 v 8 s1.toNatClampNeg s0) l1 (l2 + 1))
    · refine sk_aload_n F dX5_act_92 rfl 0 rfl ?_
      refine sk_get (ref := "TunnelWatchModel") F hK (Lr_mem (by decide)) (shR_0 _) rfl iX5_act_5 8 (by decide) (by decide +kernel) (fun _ h9 => h9) rfl dX5_act_93 ?_
      refine sk_iload_n F dX5_act_96 rfl 3 rfl ?_
      refine sk_iald F hK (Lr_mem (by decide)) (shR_8 _) 0 rfl dX5_act_97 (fun h15 => ?_)
      refine sk_aload_n F dX5_act_98 rfl 0 rfl ?_
      refine sk_get (ref := "TunnelWatchModel") F hK (Lr_mem (by decide)) (shR_0 _) rfl iX5_act_5 7 (by decide) (by decide +kernel) (fun _ h9 => h9) rfl dX5_act_99 ?_
      refine sk_iload_n F dX5_act_102 rfl 3 rfl ?_
      refine sk_iald F hK (Lr_mem (by decide)) (shR_7 _) 0 rfl dX5_act_103 (fun h16 => ?_)
      refine sk_icmp_eq F 135 dX5_act_104 (by decide) (fun h17 => ?_) (fun h17 => ?_)
      · refine sk_iinc (y := l2 + 1) F dX5_act_135 2 rfl rfl (by decide) rfl ?_
        refine sk_goto F 9 dX5_act_138 (by decide) ?_
        exact sk_lv [1, 2, 0] rfl (hkb9 (up2 v 8 s1.toNatClampNeg s0) l1 (l2 + 1))
      · refine sk_aload_n F dX5_act_107 rfl 0 rfl ?_
        refine sk_get (ref := "TunnelWatchModel") F hK (Lr_mem (by decide)) (shR_0 _) rfl iX5_act_5 4 (by decide) (by decide +kernel) (fun _ h9 => h9) rfl dX5_act_108 ?_
        refine sk_aload_n F dX5_act_111 rfl 0 rfl ?_
        refine sk_get (ref := "TunnelWatchModel") F hK (Lr_mem (by decide)) (shR_0 _) rfl iX5_act_5 9 (by decide) (by decide +kernel) (fun _ h9 => h9) rfl dX5_act_112 ?_
        refine sk_iload_n F dX5_act_115 rfl 3 rfl ?_
        refine sk_iald F hK (Lr_mem (by decide)) (shR_9 _) 0 rfl dX5_act_116 (fun h18 => ?_)
        refine sk_isub F dX5_act_117 ?_
        refine sk_bipush (x := 10) F dX5_act_118 (by decide) ?_
        refine sk_icmp_lt F 135 dX5_act_120 (by decide) (fun h19 => ?_) (fun h19 => ?_)
        · refine sk_iinc (y := l2 + 1) F dX5_act_135 2 rfl rfl (by decide) rfl ?_
          refine sk_goto F 9 dX5_act_138 (by decide) ?_
          exact sk_lv [1, 2, 0] rfl (hkb9 (up2 v 8 s1.toNatClampNeg s0) l1 (l2 + 1))
        · refine sk_aload_n F dX5_act_123 rfl 0 rfl ?_
          refine sk_get (ref := "TunnelWatchModel") F hK (Lr_mem (by decide)) (shR_0 _) rfl iX5_act_5 11 (by decide) (by decide +kernel) (fun _ h9 => h9) rfl dX5_act_124 ?_
          refine sk_iload_n F dX5_act_127 rfl 3 rfl ?_
          refine sk_iconst (x := 1) F dX5_act_128 (by decide) ?_
          refine sk_zast F hK Lr_nd (Lr_mem (by decide)) shR_11 3 rfl dX5_act_129 (fun h20 => ?_)
          refine sk_aload_n F dX5_act_130 rfl 0 rfl ?_
          refine sk_iload_n F dX5_act_131 rfl 3 rfl ?_
          refine sk_callVv (As := [.int l3]) (rest := []) F hK hA hZ _ (tX5_stop _) (cwV 1 F.2.2.2.2 gX5_act_X5_stop rfl rfl rfl (by decide +kernel) ⟨Nat.le_of_ble_eq_true rfl, Nat.le_of_ble_eq_true rfl⟩) (rc5 hK) rfl rfl (Nat.le_of_ble_eq_true rfl) (by decide) dX5_act_132 (fun v22 c21 => ?_)
          refine sk_iinc (y := l2 + 1) F dX5_act_135 2 rfl rfl (by decide) rfl ?_
          refine sk_goto F 9 dX5_act_138 (by decide) ?_
          exact sk_lv [1, 2, 0] rfl (hkb9 v22 l1 (l2 + 1))
def fX5_act_71 (kb2 : Mem → Int32 → Option (Mem)) (kb9 : Mem → Int32 → Int32 → Option (Mem)) (v : Mem) (l1 : Int32) (l2 : Int32) (l3 : Int32) (s0 : Int32) : Option (Mem) := gd (inb l3 28) (fX5_act_77 kb2 kb9 v l1 l2 l3 (v 8 l3.toNatClampNeg) s0)
set_option maxRecDepth 100000 in
set_option maxHeartbeats 4000000 in
theorem kX5_act_71 {p : Program} {l : Launch} {e : Env} {s : State} {m : MethodId} {args : Array Value} {below : List Frame} {meth : Method} {c : Code} {D : va_G} {A : Nat → Prop} {cI cS cF cZ cJ : ClassId} {ad : Nat → Nat} {X : va_W} {kb2 : Mem → Int32 → Option (Mem)} {kb9 : Mem → Int32 → Int32 → Option (Mem)} (G : cx p s m args meth c cX5_act 4 wsX5_act RX5 D (ty5 cI cS cF cZ cJ) A none) (hkb2 : ∀ (v : Mem) (l1 : Int32), sk p l e rmX5_act s m args below meth c D A 4 0 0 (fun res => MQ below (qv D A (ty5 cI cS cF cZ cJ) (Wr cI cZ ad X) res) args s 0 0 A) (Wr cI cZ ad X v) 2 [(0, .ref (ad 0)), (1, .int l1)] [] (kb2 v l1)) (hkb9 : ∀ (v : Mem) (l1 : Int32) (l2 : Int32), sk p l e rmX5_act s m args below meth c D A 4 0 0 (fun res => MQ below (qv D A (ty5 cI cS cF cZ cJ) (Wr cI cZ ad X) res) args s 0 0 A) (Wr cI cZ ad X v) 9 [(0, .ref (ad 0)), (1, .int l1), (2, .int l2)] [] (kb9 v l1 l2)) (v : Mem) (l1 : Int32) (l2 : Int32) (l3 : Int32) (s0 : Int32) : sk p l e rmX5_act s m args below meth c D A 4 0 0 (fun res => MQ below (qv D A (ty5 cI cS cF cZ cJ) (Wr cI cZ ad X) res) args s 0 0 A) (Wr cI cZ ad X v) 71 [(0, .ref (ad 0)), (1, .int l1), (2, .int l2), (3, .int l3)] [.int s0, .ref (ad 8)] (fX5_act_71 kb2 kb9 v l1 l2 l3 s0) := by
  obtain ⟨F, hK, hA, hZ, hr, hlocks⟩ := G
  refine sk_eq (K' := gd (inb l3 28) (fX5_act_77 kb2 kb9 v l1 l2 l3 (v 8 l3.toNatClampNeg) s0)) rfl ?_
  refine sk_aload_n F dX5_act_71 rfl 0 rfl ?_
  refine sk_get (ref := "TunnelWatchModel") F hK (Lr_mem (by decide)) (shR_0 _) rfl iX5_act_5 8 (by decide) (by decide +kernel) (fun _ h9 => h9) rfl dX5_act_72 ?_
  refine sk_iload_n F dX5_act_75 rfl 3 rfl ?_
  refine sk_iald F hK (Lr_mem (by decide)) (shR_8 _) 0 rfl dX5_act_76 (fun h10 => ?_)
  exact kX5_act_77 ⟨F, hK, hA, hZ, hr, hlocks⟩ hkb2 hkb9 v l1 l2 l3 (v 8 l3.toNatClampNeg) s0
def fX5_act_9 (kb2 : Mem → Int32 → Option (Mem)) : Nat → Mem → Int32 → Int32 → Option (Mem)
  | 0, _, _, _ => none
  | fuel + 1, v, l1, l2 => gd (inb l1 2) (if (2 + (v 5 l1.toNatClampNeg)) ≤ l2 then kb2 v (l1 + 1) else gd (inb ((14 * l1) + l2) 28) (if (v 10 ((14 * l1) + l2).toNatClampNeg) = 0 then gd (inb ((14 * l1) + l2) 28) (gd (inb ((14 * l1) + l2) 28) (if ((v 0 4) - (v 9 ((14 * l1) + l2).toNatClampNeg)) < (v 6 ((14 * l1) + l2).toNatClampNeg) then fX5_act_71 kb2 (fun v l1 l2 => fX5_act_9 kb2 fuel v l1 l2) v l1 l2 ((14 * l1) + l2) ((14 * l1) + l2) else gd (inb ((14 * l1) + l2) 28) (fX5_act_77 kb2 (fun v l1 l2 => fX5_act_9 kb2 fuel v l1 l2) v l1 l2 ((14 * l1) + l2) (v 7 ((14 * l1) + l2).toNatClampNeg) ((14 * l1) + l2)))) else fX5_act_71 kb2 (fun v l1 l2 => fX5_act_9 kb2 fuel v l1 l2) v l1 l2 ((14 * l1) + l2) ((14 * l1) + l2)))
set_option maxRecDepth 100000 in
set_option maxHeartbeats 4000000 in
theorem kX5_act_9 {p : Program} {l : Launch} {e : Env} {s : State} {m : MethodId} {args : Array Value} {below : List Frame} {meth : Method} {c : Code} {D : va_G} {A : Nat → Prop} {cI cS cF cZ cJ : ClassId} {ad : Nat → Nat} {X : va_W} {kb2 : Mem → Int32 → Option (Mem)} (G : cx p s m args meth c cX5_act 4 wsX5_act RX5 D (ty5 cI cS cF cZ cJ) A none) (hkb2 : ∀ (v : Mem) (l1 : Int32), sk p l e rmX5_act s m args below meth c D A 4 0 0 (fun res => MQ below (qv D A (ty5 cI cS cF cZ cJ) (Wr cI cZ ad X) res) args s 0 0 A) (Wr cI cZ ad X v) 2 [(0, .ref (ad 0)), (1, .int l1)] [] (kb2 v l1)) : ∀ (fuel : Nat) (v : Mem) (l1 : Int32) (l2 : Int32), sk p l e rmX5_act s m args below meth c D A 4 0 0 (fun res => MQ below (qv D A (ty5 cI cS cF cZ cJ) (Wr cI cZ ad X) res) args s 0 0 A) (Wr cI cZ ad X v) 9 [(0, .ref (ad 0)), (1, .int l1), (2, .int l2)] [] (fX5_act_9 kb2 fuel v l1 l2) := by
  obtain ⟨F, hK, hA, hZ, hr, hlocks⟩ := G
  intro fuel
  induction fuel with
  | zero => intro v l1 l2; exact sk_none
  | succ fuel ih =>
    intro v l1 l2
    refine sk_eq (K' := gd (inb l1 2) (if (2 + (v 5 l1.toNatClampNeg)) ≤ l2 then kb2 v (l1 + 1) else gd (inb ((14 * l1) + l2) 28) (if (v 10 ((14 * l1) + l2).toNatClampNeg) = 0 then gd (inb ((14 * l1) + l2) 28) (gd (inb ((14 * l1) + l2) 28) (if ((v 0 4) - (v 9 ((14 * l1) + l2).toNatClampNeg)) < (v 6 ((14 * l1) + l2).toNatClampNeg) then fX5_act_71 kb2 (fun v l1 l2 => fX5_act_9 kb2 fuel v l1 l2) v l1 l2 ((14 * l1) + l2) ((14 * l1) + l2) else gd (inb ((14 * l1) + l2) 28) (fX5_act_77 kb2 (fun v l1 l2 => fX5_act_9 kb2 fuel v l1 l2) v l1 l2 ((14 * l1) + l2) (v 7 ((14 * l1) + l2).toNatClampNeg) ((14 * l1) + l2)))) else fX5_act_71 kb2 (fun v l1 l2 => fX5_act_9 kb2 fuel v l1 l2) v l1 l2 ((14 * l1) + l2) ((14 * l1) + l2)))) rfl ?_
    refine sk_iload_n F dX5_act_9 rfl 2 rfl ?_
    refine sk_iconst (x := 2) F dX5_act_10 (by decide) ?_
    refine sk_aload_n F dX5_act_11 rfl 0 rfl ?_
    refine sk_get (ref := "TunnelWatchModel") F hK (Lr_mem (by decide)) (shR_0 _) rfl iX5_act_5 5 (by decide) (by decide +kernel) (fun _ h9 => h9) rfl dX5_act_12 ?_
    refine sk_iload_n F dX5_act_15 rfl 1 rfl ?_
    refine sk_iald F hK (Lr_mem (by decide)) (shR_5 _) 0 rfl dX5_act_16 (fun h2 => ?_)
    refine sk_iadd F dX5_act_17 ?_
    refine sk_icmp_ge F 141 dX5_act_18 (by decide) (fun h3 => ?_) (fun h3 => ?_)
    · refine sk_iinc (y := l1 + 1) F dX5_act_141 1 rfl rfl (by decide) rfl ?_
      refine sk_goto F 2 dX5_act_144 (by decide) ?_
      exact sk_lv [1, 0] rfl (hkb2 v (l1 + 1))
    · refine sk_bipush (x := 14) F dX5_act_21 (by decide) ?_
      refine sk_iload_n F dX5_act_23 rfl 1 rfl ?_
      refine sk_imul F dX5_act_24 ?_
      refine sk_iload_n F dX5_act_25 rfl 2 rfl ?_
      refine sk_iadd F dX5_act_26 ?_
      refine sk_istore_n F dX5_act_27 rfl (by decide) rfl ?_
      refine sk_aload_n F dX5_act_28 rfl 1 rfl ?_
      refine sk_get (ref := "TunnelWatchModel") F hK (Lr_mem (by decide)) (shR_0 _) rfl iX5_act_5 8 (by decide) (by decide +kernel) (fun _ h9 => h9) rfl dX5_act_29 ?_
      refine sk_iload_n F dX5_act_32 rfl 0 rfl ?_
      refine sk_aload_n F dX5_act_33 rfl 1 rfl ?_
      refine sk_get (ref := "TunnelWatchModel") F hK (Lr_mem (by decide)) (shR_0 _) rfl iX5_act_5 10 (by decide) (by decide +kernel) (fun _ h9 => h9) rfl dX5_act_34 ?_
      refine sk_iload_n F dX5_act_37 rfl 0 rfl ?_
      refine sk_zald F hK (Lr_mem (by decide)) (shR_10 _) 3 rfl dX5_act_38 (fun h4 => ?_)
      refine sk_if_ne F 71 dX5_act_39 (by decide) (fun h5 => ?_) (fun h5 => ?_)
      · exact sk_lv [1, 2, 3, 0] rfl (kX5_act_71 ⟨F, hK, hA, hZ, hr, hlocks⟩ hkb2 ih v l1 l2 ((14 * l1) + l2) ((14 * l1) + l2))
      · refine sk_aload_n F dX5_act_42 rfl 1 rfl ?_
        refine sk_get (ref := "TunnelWatchModel") F hK (Lr_mem (by decide)) (shR_0 _) rfl iX5_act_5 4 (by decide) (by decide +kernel) (fun _ h9 => h9) rfl dX5_act_43 ?_
        refine sk_aload_n F dX5_act_46 rfl 1 rfl ?_
        refine sk_get (ref := "TunnelWatchModel") F hK (Lr_mem (by decide)) (shR_0 _) rfl iX5_act_5 9 (by decide) (by decide +kernel) (fun _ h9 => h9) rfl dX5_act_47 ?_
        refine sk_iload_n F dX5_act_50 rfl 0 rfl ?_
        refine sk_iald F hK (Lr_mem (by decide)) (shR_9 _) 0 rfl dX5_act_51 (fun h6 => ?_)
        refine sk_isub F dX5_act_52 ?_
        refine sk_aload_n F dX5_act_53 rfl 1 rfl ?_
        refine sk_get (ref := "TunnelWatchModel") F hK (Lr_mem (by decide)) (shR_0 _) rfl iX5_act_5 6 (by decide) (by decide +kernel) (fun _ h9 => h9) rfl dX5_act_54 ?_
        refine sk_iload_n F dX5_act_57 rfl 0 rfl ?_
        refine sk_iald F hK (Lr_mem (by decide)) (shR_6 _) 0 rfl dX5_act_58 (fun h7 => ?_)
        refine sk_icmp_lt F 71 dX5_act_59 (by decide) (fun h8 => ?_) (fun h8 => ?_)
        · exact sk_lv [1, 2, 3, 0] rfl (kX5_act_71 ⟨F, hK, hA, hZ, hr, hlocks⟩ hkb2 ih v l1 l2 ((14 * l1) + l2) ((14 * l1) + l2))
        · refine sk_aload_n F dX5_act_62 rfl 1 rfl ?_
          refine sk_get (ref := "TunnelWatchModel") F hK (Lr_mem (by decide)) (shR_0 _) rfl iX5_act_5 7 (by decide) (by decide +kernel) (fun _ h9 => h9) rfl dX5_act_63 ?_
          refine sk_iload_n F dX5_act_66 rfl 0 rfl ?_
          refine sk_iald F hK (Lr_mem (by decide)) (shR_7 _) 0 rfl dX5_act_67 (fun h9 => ?_)
          refine sk_goto F 77 dX5_act_68 (by decide) ?_
          exact sk_lv [1, 2, 3, 0] rfl (kX5_act_77 ⟨F, hK, hA, hZ, hr, hlocks⟩ hkb2 ih v l1 l2 ((14 * l1) + l2) (v 7 ((14 * l1) + l2).toNatClampNeg) ((14 * l1) + l2))
def fX5_act_2 : Nat → Mem → Int32 → Option (Mem)
  | 0, _, _ => none
  | fuel + 1, v, l1 => if 2 ≤ l1 then some v else fX5_act_9 (fun v l1 => fX5_act_2 fuel v l1) 1000 v l1 0
set_option maxRecDepth 100000 in
set_option maxHeartbeats 4000000 in
theorem kX5_act_2 {p : Program} {l : Launch} {e : Env} {s : State} {m : MethodId} {args : Array Value} {below : List Frame} {meth : Method} {c : Code} {D : va_G} {A : Nat → Prop} {cI cS cF cZ cJ : ClassId} {ad : Nat → Nat} {X : va_W} (G : cx p s m args meth c cX5_act 4 wsX5_act RX5 D (ty5 cI cS cF cZ cJ) A none) : ∀ (fuel : Nat) (v : Mem) (l1 : Int32), sk p l e rmX5_act s m args below meth c D A 4 0 0 (fun res => MQ below (qv D A (ty5 cI cS cF cZ cJ) (Wr cI cZ ad X) res) args s 0 0 A) (Wr cI cZ ad X v) 2 [(0, .ref (ad 0)), (1, .int l1)] [] (fX5_act_2 fuel v l1) := by
  obtain ⟨F, hK, hA, hZ, hr, hlocks⟩ := G
  intro fuel
  induction fuel with
  | zero => intro v l1; exact sk_none
  | succ fuel ih =>
    intro v l1
    refine sk_eq (K' := if 2 ≤ l1 then some v else fX5_act_9 (fun v l1 => fX5_act_2 fuel v l1) 1000 v l1 0) rfl ?_
    refine sk_iload_n F dX5_act_2 rfl 1 rfl ?_
    refine sk_iconst (x := 2) F dX5_act_3 (by decide) ?_
    refine sk_icmp_ge F 147 dX5_act_4 (by decide) (fun h1 => ?_) (fun h1 => ?_)
    · exact sk_vret F hK hr hlocks dX5_act_147
    · refine sk_iconst (x := 0) F dX5_act_7 (by decide) ?_
      refine sk_istore_n F dX5_act_8 rfl (by decide) rfl ?_
      exact sk_lv [1, 2, 0] rfl (kX5_act_9 ⟨F, hK, hA, hZ, hr, hlocks⟩ ih 1000 v l1 0)
def fX5_act (v : Mem) : Option (Mem) := fX5_act_2 1000 v 0
set_option maxRecDepth 100000 in
set_option maxHeartbeats 4000000 in
theorem kX5_act_0 {p : Program} {l : Launch} {e : Env} {s : State} {m : MethodId} {args : Array Value} {below : List Frame} {meth : Method} {c : Code} {D : va_G} {A : Nat → Prop} {cI cS cF cZ cJ : ClassId} {ad : Nat → Nat} {X : va_W} (G : cx p s m args meth c cX5_act 4 wsX5_act RX5 D (ty5 cI cS cF cZ cJ) A none) (v : Mem) : sk p l e rmX5_act s m args below meth c D A 4 0 0 (fun res => MQ below (qv D A (ty5 cI cS cF cZ cJ) (Wr cI cZ ad X) res) args s 0 0 A) (Wr cI cZ ad X v) 0 [(0, .ref (ad 0))] [] (fX5_act v) := by
  obtain ⟨F, hK, hA, hZ, hr, hlocks⟩ := G
  refine sk_eq (K' := fX5_act_2 1000 v 0) rfl ?_
  refine sk_iconst (x := 0) F dX5_act_0 (by decide) ?_
  refine sk_istore_n F dX5_act_1 rfl (by decide) rfl ?_
  exact sk_lv [1, 0] rfl (kX5_act_2 ⟨F, hK, hA, hZ, hr, hlocks⟩ 1000 v 0)
theorem tX5_act {l : Launch} {D : va_G} {A : Nat → Prop} {cI cS cF cZ cJ : ClassId} {ad : Nat → Nat} {X : va_W} (v : Mem) : CV l yX5_act wsX5_act rmX5_act D A (ty5 cI cS cF cZ cJ) (Wr cI cZ ad X) [.ref (ad 0)] v (fX5_act v) :=
  CV_of (cc := cX5_act) (maxL := 4) (ret := none) (by decide) rfl (Nat.le_of_ble_eq_true rfl) (fun p e s m below meth c G => kX5_act_0 G v)
def rmX5_isCandidate : Room := { frames := 1, cells := 0, slots := 0, locals := 22 }
theorem iX5_isCandidate_5 : ∀ w ∈ wsX50, w ∈ wsX5_isCandidate := by decide +kernel
def fX5_isCandidate_63 (kb5 : Mem → Int32 → Int32 → Option (Int32 × Mem)) (p1 : Int32) (p2 : Int32) (v : Mem) (l4 : Int32) : Option (Int32 × Mem) := kb5 v 0 (l4 + 1)
set_option maxRecDepth 100000 in
set_option maxHeartbeats 4000000 in
theorem kX5_isCandidate_63 {p : Program} {l : Launch} {e : Env} {s : State} {m : MethodId} {args : Array Value} {below : List Frame} {meth : Method} {c : Code} {D : va_G} {A : Nat → Prop} {cI cS cF cZ cJ : ClassId} {ad : Nat → Nat} {X : va_W} {p1 : Int32} {p2 : Int32} {kb5 : Mem → Int32 → Int32 → Option (Int32 × Mem)} (G : cx p s m args meth c cX5_isCandidate 6 wsX5_isCandidate RX5 D (ty5 cI cS cF cZ cJ) A (some .boolean)) (hkb5 : ∀ (v : Mem) (l3 : Int32) (l4 : Int32), sk p l e rmX5_isCandidate s m args below meth c D A 6 0 0 (fun res => MQ below (qi D A (ty5 cI cS cF cZ cJ) (Wr cI cZ ad X) res) args s 0 0 A) (Wr cI cZ ad X v) 5 [(0, .ref (ad 0)), (1, .int p1), (2, .int p2), (3, .int l3), (4, .int l4)] [] (kb5 v l3 l4)) (v : Mem) (l4 : Int32) : sk p l e rmX5_isCandidate s m args below meth c D A 6 0 0 (fun res => MQ below (qi D A (ty5 cI cS cF cZ cJ) (Wr cI cZ ad X) res) args s 0 0 A) (Wr cI cZ ad X v) 63 [(0, .ref (ad 0)), (1, .int p1), (2, .int p2), (4, .int l4)] [] (fX5_isCandidate_63 kb5 p1 p2 v l4) := by
  obtain ⟨F, hK, hA, hZ, hr, hlocks⟩ := G
  refine sk_eq (K' := kb5 v 0 (l4 + 1)) rfl ?_
  refine sk_iconst (x := 0) F dX5_isCandidate_63 (by decide) ?_
  refine sk_istore_n F dX5_isCandidate_64 rfl (by decide) rfl ?_
  refine sk_iinc (y := l4 + 1) F dX5_isCandidate_65 4 rfl rfl (by decide) rfl ?_
  refine sk_goto F 5 dX5_isCandidate_68 (by decide) ?_
  exact sk_lv [2, 3, 4, 1, 0] rfl (hkb5 v 0 (l4 + 1))
def fX5_isCandidate_31 (kb5 : Mem → Int32 → Int32 → Option (Int32 × Mem)) (p1 : Int32) (p2 : Int32) (v : Mem) (l3 : Int32) (l4 : Int32) (s0 : Int32) : Option (Int32 × Mem) := if l3 = 0 then if s0 < 1 then fX5_isCandidate_63 kb5 p1 p2 v l4 else if 3 < s0 then fX5_isCandidate_63 kb5 p1 p2 v l4 else bd (fX5_isOn p1 l4 v) fun x13 v12 => if x13 = 0 then fX5_isCandidate_63 kb5 p1 p2 v12 l4 else kb5 v12 1 (l4 + 1) else kb5 v 1 (l4 + 1)
set_option maxRecDepth 100000 in
set_option maxHeartbeats 4000000 in
theorem kX5_isCandidate_31 {p : Program} {l : Launch} {e : Env} {s : State} {m : MethodId} {args : Array Value} {below : List Frame} {meth : Method} {c : Code} {D : va_G} {A : Nat → Prop} {cI cS cF cZ cJ : ClassId} {ad : Nat → Nat} {X : va_W} {p1 : Int32} {p2 : Int32} {kb5 : Mem → Int32 → Int32 → Option (Int32 × Mem)} (G : cx p s m args meth c cX5_isCandidate 6 wsX5_isCandidate RX5 D (ty5 cI cS cF cZ cJ) A (some .boolean)) (hkb5 : ∀ (v : Mem) (l3 : Int32) (l4 : Int32), sk p l e rmX5_isCandidate s m args below meth c D A 6 0 0 (fun res => MQ below (qi D A (ty5 cI cS cF cZ cJ) (Wr cI cZ ad X) res) args s 0 0 A) (Wr cI cZ ad X v) 5 [(0, .ref (ad 0)), (1, .int p1), (2, .int p2), (3, .int l3), (4, .int l4)] [] (kb5 v l3 l4)) (v : Mem) (l3 : Int32) (l4 : Int32) (s0 : Int32) : sk p l e rmX5_isCandidate s m args below meth c D A 6 0 0 (fun res => MQ below (qi D A (ty5 cI cS cF cZ cJ) (Wr cI cZ ad X) res) args s 0 0 A) (Wr cI cZ ad X v) 31 [(0, .ref (ad 0)), (1, .int p1), (2, .int p2), (3, .int l3), (4, .int l4)] [.int s0] (fX5_isCandidate_31 kb5 p1 p2 v l3 l4 s0) := by
  obtain ⟨F, hK, hA, hZ, hr, hlocks⟩ := G
  refine sk_eq (K' := if l3 = 0 then if s0 < 1 then fX5_isCandidate_63 kb5 p1 p2 v l4 else if 3 < s0 then fX5_isCandidate_63 kb5 p1 p2 v l4 else bd (fX5_isOn p1 l4 v) fun x13 v12 => if x13 = 0 then fX5_isCandidate_63 kb5 p1 p2 v12 l4 else kb5 v12 1 (l4 + 1) else kb5 v 1 (l4 + 1)) rfl ?_
  refine sk_istore F dX5_isCandidate_31 (by decide) rfl ?_
  refine sk_iload_n F dX5_isCandidate_33 rfl 4 rfl ?_
  refine sk_if_ne F 59 dX5_isCandidate_34 (by decide) (fun h8 => ?_) (fun h8 => ?_)
  · refine sk_iconst (x := 1) F dX5_isCandidate_59 (by decide) ?_
    refine sk_goto F 64 dX5_isCandidate_60 (by decide) ?_
    refine sk_istore_n F dX5_isCandidate_64 rfl (by decide) rfl ?_
    refine sk_iinc (y := l4 + 1) F dX5_isCandidate_65 5 rfl rfl (by decide) rfl ?_
    refine sk_goto F 5 dX5_isCandidate_68 (by decide) ?_
    exact sk_lv [3, 4, 5, 1, 0] rfl (hkb5 v 1 (l4 + 1))
  · refine sk_iload F dX5_isCandidate_37 0 rfl ?_
    refine sk_iconst (x := 1) F dX5_isCandidate_39 (by decide) ?_
    refine sk_icmp_lt F 63 dX5_isCandidate_40 (by decide) (fun h9 => ?_) (fun h9 => ?_)
    · exact sk_lv [1, 2, 3, 5] rfl (kX5_isCandidate_63 ⟨F, hK, hA, hZ, hr, hlocks⟩ hkb5 v l4)
    · refine sk_iload F dX5_isCandidate_43 0 rfl ?_
      refine sk_iconst (x := 3) F dX5_isCandidate_45 (by decide) ?_
      refine sk_icmp_gt F 63 dX5_isCandidate_46 (by decide) (fun h10 => ?_) (fun h10 => ?_)
      · exact sk_lv [1, 2, 3, 5] rfl (kX5_isCandidate_63 ⟨F, hK, hA, hZ, hr, hlocks⟩ hkb5 v l4)
      · refine sk_aload_n F dX5_isCandidate_49 rfl 1 rfl ?_
        refine sk_iload_n F dX5_isCandidate_50 rfl 2 rfl ?_
        refine sk_iload F dX5_isCandidate_51 5 rfl ?_
        refine sk_callVi (As := [.int p1, .int l4]) (rest := []) F hK hA hZ _ (tX5_isOn _) (cwV 2 F.2.2.2.2 gX5_isCandidate_X5_isOn rfl rfl rfl (by decide +kernel) ⟨Nat.le_of_ble_eq_true rfl, Nat.le_of_ble_eq_true rfl⟩) (rc5 hK) rfl rfl (Nat.le_of_ble_eq_true rfl) (by decide) dX5_isCandidate_53 (fun x13 v12 c11 => ?_)
        refine sk_if_eq F 63 dX5_isCandidate_56 (by decide) (fun h14 => ?_) (fun h14 => ?_)
        · exact sk_lv [1, 2, 3, 5] rfl (kX5_isCandidate_63 ⟨F, hK, hA, hZ, hr, hlocks⟩ hkb5 v12 l4)
        · refine sk_iconst (x := 1) F dX5_isCandidate_59 (by decide) ?_
          refine sk_goto F 64 dX5_isCandidate_60 (by decide) ?_
          refine sk_istore_n F dX5_isCandidate_64 rfl (by decide) rfl ?_
          refine sk_iinc (y := l4 + 1) F dX5_isCandidate_65 5 rfl rfl (by decide) rfl ?_
          refine sk_goto F 5 dX5_isCandidate_68 (by decide) ?_
          exact sk_lv [3, 4, 5, 1, 0] rfl (hkb5 v12 1 (l4 + 1))
def fX5_isCandidate_88 (p1 : Int32) (p2 : Int32) (v : Mem) : Option (Int32 × Mem) := some (0, v)
set_option maxRecDepth 100000 in
set_option maxHeartbeats 4000000 in
theorem kX5_isCandidate_88 {p : Program} {l : Launch} {e : Env} {s : State} {m : MethodId} {args : Array Value} {below : List Frame} {meth : Method} {c : Code} {D : va_G} {A : Nat → Prop} {cI cS cF cZ cJ : ClassId} {ad : Nat → Nat} {X : va_W} {p1 : Int32} {p2 : Int32} (G : cx p s m args meth c cX5_isCandidate 6 wsX5_isCandidate RX5 D (ty5 cI cS cF cZ cJ) A (some .boolean)) (v : Mem) : sk p l e rmX5_isCandidate s m args below meth c D A 6 0 0 (fun res => MQ below (qi D A (ty5 cI cS cF cZ cJ) (Wr cI cZ ad X) res) args s 0 0 A) (Wr cI cZ ad X v) 88 [] [] (fX5_isCandidate_88 p1 p2 v) := by
  obtain ⟨F, hK, hA, hZ, hr, hlocks⟩ := G
  refine sk_eq (K' := some (0, v)) rfl ?_
  refine sk_iconst (x := 0) F dX5_isCandidate_88 (by decide) ?_
  exact sk_zretc F hK hr hlocks (by decide) dX5_isCandidate_89
def fX5_isCandidate_5 (p1 : Int32) (p2 : Int32) : Nat → Mem → Int32 → Int32 → Option (Int32 × Mem)
  | 0, _, _, _ => none
  | fuel + 1, v, l3, l4 => if (v 0 1) ≤ l4 then bd (fX5_isOn p1 p2 v) fun x4 v3 => if x4 = 0 then fX5_isCandidate_88 p1 p2 v3 else if l3 = 0 then fX5_isCandidate_88 p1 p2 v3 else some (1, v3) else if p2 ≤ l4 then fX5_isCandidate_31 (fun v l3 l4 => fX5_isCandidate_5 p1 p2 fuel v l3 l4) p1 p2 v l3 l4 (l4 - p2) else fX5_isCandidate_31 (fun v l3 l4 => fX5_isCandidate_5 p1 p2 fuel v l3 l4) p1 p2 v l3 l4 (p2 - l4)
set_option maxRecDepth 100000 in
set_option maxHeartbeats 4000000 in
theorem kX5_isCandidate_5 {p : Program} {l : Launch} {e : Env} {s : State} {m : MethodId} {args : Array Value} {below : List Frame} {meth : Method} {c : Code} {D : va_G} {A : Nat → Prop} {cI cS cF cZ cJ : ClassId} {ad : Nat → Nat} {X : va_W} {p1 : Int32} {p2 : Int32} (G : cx p s m args meth c cX5_isCandidate 6 wsX5_isCandidate RX5 D (ty5 cI cS cF cZ cJ) A (some .boolean)) : ∀ (fuel : Nat) (v : Mem) (l3 : Int32) (l4 : Int32), sk p l e rmX5_isCandidate s m args below meth c D A 6 0 0 (fun res => MQ below (qi D A (ty5 cI cS cF cZ cJ) (Wr cI cZ ad X) res) args s 0 0 A) (Wr cI cZ ad X v) 5 [(0, .ref (ad 0)), (1, .int p1), (2, .int p2), (3, .int l3), (4, .int l4)] [] (fX5_isCandidate_5 p1 p2 fuel v l3 l4) := by
  obtain ⟨F, hK, hA, hZ, hr, hlocks⟩ := G
  intro fuel
  induction fuel with
  | zero => intro v l3 l4; exact sk_none
  | succ fuel ih =>
    intro v l3 l4
    refine sk_eq (K' := if (v 0 1) ≤ l4 then bd (fX5_isOn p1 p2 v) fun x4 v3 => if x4 = 0 then fX5_isCandidate_88 p1 p2 v3 else if l3 = 0 then fX5_isCandidate_88 p1 p2 v3 else some (1, v3) else if p2 ≤ l4 then fX5_isCandidate_31 (fun v l3 l4 => fX5_isCandidate_5 p1 p2 fuel v l3 l4) p1 p2 v l3 l4 (l4 - p2) else fX5_isCandidate_31 (fun v l3 l4 => fX5_isCandidate_5 p1 p2 fuel v l3 l4) p1 p2 v l3 l4 (p2 - l4)) rfl ?_
    refine sk_iload F dX5_isCandidate_5 4 rfl ?_
    refine sk_aload_n F dX5_isCandidate_7 rfl 0 rfl ?_
    refine sk_get (ref := "TunnelWatchModel") F hK (Lr_mem (by decide)) (shR_0 _) rfl iX5_isCandidate_5 1 (by decide) (by decide +kernel) (fun _ h9 => h9) rfl dX5_isCandidate_8 ?_
    refine sk_icmp_ge F 71 dX5_isCandidate_11 (by decide) (fun h1 => ?_) (fun h1 => ?_)
    · refine sk_aload_n F dX5_isCandidate_71 rfl 0 rfl ?_
      refine sk_iload_n F dX5_isCandidate_72 rfl 1 rfl ?_
      refine sk_iload_n F dX5_isCandidate_73 rfl 2 rfl ?_
      refine sk_callVi (As := [.int p1, .int p2]) (rest := []) F hK hA hZ _ (tX5_isOn _) (cwV 2 F.2.2.2.2 gX5_isCandidate_X5_isOn rfl rfl rfl (by decide +kernel) ⟨Nat.le_of_ble_eq_true rfl, Nat.le_of_ble_eq_true rfl⟩) (rc5 hK) rfl rfl (Nat.le_of_ble_eq_true rfl) (by decide) dX5_isCandidate_74 (fun x4 v3 c2 => ?_)
      refine sk_if_eq F 88 dX5_isCandidate_77 (by decide) (fun h5 => ?_) (fun h5 => ?_)
      · exact sk_lv [] rfl (kX5_isCandidate_88 ⟨F, hK, hA, hZ, hr, hlocks⟩ v3)
      · refine sk_iload_n F dX5_isCandidate_80 rfl 3 rfl ?_
        refine sk_if_eq F 88 dX5_isCandidate_81 (by decide) (fun h6 => ?_) (fun h6 => ?_)
        · exact sk_lv [] rfl (kX5_isCandidate_88 ⟨F, hK, hA, hZ, hr, hlocks⟩ v3)
        · refine sk_iconst (x := 1) F dX5_isCandidate_84 (by decide) ?_
          refine sk_goto F 89 dX5_isCandidate_85 (by decide) ?_
          exact sk_zretc F hK hr hlocks (by decide) dX5_isCandidate_89
    · refine sk_iload F dX5_isCandidate_14 4 rfl ?_
      refine sk_iload_n F dX5_isCandidate_16 rfl 2 rfl ?_
      refine sk_icmp_ge F 27 dX5_isCandidate_17 (by decide) (fun h7 => ?_) (fun h7 => ?_)
      · refine sk_iload F dX5_isCandidate_27 4 rfl ?_
        refine sk_iload_n F dX5_isCandidate_29 rfl 2 rfl ?_
        refine sk_isub F dX5_isCandidate_30 ?_
        exact kX5_isCandidate_31 ⟨F, hK, hA, hZ, hr, hlocks⟩ ih v l3 l4 (l4 - p2)
      · refine sk_iload_n F dX5_isCandidate_20 rfl 2 rfl ?_
        refine sk_iload F dX5_isCandidate_21 4 rfl ?_
        refine sk_isub F dX5_isCandidate_23 ?_
        refine sk_goto F 31 dX5_isCandidate_24 (by decide) ?_
        exact kX5_isCandidate_31 ⟨F, hK, hA, hZ, hr, hlocks⟩ ih v l3 l4 (p2 - l4)
def fX5_isCandidate (p1 : Int32) (p2 : Int32) (v : Mem) : Option (Int32 × Mem) := fX5_isCandidate_5 p1 p2 1000 v 0 0
set_option maxRecDepth 100000 in
set_option maxHeartbeats 4000000 in
theorem kX5_isCandidate_0 {p : Program} {l : Launch} {e : Env} {s : State} {m : MethodId} {args : Array Value} {below : List Frame} {meth : Method} {c : Code} {D : va_G} {A : Nat → Prop} {cI cS cF cZ cJ : ClassId} {ad : Nat → Nat} {X : va_W} {p1 : Int32} {p2 : Int32} (G : cx p s m args meth c cX5_isCandidate 6 wsX5_isCandidate RX5 D (ty5 cI cS cF cZ cJ) A (some .boolean)) (v : Mem) : sk p l e rmX5_isCandidate s m args below meth c D A 6 0 0 (fun res => MQ below (qi D A (ty5 cI cS cF cZ cJ) (Wr cI cZ ad X) res) args s 0 0 A) (Wr cI cZ ad X v) 0 [(0, .ref (ad 0)), (1, .int p1), (2, .int p2)] [] (fX5_isCandidate p1 p2 v) := by
  obtain ⟨F, hK, hA, hZ, hr, hlocks⟩ := G
  refine sk_eq (K' := fX5_isCandidate_5 p1 p2 1000 v 0 0) rfl ?_
  refine sk_iconst (x := 0) F dX5_isCandidate_0 (by decide) ?_
  refine sk_istore_n F dX5_isCandidate_1 rfl (by decide) rfl ?_
  refine sk_iconst (x := 0) F dX5_isCandidate_2 (by decide) ?_
  refine sk_istore F dX5_isCandidate_3 (by decide) rfl ?_
  exact sk_lv [2, 3, 4, 1, 0] rfl (kX5_isCandidate_5 ⟨F, hK, hA, hZ, hr, hlocks⟩ 1000 v 0 0)
theorem tX5_isCandidate {l : Launch} {D : va_G} {A : Nat → Prop} {cI cS cF cZ cJ : ClassId} {ad : Nat → Nat} {X : va_W} {p1 : Int32} {p2 : Int32} (v : Mem) : CI l yX5_isCandidate wsX5_isCandidate rmX5_isCandidate D A (ty5 cI cS cF cZ cJ) (Wr cI cZ ad X) [.ref (ad 0), .int p1, .int p2] v (fX5_isCandidate p1 p2 v) :=
  CI_of (cc := cX5_isCandidate) (maxL := 6) (ret := (some .boolean)) (by decide) rfl (Nat.le_of_ble_eq_true rfl) (fun p e s m below meth c G => kX5_isCandidate_0 G v)
def rmX5_judge : Room := { frames := 2, cells := 0, slots := 0, locals := 47 }
theorem iX5_judge_5 : ∀ w ∈ wsX50, w ∈ wsX5_judge := by decide +kernel
def fX5_judge_116 (kb39 : Mem → Int32 → Int32 → Int32 → Option (Mem)) (p1 : Int32) (v : Mem) (l2 : Int32) (l3 : Int32) (l4 : Int32) : Option (Mem) := kb39 v l2 l3 (l4 + 1)
set_option maxRecDepth 100000 in
set_option maxHeartbeats 4000000 in
theorem kX5_judge_116 {p : Program} {l : Launch} {e : Env} {s : State} {m : MethodId} {args : Array Value} {below : List Frame} {meth : Method} {c : Code} {D : va_G} {A : Nat → Prop} {cI cS cF cZ cJ : ClassId} {ad : Nat → Nat} {X : va_W} {p1 : Int32} {kb39 : Mem → Int32 → Int32 → Int32 → Option (Mem)} (G : cx p s m args meth c cX5_judge 6 wsX5_judge RX5 D (ty5 cI cS cF cZ cJ) A none) (hkb39 : ∀ (v : Mem) (l2 : Int32) (l3 : Int32) (l4 : Int32), sk p l e rmX5_judge s m args below meth c D A 6 0 0 (fun res => MQ below (qv D A (ty5 cI cS cF cZ cJ) (Wr cI cZ ad X) res) args s 0 0 A) (Wr cI cZ ad X v) 39 [(0, .ref (ad 0)), (1, .int p1), (2, .int l2), (3, .int l3), (4, .int l4)] [] (kb39 v l2 l3 l4)) (v : Mem) (l2 : Int32) (l3 : Int32) (l4 : Int32) : sk p l e rmX5_judge s m args below meth c D A 6 0 0 (fun res => MQ below (qv D A (ty5 cI cS cF cZ cJ) (Wr cI cZ ad X) res) args s 0 0 A) (Wr cI cZ ad X v) 116 [(0, .ref (ad 0)), (1, .int p1), (2, .int l2), (3, .int l3), (4, .int l4)] [] (fX5_judge_116 kb39 p1 v l2 l3 l4) := by
  obtain ⟨F, hK, hA, hZ, hr, hlocks⟩ := G
  refine sk_eq (K' := kb39 v l2 l3 (l4 + 1)) rfl ?_
  refine sk_iload_n F dX5_judge_116 rfl 3 rfl ?_
  refine sk_istore_n F dX5_judge_117 rfl (by decide) rfl ?_
  refine sk_iinc (y := l4 + 1) F dX5_judge_118 4 rfl rfl (by decide) rfl ?_
  refine sk_goto F 39 dX5_judge_121 (by decide) ?_
  exact sk_lv [2, 3, 4, 1, 0] rfl (hkb39 v l2 l3 (l4 + 1))
def fX5_judge_74 (kb39 : Mem → Int32 → Int32 → Int32 → Option (Mem)) (p1 : Int32) (v : Mem) (l2 : Int32) (l3 : Int32) (l4 : Int32) (s0 : Int32) : Option (Mem) := if s0 = 0 then fX5_judge_116 kb39 p1 v l2 l3 l4 else if l3 < 0 then kb39 v l2 l4 (l4 + 1) else gd (inb ((24 * p1) + l4) 48) (gd (inb ((24 * p1) + l3) 48) (if (v 20 ((24 * p1) + l4).toNatClampNeg) ≤ (v 20 ((24 * p1) + l3).toNatClampNeg) then fX5_judge_116 kb39 p1 v l2 l3 l4 else kb39 v l2 l4 (l4 + 1)))
set_option maxRecDepth 100000 in
set_option maxHeartbeats 4000000 in
theorem kX5_judge_74 {p : Program} {l : Launch} {e : Env} {s : State} {m : MethodId} {args : Array Value} {below : List Frame} {meth : Method} {c : Code} {D : va_G} {A : Nat → Prop} {cI cS cF cZ cJ : ClassId} {ad : Nat → Nat} {X : va_W} {p1 : Int32} {kb39 : Mem → Int32 → Int32 → Int32 → Option (Mem)} (G : cx p s m args meth c cX5_judge 6 wsX5_judge RX5 D (ty5 cI cS cF cZ cJ) A none) (hkb39 : ∀ (v : Mem) (l2 : Int32) (l3 : Int32) (l4 : Int32), sk p l e rmX5_judge s m args below meth c D A 6 0 0 (fun res => MQ below (qv D A (ty5 cI cS cF cZ cJ) (Wr cI cZ ad X) res) args s 0 0 A) (Wr cI cZ ad X v) 39 [(0, .ref (ad 0)), (1, .int p1), (2, .int l2), (3, .int l3), (4, .int l4)] [] (kb39 v l2 l3 l4)) (v : Mem) (l2 : Int32) (l3 : Int32) (l4 : Int32) (s0 : Int32) : sk p l e rmX5_judge s m args below meth c D A 6 0 0 (fun res => MQ below (qv D A (ty5 cI cS cF cZ cJ) (Wr cI cZ ad X) res) args s 0 0 A) (Wr cI cZ ad X v) 74 [(0, .ref (ad 0)), (1, .int p1), (2, .int l2), (3, .int l3), (4, .int l4)] [.int s0] (fX5_judge_74 kb39 p1 v l2 l3 l4 s0) := by
  obtain ⟨F, hK, hA, hZ, hr, hlocks⟩ := G
  refine sk_eq (K' := if s0 = 0 then fX5_judge_116 kb39 p1 v l2 l3 l4 else if l3 < 0 then kb39 v l2 l4 (l4 + 1) else gd (inb ((24 * p1) + l4) 48) (gd (inb ((24 * p1) + l3) 48) (if (v 20 ((24 * p1) + l4).toNatClampNeg) ≤ (v 20 ((24 * p1) + l3).toNatClampNeg) then fX5_judge_116 kb39 p1 v l2 l3 l4 else kb39 v l2 l4 (l4 + 1)))) rfl ?_
  refine sk_istore F dX5_judge_74 (by decide) rfl ?_
  refine sk_iload F dX5_judge_76 0 rfl ?_
  refine sk_if_eq F 116 dX5_judge_78 (by decide) (fun h29 => ?_) (fun h29 => ?_)
  · exact sk_lv [1, 2, 3, 4, 5] rfl (kX5_judge_116 ⟨F, hK, hA, hZ, hr, hlocks⟩ hkb39 v l2 l3 l4)
  · refine sk_iload_n F dX5_judge_81 rfl 4 rfl ?_
    refine sk_if_lt F 111 dX5_judge_82 (by decide) (fun h30 => ?_) (fun h30 => ?_)
    · refine sk_iload F dX5_judge_111 5 rfl ?_
      refine sk_goto F 117 dX5_judge_113 (by decide) ?_
      refine sk_istore_n F dX5_judge_117 rfl (by decide) rfl ?_
      refine sk_iinc (y := l4 + 1) F dX5_judge_118 5 rfl rfl (by decide) rfl ?_
      refine sk_goto F 39 dX5_judge_121 (by decide) ?_
      exact sk_lv [3, 4, 5, 1, 0] rfl (hkb39 v l2 l4 (l4 + 1))
    · refine sk_aload_n F dX5_judge_85 rfl 1 rfl ?_
      refine sk_get (ref := "TunnelWatchModel") F hK (Lr_mem (by decide)) (shR_0 _) rfl iX5_judge_5 20 (by decide) (by decide +kernel) (fun _ h9 => h9) rfl dX5_judge_86 ?_
      refine sk_bipush (x := 24) F dX5_judge_89 (by decide) ?_
      refine sk_iload_n F dX5_judge_91 rfl 2 rfl ?_
      refine sk_imul F dX5_judge_92 ?_
      refine sk_iload F dX5_judge_93 5 rfl ?_
      refine sk_iadd F dX5_judge_95 ?_
      refine sk_iald F hK (Lr_mem (by decide)) (shR_20 _) 0 rfl dX5_judge_96 (fun h31 => ?_)
      refine sk_aload_n F dX5_judge_97 rfl 1 rfl ?_
      refine sk_get (ref := "TunnelWatchModel") F hK (Lr_mem (by decide)) (shR_0 _) rfl iX5_judge_5 20 (by decide) (by decide +kernel) (fun _ h9 => h9) rfl dX5_judge_98 ?_
      refine sk_bipush (x := 24) F dX5_judge_101 (by decide) ?_
      refine sk_iload_n F dX5_judge_103 rfl 2 rfl ?_
      refine sk_imul F dX5_judge_104 ?_
      refine sk_iload_n F dX5_judge_105 rfl 4 rfl ?_
      refine sk_iadd F dX5_judge_106 ?_
      refine sk_iald F hK (Lr_mem (by decide)) (shR_20 _) 0 rfl dX5_judge_107 (fun h32 => ?_)
      refine sk_icmp_le F 116 dX5_judge_108 (by decide) (fun h33 => ?_) (fun h33 => ?_)
      · exact sk_lv [1, 2, 3, 4, 5] rfl (kX5_judge_116 ⟨F, hK, hA, hZ, hr, hlocks⟩ hkb39 v l2 l3 l4)
      · refine sk_iload F dX5_judge_111 5 rfl ?_
        refine sk_goto F 117 dX5_judge_113 (by decide) ?_
        refine sk_istore_n F dX5_judge_117 rfl (by decide) rfl ?_
        refine sk_iinc (y := l4 + 1) F dX5_judge_118 5 rfl rfl (by decide) rfl ?_
        refine sk_goto F 39 dX5_judge_121 (by decide) ?_
        exact sk_lv [3, 4, 5, 1, 0] rfl (hkb39 v l2 l4 (l4 + 1))
def fX5_judge_212 (p1 : Int32) (v : Mem) (l3 : Int32) : Option (Mem) := gd (inb p1 2) (gd (inb p1 2) (some (up2 (up2 v 25 p1.toNatClampNeg 2) 26 p1.toNatClampNeg l3)))
set_option maxRecDepth 100000 in
set_option maxHeartbeats 4000000 in
theorem kX5_judge_212 {p : Program} {l : Launch} {e : Env} {s : State} {m : MethodId} {args : Array Value} {below : List Frame} {meth : Method} {c : Code} {D : va_G} {A : Nat → Prop} {cI cS cF cZ cJ : ClassId} {ad : Nat → Nat} {X : va_W} {p1 : Int32} (G : cx p s m args meth c cX5_judge 6 wsX5_judge RX5 D (ty5 cI cS cF cZ cJ) A none) (v : Mem) (l3 : Int32) : sk p l e rmX5_judge s m args below meth c D A 6 0 0 (fun res => MQ below (qv D A (ty5 cI cS cF cZ cJ) (Wr cI cZ ad X) res) args s 0 0 A) (Wr cI cZ ad X v) 212 [(0, .ref (ad 0)), (1, .int p1), (3, .int l3)] [] (fX5_judge_212 p1 v l3) := by
  obtain ⟨F, hK, hA, hZ, hr, hlocks⟩ := G
  refine sk_eq (K' := gd (inb p1 2) (gd (inb p1 2) (some (up2 (up2 v 25 p1.toNatClampNeg 2) 26 p1.toNatClampNeg l3)))) rfl ?_
  refine sk_aload_n F dX5_judge_212 rfl 0 rfl ?_
  refine sk_get (ref := "TunnelWatchModel") F hK (Lr_mem (by decide)) (shR_0 _) rfl iX5_judge_5 25 (by decide) (by decide +kernel) (fun _ h9 => h9) rfl dX5_judge_213 ?_
  refine sk_iload_n F dX5_judge_216 rfl 1 rfl ?_
  refine sk_iconst (x := 2) F dX5_judge_217 (by decide) ?_
  refine sk_iast F hK Lr_nd (Lr_mem (by decide)) shR_25 0 rfl dX5_judge_218 (fun h27 => ?_)
  refine sk_aload_n F dX5_judge_219 rfl 0 rfl ?_
  refine sk_get (ref := "TunnelWatchModel") F hK (Lr_mem (by decide)) (shR_0 _) rfl iX5_judge_5 26 (by decide) (by decide +kernel) (fun _ h9 => h9) rfl dX5_judge_220 ?_
  refine sk_iload_n F dX5_judge_223 rfl 1 rfl ?_
  refine sk_iload_n F dX5_judge_224 rfl 2 rfl ?_
  refine sk_iast F hK Lr_nd (Lr_mem (by decide)) shR_26 0 rfl dX5_judge_225 (fun h28 => ?_)
  exact sk_vret F hK hr hlocks dX5_judge_226
def fX5_judge_39 (p1 : Int32) : Nat → Mem → Int32 → Int32 → Int32 → Option (Mem)
  | 0, _, _, _, _ => none
  | fuel + 1, v, l2, l3, l4 => if (v 0 1) ≤ l4 then if 0 ≤ l3 then gd (inb p1 2) (if (v 25 p1.toNatClampNeg) = 2 then gd (inb ((24 * p1) + l3) 48) (gd (inb p1 2) (gd (inb ((24 * p1) + (v 26 p1.toNatClampNeg)) 48) (if (v 20 ((24 * p1) + l3).toNatClampNeg) ≤ (v 20 ((24 * p1) + (v 26 p1.toNatClampNeg)).toNatClampNeg) then some v else fX5_judge_212 p1 v l3))) else fX5_judge_212 p1 v l3) else gd (inb p1 2) (if (v 25 p1.toNatClampNeg) = 2 then some v else bd (fX5_leastOn p1 v) fun x18 v17 => gd (inb p1 2) (gd (inb p1 2) (if 0 ≤ ((up2 v17 26 p1.toNatClampNeg x18) 26 p1.toNatClampNeg) then gd (inb p1 2) (some (up2 (up2 v17 26 p1.toNatClampNeg x18) 25 p1.toNatClampNeg 1)) else gd (inb p1 2) (some (up2 (up2 v17 26 p1.toNatClampNeg x18) 25 p1.toNatClampNeg 0))))) else if l4 = l2 then fX5_judge_74 (fun v l2 l3 l4 => fX5_judge_39 p1 fuel v l2 l3 l4) p1 v l2 l3 l4 1 else gd (inb ((24 * p1) + l4) 48) (if (v 19 ((24 * p1) + l4).toNatClampNeg) = 0 then fX5_judge_74 (fun v l2 l3 l4 => fX5_judge_39 p1 fuel v l2 l3 l4) p1 v l2 l3 l4 0 else fX5_judge_74 (fun v l2 l3 l4 => fX5_judge_39 p1 fuel v l2 l3 l4) p1 v l2 l3 l4 1)
set_option maxRecDepth 100000 in
set_option maxHeartbeats 4000000 in
theorem kX5_judge_39 {p : Program} {l : Launch} {e : Env} {s : State} {m : MethodId} {args : Array Value} {below : List Frame} {meth : Method} {c : Code} {D : va_G} {A : Nat → Prop} {cI cS cF cZ cJ : ClassId} {ad : Nat → Nat} {X : va_W} {p1 : Int32} (G : cx p s m args meth c cX5_judge 6 wsX5_judge RX5 D (ty5 cI cS cF cZ cJ) A none) : ∀ (fuel : Nat) (v : Mem) (l2 : Int32) (l3 : Int32) (l4 : Int32), sk p l e rmX5_judge s m args below meth c D A 6 0 0 (fun res => MQ below (qv D A (ty5 cI cS cF cZ cJ) (Wr cI cZ ad X) res) args s 0 0 A) (Wr cI cZ ad X v) 39 [(0, .ref (ad 0)), (1, .int p1), (2, .int l2), (3, .int l3), (4, .int l4)] [] (fX5_judge_39 p1 fuel v l2 l3 l4) := by
  obtain ⟨F, hK, hA, hZ, hr, hlocks⟩ := G
  intro fuel
  induction fuel with
  | zero => intro v l2 l3 l4; exact sk_none
  | succ fuel ih =>
    intro v l2 l3 l4
    refine sk_eq (K' := if (v 0 1) ≤ l4 then if 0 ≤ l3 then gd (inb p1 2) (if (v 25 p1.toNatClampNeg) = 2 then gd (inb ((24 * p1) + l3) 48) (gd (inb p1 2) (gd (inb ((24 * p1) + (v 26 p1.toNatClampNeg)) 48) (if (v 20 ((24 * p1) + l3).toNatClampNeg) ≤ (v 20 ((24 * p1) + (v 26 p1.toNatClampNeg)).toNatClampNeg) then some v else fX5_judge_212 p1 v l3))) else fX5_judge_212 p1 v l3) else gd (inb p1 2) (if (v 25 p1.toNatClampNeg) = 2 then some v else bd (fX5_leastOn p1 v) fun x18 v17 => gd (inb p1 2) (gd (inb p1 2) (if 0 ≤ ((up2 v17 26 p1.toNatClampNeg x18) 26 p1.toNatClampNeg) then gd (inb p1 2) (some (up2 (up2 v17 26 p1.toNatClampNeg x18) 25 p1.toNatClampNeg 1)) else gd (inb p1 2) (some (up2 (up2 v17 26 p1.toNatClampNeg x18) 25 p1.toNatClampNeg 0))))) else if l4 = l2 then fX5_judge_74 (fun v l2 l3 l4 => fX5_judge_39 p1 fuel v l2 l3 l4) p1 v l2 l3 l4 1 else gd (inb ((24 * p1) + l4) 48) (if (v 19 ((24 * p1) + l4).toNatClampNeg) = 0 then fX5_judge_74 (fun v l2 l3 l4 => fX5_judge_39 p1 fuel v l2 l3 l4) p1 v l2 l3 l4 0 else fX5_judge_74 (fun v l2 l3 l4 => fX5_judge_39 p1 fuel v l2 l3 l4) p1 v l2 l3 l4 1)) rfl ?_
    refine sk_iload F dX5_judge_39 4 rfl ?_
    refine sk_aload_n F dX5_judge_41 rfl 0 rfl ?_
    refine sk_get (ref := "TunnelWatchModel") F hK (Lr_mem (by decide)) (shR_0 _) rfl iX5_judge_5 1 (by decide) (by decide +kernel) (fun _ h9 => h9) rfl dX5_judge_42 ?_
    refine sk_icmp_ge F 124 dX5_judge_45 (by decide) (fun h6 => ?_) (fun h6 => ?_)
    · refine sk_iload_n F dX5_judge_124 rfl 3 rfl ?_
      refine sk_if_ge F 172 dX5_judge_125 (by decide) (fun h7 => ?_) (fun h7 => ?_)
      · refine sk_aload_n F dX5_judge_172 rfl 0 rfl ?_
        refine sk_get (ref := "TunnelWatchModel") F hK (Lr_mem (by decide)) (shR_0 _) rfl iX5_judge_5 25 (by decide) (by decide +kernel) (fun _ h9 => h9) rfl dX5_judge_173 ?_
        refine sk_iload_n F dX5_judge_176 rfl 1 rfl ?_
        refine sk_iald F hK (Lr_mem (by decide)) (shR_25 _) 0 rfl dX5_judge_177 (fun h8 => ?_)
        refine sk_iconst (x := 2) F dX5_judge_178 (by decide) ?_
        refine sk_icmp_ne F 212 dX5_judge_179 (by decide) (fun h9 => ?_) (fun h9 => ?_)
        · exact sk_lv [0, 1, 3] rfl (kX5_judge_212 ⟨F, hK, hA, hZ, hr, hlocks⟩ v l3)
        · refine sk_aload_n F dX5_judge_182 rfl 0 rfl ?_
          refine sk_get (ref := "TunnelWatchModel") F hK (Lr_mem (by decide)) (shR_0 _) rfl iX5_judge_5 20 (by decide) (by decide +kernel) (fun _ h9 => h9) rfl dX5_judge_183 ?_
          refine sk_bipush (x := 24) F dX5_judge_186 (by decide) ?_
          refine sk_iload_n F dX5_judge_188 rfl 1 rfl ?_
          refine sk_imul F dX5_judge_189 ?_
          refine sk_iload_n F dX5_judge_190 rfl 3 rfl ?_
          refine sk_iadd F dX5_judge_191 ?_
          refine sk_iald F hK (Lr_mem (by decide)) (shR_20 _) 0 rfl dX5_judge_192 (fun h10 => ?_)
          refine sk_aload_n F dX5_judge_193 rfl 0 rfl ?_
          refine sk_get (ref := "TunnelWatchModel") F hK (Lr_mem (by decide)) (shR_0 _) rfl iX5_judge_5 20 (by decide) (by decide +kernel) (fun _ h9 => h9) rfl dX5_judge_194 ?_
          refine sk_bipush (x := 24) F dX5_judge_197 (by decide) ?_
          refine sk_iload_n F dX5_judge_199 rfl 1 rfl ?_
          refine sk_imul F dX5_judge_200 ?_
          refine sk_aload_n F dX5_judge_201 rfl 0 rfl ?_
          refine sk_get (ref := "TunnelWatchModel") F hK (Lr_mem (by decide)) (shR_0 _) rfl iX5_judge_5 26 (by decide) (by decide +kernel) (fun _ h9 => h9) rfl dX5_judge_202 ?_
          refine sk_iload_n F dX5_judge_205 rfl 1 rfl ?_
          refine sk_iald F hK (Lr_mem (by decide)) (shR_26 _) 0 rfl dX5_judge_206 (fun h11 => ?_)
          refine sk_iadd F dX5_judge_207 ?_
          refine sk_iald F hK (Lr_mem (by decide)) (shR_20 _) 0 rfl dX5_judge_208 (fun h12 => ?_)
          refine sk_icmp_le F 226 dX5_judge_209 (by decide) (fun h13 => ?_) (fun h13 => ?_)
          · exact sk_vret F hK hr hlocks dX5_judge_226
          · exact sk_lv [0, 1, 3] rfl (kX5_judge_212 ⟨F, hK, hA, hZ, hr, hlocks⟩ v l3)
      · refine sk_aload_n F dX5_judge_128 rfl 0 rfl ?_
        refine sk_get (ref := "TunnelWatchModel") F hK (Lr_mem (by decide)) (shR_0 _) rfl iX5_judge_5 25 (by decide) (by decide +kernel) (fun _ h9 => h9) rfl dX5_judge_129 ?_
        refine sk_iload_n F dX5_judge_132 rfl 1 rfl ?_
        refine sk_iald F hK (Lr_mem (by decide)) (shR_25 _) 0 rfl dX5_judge_133 (fun h14 => ?_)
        refine sk_iconst (x := 2) F dX5_judge_134 (by decide) ?_
        refine sk_icmp_eq F 226 dX5_judge_135 (by decide) (fun h15 => ?_) (fun h15 => ?_)
        · exact sk_vret F hK hr hlocks dX5_judge_226
        · refine sk_aload_n F dX5_judge_138 rfl 0 rfl ?_
          refine sk_get (ref := "TunnelWatchModel") F hK (Lr_mem (by decide)) (shR_0 _) rfl iX5_judge_5 26 (by decide) (by decide +kernel) (fun _ h9 => h9) rfl dX5_judge_139 ?_
          refine sk_iload_n F dX5_judge_142 rfl 1 rfl ?_
          refine sk_aload_n F dX5_judge_143 rfl 0 rfl ?_
          refine sk_iload_n F dX5_judge_144 rfl 1 rfl ?_
          refine sk_callVi (As := [.int p1]) (rest := [.int p1, .ref (ad 26)]) F hK hA hZ _ (tX5_leastOn _) (cwV 1 F.2.2.2.2 gX5_judge_X5_leastOn rfl rfl rfl (by decide +kernel) ⟨Nat.le_of_ble_eq_true rfl, Nat.le_of_ble_eq_true rfl⟩) (rc5 hK) rfl rfl (Nat.le_of_ble_eq_true rfl) (by decide) dX5_judge_145 (fun x18 v17 c16 => ?_)
          refine sk_iast F hK Lr_nd (Lr_mem (by decide)) shR_26 0 rfl dX5_judge_148 (fun h19 => ?_)
          refine sk_aload_n F dX5_judge_149 rfl 0 rfl ?_
          refine sk_get (ref := "TunnelWatchModel") F hK (Lr_mem (by decide)) (shR_0 _) rfl iX5_judge_5 25 (by decide) (by decide +kernel) (fun _ h9 => h9) rfl dX5_judge_150 ?_
          refine sk_iload_n F dX5_judge_153 rfl 1 rfl ?_
          refine sk_aload_n F dX5_judge_154 rfl 0 rfl ?_
          refine sk_get (ref := "TunnelWatchModel") F hK (Lr_mem (by decide)) (shR_0 _) rfl iX5_judge_5 26 (by decide) (by decide +kernel) (fun _ h9 => h9) rfl dX5_judge_155 ?_
          refine sk_iload_n F dX5_judge_158 rfl 1 rfl ?_
          refine sk_iald F hK (Lr_mem (by decide)) (shR_26 _) 0 rfl dX5_judge_159 (fun h20 => ?_)
          refine sk_if_ge F 167 dX5_judge_160 (by decide) (fun h21 => ?_) (fun h21 => ?_)
          · refine sk_iconst (x := 1) F dX5_judge_167 (by decide) ?_
            refine sk_iast F hK Lr_nd (Lr_mem (by decide)) shR_25 0 rfl dX5_judge_168 (fun h22 => ?_)
            refine sk_goto F 226 dX5_judge_169 (by decide) ?_
            exact sk_vret F hK hr hlocks dX5_judge_226
          · refine sk_iconst (x := 0) F dX5_judge_163 (by decide) ?_
            refine sk_goto F 168 dX5_judge_164 (by decide) ?_
            refine sk_iast F hK Lr_nd (Lr_mem (by decide)) shR_25 0 rfl dX5_judge_168 (fun h23 => ?_)
            refine sk_goto F 226 dX5_judge_169 (by decide) ?_
            exact sk_vret F hK hr hlocks dX5_judge_226
    · refine sk_iload F dX5_judge_48 4 rfl ?_
      refine sk_iload_n F dX5_judge_50 rfl 2 rfl ?_
      refine sk_icmp_eq F 69 dX5_judge_51 (by decide) (fun h24 => ?_) (fun h24 => ?_)
      · refine sk_iconst (x := 1) F dX5_judge_69 (by decide) ?_
        refine sk_goto F 74 dX5_judge_70 (by decide) ?_
        exact kX5_judge_74 ⟨F, hK, hA, hZ, hr, hlocks⟩ ih v l2 l3 l4 1
      · refine sk_aload_n F dX5_judge_54 rfl 0 rfl ?_
        refine sk_get (ref := "TunnelWatchModel") F hK (Lr_mem (by decide)) (shR_0 _) rfl iX5_judge_5 19 (by decide) (by decide +kernel) (fun _ h9 => h9) rfl dX5_judge_55 ?_
        refine sk_bipush (x := 24) F dX5_judge_58 (by decide) ?_
        refine sk_iload_n F dX5_judge_60 rfl 1 rfl ?_
        refine sk_imul F dX5_judge_61 ?_
        refine sk_iload F dX5_judge_62 4 rfl ?_
        refine sk_iadd F dX5_judge_64 ?_
        refine sk_zald F hK (Lr_mem (by decide)) (shR_19 _) 3 rfl dX5_judge_65 (fun h25 => ?_)
        refine sk_if_eq F 73 dX5_judge_66 (by decide) (fun h26 => ?_) (fun h26 => ?_)
        · refine sk_iconst (x := 0) F dX5_judge_73 (by decide) ?_
          exact kX5_judge_74 ⟨F, hK, hA, hZ, hr, hlocks⟩ ih v l2 l3 l4 0
        · refine sk_iconst (x := 1) F dX5_judge_69 (by decide) ?_
          refine sk_goto F 74 dX5_judge_70 (by decide) ?_
          exact kX5_judge_74 ⟨F, hK, hA, hZ, hr, hlocks⟩ ih v l2 l3 l4 1
def fX5_judge_9 (p1 : Int32) : Nat → Mem → Int32 → Int32 → Option (Mem)
  | 0, _, _, _ => none
  | fuel + 1, v, l2, l3 => if l3 < 0 then fX5_judge_39 p1 1000 v l2 (-1) 0 else bd (fX5_isCandidate p1 l3 v) fun x4 v3 => if x4 = 0 then fX5_judge_9 p1 fuel v3 l2 (l3 + (-1)) else fX5_judge_9 p1 fuel v3 l3 (l3 + (-1))
set_option maxRecDepth 100000 in
set_option maxHeartbeats 4000000 in
theorem kX5_judge_9 {p : Program} {l : Launch} {e : Env} {s : State} {m : MethodId} {args : Array Value} {below : List Frame} {meth : Method} {c : Code} {D : va_G} {A : Nat → Prop} {cI cS cF cZ cJ : ClassId} {ad : Nat → Nat} {X : va_W} {p1 : Int32} (G : cx p s m args meth c cX5_judge 6 wsX5_judge RX5 D (ty5 cI cS cF cZ cJ) A none) : ∀ (fuel : Nat) (v : Mem) (l2 : Int32) (l3 : Int32), sk p l e rmX5_judge s m args below meth c D A 6 0 0 (fun res => MQ below (qv D A (ty5 cI cS cF cZ cJ) (Wr cI cZ ad X) res) args s 0 0 A) (Wr cI cZ ad X v) 9 [(0, .ref (ad 0)), (1, .int p1), (2, .int l2), (3, .int l3)] [] (fX5_judge_9 p1 fuel v l2 l3) := by
  obtain ⟨F, hK, hA, hZ, hr, hlocks⟩ := G
  intro fuel
  induction fuel with
  | zero => intro v l2 l3; exact sk_none
  | succ fuel ih =>
    intro v l2 l3
    refine sk_eq (K' := if l3 < 0 then fX5_judge_39 p1 1000 v l2 (-1) 0 else bd (fX5_isCandidate p1 l3 v) fun x4 v3 => if x4 = 0 then fX5_judge_9 p1 fuel v3 l2 (l3 + (-1)) else fX5_judge_9 p1 fuel v3 l3 (l3 + (-1))) rfl ?_
    refine sk_iload_n F dX5_judge_9 rfl 3 rfl ?_
    refine sk_if_lt F 34 dX5_judge_10 (by decide) (fun h1 => ?_) (fun h1 => ?_)
    · refine sk_iconst (x := (-1)) F dX5_judge_34 (by decide) ?_
      refine sk_istore_n F dX5_judge_35 rfl (by decide) rfl ?_
      refine sk_iconst (x := 0) F dX5_judge_36 (by decide) ?_
      refine sk_istore F dX5_judge_37 (by decide) rfl ?_
      exact sk_lv [2, 3, 4, 1, 0] rfl (kX5_judge_39 ⟨F, hK, hA, hZ, hr, hlocks⟩ 1000 v l2 (-1) 0)
    · refine sk_aload_n F dX5_judge_13 rfl 0 rfl ?_
      refine sk_iload_n F dX5_judge_14 rfl 1 rfl ?_
      refine sk_iload_n F dX5_judge_15 rfl 3 rfl ?_
      refine sk_callVi (As := [.int p1, .int l3]) (rest := []) F hK hA hZ _ (tX5_isCandidate _) (cwV 2 F.2.2.2.2 gX5_judge_X5_isCandidate rfl rfl rfl (by decide +kernel) ⟨Nat.le_of_ble_eq_true rfl, Nat.le_of_ble_eq_true rfl⟩) (rc5 hK) rfl rfl (Nat.le_of_ble_eq_true rfl) (by decide) dX5_judge_16 (fun x4 v3 c2 => ?_)
      refine sk_if_eq F 26 dX5_judge_19 (by decide) (fun h5 => ?_) (fun h5 => ?_)
      · refine sk_iload_n F dX5_judge_26 rfl 2 rfl ?_
        refine sk_istore_n F dX5_judge_27 rfl (by decide) rfl ?_
        refine sk_iinc (y := l3 + (-1)) F dX5_judge_28 3 rfl rfl (by decide) rfl ?_
        refine sk_goto F 9 dX5_judge_31 (by decide) ?_
        exact sk_lv [2, 3, 1, 0] rfl (ih v3 l2 (l3 + (-1)))
      · refine sk_iload_n F dX5_judge_22 rfl 3 rfl ?_
        refine sk_goto F 27 dX5_judge_23 (by decide) ?_
        refine sk_istore_n F dX5_judge_27 rfl (by decide) rfl ?_
        refine sk_iinc (y := l3 + (-1)) F dX5_judge_28 3 rfl rfl (by decide) rfl ?_
        refine sk_goto F 9 dX5_judge_31 (by decide) ?_
        exact sk_lv [2, 3, 1, 0] rfl (ih v3 l3 (l3 + (-1)))
def fX5_judge (p1 : Int32) (v : Mem) : Option (Mem) := fX5_judge_9 p1 1000 v (-1) ((v 0 1) - 1)
set_option maxRecDepth 100000 in
set_option maxHeartbeats 4000000 in
theorem kX5_judge_0 {p : Program} {l : Launch} {e : Env} {s : State} {m : MethodId} {args : Array Value} {below : List Frame} {meth : Method} {c : Code} {D : va_G} {A : Nat → Prop} {cI cS cF cZ cJ : ClassId} {ad : Nat → Nat} {X : va_W} {p1 : Int32} (G : cx p s m args meth c cX5_judge 6 wsX5_judge RX5 D (ty5 cI cS cF cZ cJ) A none) (v : Mem) : sk p l e rmX5_judge s m args below meth c D A 6 0 0 (fun res => MQ below (qv D A (ty5 cI cS cF cZ cJ) (Wr cI cZ ad X) res) args s 0 0 A) (Wr cI cZ ad X v) 0 [(0, .ref (ad 0)), (1, .int p1)] [] (fX5_judge p1 v) := by
  obtain ⟨F, hK, hA, hZ, hr, hlocks⟩ := G
  refine sk_eq (K' := fX5_judge_9 p1 1000 v (-1) ((v 0 1) - 1)) rfl ?_
  refine sk_iconst (x := (-1)) F dX5_judge_0 (by decide) ?_
  refine sk_istore_n F dX5_judge_1 rfl (by decide) rfl ?_
  refine sk_aload_n F dX5_judge_2 rfl 1 rfl ?_
  refine sk_get (ref := "TunnelWatchModel") F hK (Lr_mem (by decide)) (shR_0 _) rfl iX5_judge_5 1 (by decide) (by decide +kernel) (fun _ h9 => h9) rfl dX5_judge_3 ?_
  refine sk_iconst (x := 1) F dX5_judge_6 (by decide) ?_
  refine sk_isub F dX5_judge_7 ?_
  refine sk_istore_n F dX5_judge_8 rfl (by decide) rfl ?_
  exact sk_lv [2, 3, 1, 0] rfl (kX5_judge_9 ⟨F, hK, hA, hZ, hr, hlocks⟩ 1000 v (-1) ((v 0 1) - 1))
theorem tX5_judge {l : Launch} {D : va_G} {A : Nat → Prop} {cI cS cF cZ cJ : ClassId} {ad : Nat → Nat} {X : va_W} {p1 : Int32} (v : Mem) : CV l yX5_judge wsX5_judge rmX5_judge D A (ty5 cI cS cF cZ cJ) (Wr cI cZ ad X) [.ref (ad 0), .int p1] v (fX5_judge p1 v) :=
  CV_of (cc := cX5_judge) (maxL := 6) (ret := none) (by decide) rfl (Nat.le_of_ble_eq_true rfl) (fun p e s m below meth c G => kX5_judge_0 G v)
def rmX5_burning : Room := { frames := 0, cells := 0, slots := 0, locals := 0 }
theorem iX5_burning_5 : ∀ w ∈ wsX50, w ∈ wsX5_burning := by decide +kernel
def fX5_burning_54 (v : Mem) : Option (Int32 × Mem) := gd (inb (0 : Int32) 2) (if (v 25 (0 : Int32).toNatClampNeg) = 2 then some (0, v) else gd (inb (1 : Int32) 2) (if (v 25 (1 : Int32).toNatClampNeg) = 2 then some (1, v) else some ((-1), v)))
set_option maxRecDepth 100000 in
set_option maxHeartbeats 4000000 in
theorem kX5_burning_54 {p : Program} {l : Launch} {e : Env} {s : State} {m : MethodId} {args : Array Value} {below : List Frame} {meth : Method} {c : Code} {D : va_G} {A : Nat → Prop} {cI cS cF cZ cJ : ClassId} {ad : Nat → Nat} {X : va_W} (G : cx p s m args meth c cX5_burning 1 wsX5_burning RX5 D (ty5 cI cS cF cZ cJ) A (some .int)) (v : Mem) : sk p l e rmX5_burning s m args below meth c D A 1 0 0 (fun res => MQ below (qi D A (ty5 cI cS cF cZ cJ) (Wr cI cZ ad X) res) args s 0 0 A) (Wr cI cZ ad X v) 54 [(0, .ref (ad 0))] [] (fX5_burning_54 v) := by
  obtain ⟨F, hK, hA, hZ, hr, hlocks⟩ := G
  refine sk_eq (K' := gd (inb (0 : Int32) 2) (if (v 25 (0 : Int32).toNatClampNeg) = 2 then some (0, v) else gd (inb (1 : Int32) 2) (if (v 25 (1 : Int32).toNatClampNeg) = 2 then some (1, v) else some ((-1), v)))) rfl ?_
  refine sk_aload_n F dX5_burning_54 rfl 0 rfl ?_
  refine sk_get (ref := "TunnelWatchModel") F hK (Lr_mem (by decide)) (shR_0 _) rfl iX5_burning_5 25 (by decide) (by decide +kernel) (fun _ h9 => h9) rfl dX5_burning_55 ?_
  refine sk_iconst (x := 0) F dX5_burning_58 (by decide) ?_
  refine sk_iald F hK (Lr_mem (by decide)) (shR_25 _) 0 rfl dX5_burning_59 (fun h10 => ?_)
  refine sk_iconst (x := 2) F dX5_burning_60 (by decide) ?_
  refine sk_icmp_ne F 68 dX5_burning_61 (by decide) (fun h11 => ?_) (fun h11 => ?_)
  · refine sk_aload_n F dX5_burning_68 rfl 0 rfl ?_
    refine sk_get (ref := "TunnelWatchModel") F hK (Lr_mem (by decide)) (shR_0 _) rfl iX5_burning_5 25 (by decide) (by decide +kernel) (fun _ h9 => h9) rfl dX5_burning_69 ?_
    refine sk_iconst (x := 1) F dX5_burning_72 (by decide) ?_
    refine sk_iald F hK (Lr_mem (by decide)) (shR_25 _) 0 rfl dX5_burning_73 (fun h12 => ?_)
    refine sk_iconst (x := 2) F dX5_burning_74 (by decide) ?_
    refine sk_icmp_ne F 82 dX5_burning_75 (by decide) (fun h13 => ?_) (fun h13 => ?_)
    · refine sk_iconst (x := (-1)) F dX5_burning_82 (by decide) ?_
      exact sk_iret F hK hr hlocks dX5_burning_83
    · refine sk_iconst (x := 1) F dX5_burning_78 (by decide) ?_
      refine sk_goto F 83 dX5_burning_79 (by decide) ?_
      exact sk_iret F hK hr hlocks dX5_burning_83
  · refine sk_iconst (x := 0) F dX5_burning_64 (by decide) ?_
    refine sk_goto F 83 dX5_burning_65 (by decide) ?_
    exact sk_iret F hK hr hlocks dX5_burning_83
def fX5_burning (v : Mem) : Option (Int32 × Mem) := gd (inb (0 : Int32) 2) (if (v 25 (0 : Int32).toNatClampNeg) = 2 then gd (inb (1 : Int32) 2) (if (v 25 (1 : Int32).toNatClampNeg) = 2 then gd (inb (1 : Int32) 2) (gd (inb (24 + (v 26 (1 : Int32).toNatClampNeg)) 48) (gd (inb (0 : Int32) 2) (gd (inb (v 26 (0 : Int32).toNatClampNeg) 48) (if (v 20 (24 + (v 26 (1 : Int32).toNatClampNeg)).toNatClampNeg) ≤ (v 20 (v 26 (0 : Int32).toNatClampNeg).toNatClampNeg) then some (0, v) else some (1, v))))) else fX5_burning_54 v) else fX5_burning_54 v)
set_option maxRecDepth 100000 in
set_option maxHeartbeats 4000000 in
theorem kX5_burning_0 {p : Program} {l : Launch} {e : Env} {s : State} {m : MethodId} {args : Array Value} {below : List Frame} {meth : Method} {c : Code} {D : va_G} {A : Nat → Prop} {cI cS cF cZ cJ : ClassId} {ad : Nat → Nat} {X : va_W} (G : cx p s m args meth c cX5_burning 1 wsX5_burning RX5 D (ty5 cI cS cF cZ cJ) A (some .int)) (v : Mem) : sk p l e rmX5_burning s m args below meth c D A 1 0 0 (fun res => MQ below (qi D A (ty5 cI cS cF cZ cJ) (Wr cI cZ ad X) res) args s 0 0 A) (Wr cI cZ ad X v) 0 [(0, .ref (ad 0))] [] (fX5_burning v) := by
  obtain ⟨F, hK, hA, hZ, hr, hlocks⟩ := G
  refine sk_eq (K' := gd (inb (0 : Int32) 2) (if (v 25 (0 : Int32).toNatClampNeg) = 2 then gd (inb (1 : Int32) 2) (if (v 25 (1 : Int32).toNatClampNeg) = 2 then gd (inb (1 : Int32) 2) (gd (inb (24 + (v 26 (1 : Int32).toNatClampNeg)) 48) (gd (inb (0 : Int32) 2) (gd (inb (v 26 (0 : Int32).toNatClampNeg) 48) (if (v 20 (24 + (v 26 (1 : Int32).toNatClampNeg)).toNatClampNeg) ≤ (v 20 (v 26 (0 : Int32).toNatClampNeg).toNatClampNeg) then some (0, v) else some (1, v))))) else fX5_burning_54 v) else fX5_burning_54 v)) rfl ?_
  refine sk_aload_n F dX5_burning_0 rfl 0 rfl ?_
  refine sk_get (ref := "TunnelWatchModel") F hK (Lr_mem (by decide)) (shR_0 _) rfl iX5_burning_5 25 (by decide) (by decide +kernel) (fun _ h9 => h9) rfl dX5_burning_1 ?_
  refine sk_iconst (x := 0) F dX5_burning_4 (by decide) ?_
  refine sk_iald F hK (Lr_mem (by decide)) (shR_25 _) 0 rfl dX5_burning_5 (fun h1 => ?_)
  refine sk_iconst (x := 2) F dX5_burning_6 (by decide) ?_
  refine sk_icmp_ne F 54 dX5_burning_7 (by decide) (fun h2 => ?_) (fun h2 => ?_)
  · exact kX5_burning_54 ⟨F, hK, hA, hZ, hr, hlocks⟩ v
  · refine sk_aload_n F dX5_burning_10 rfl 0 rfl ?_
    refine sk_get (ref := "TunnelWatchModel") F hK (Lr_mem (by decide)) (shR_0 _) rfl iX5_burning_5 25 (by decide) (by decide +kernel) (fun _ h9 => h9) rfl dX5_burning_11 ?_
    refine sk_iconst (x := 1) F dX5_burning_14 (by decide) ?_
    refine sk_iald F hK (Lr_mem (by decide)) (shR_25 _) 0 rfl dX5_burning_15 (fun h3 => ?_)
    refine sk_iconst (x := 2) F dX5_burning_16 (by decide) ?_
    refine sk_icmp_ne F 54 dX5_burning_17 (by decide) (fun h4 => ?_) (fun h4 => ?_)
    · exact kX5_burning_54 ⟨F, hK, hA, hZ, hr, hlocks⟩ v
    · refine sk_aload_n F dX5_burning_20 rfl 0 rfl ?_
      refine sk_get (ref := "TunnelWatchModel") F hK (Lr_mem (by decide)) (shR_0 _) rfl iX5_burning_5 20 (by decide) (by decide +kernel) (fun _ h9 => h9) rfl dX5_burning_21 ?_
      refine sk_bipush (x := 24) F dX5_burning_24 (by decide) ?_
      refine sk_aload_n F dX5_burning_26 rfl 0 rfl ?_
      refine sk_get (ref := "TunnelWatchModel") F hK (Lr_mem (by decide)) (shR_0 _) rfl iX5_burning_5 26 (by decide) (by decide +kernel) (fun _ h9 => h9) rfl dX5_burning_27 ?_
      refine sk_iconst (x := 1) F dX5_burning_30 (by decide) ?_
      refine sk_iald F hK (Lr_mem (by decide)) (shR_26 _) 0 rfl dX5_burning_31 (fun h5 => ?_)
      refine sk_iadd F dX5_burning_32 ?_
      refine sk_iald F hK (Lr_mem (by decide)) (shR_20 _) 0 rfl dX5_burning_33 (fun h6 => ?_)
      refine sk_aload_n F dX5_burning_34 rfl 0 rfl ?_
      refine sk_get (ref := "TunnelWatchModel") F hK (Lr_mem (by decide)) (shR_0 _) rfl iX5_burning_5 20 (by decide) (by decide +kernel) (fun _ h9 => h9) rfl dX5_burning_35 ?_
      refine sk_aload_n F dX5_burning_38 rfl 0 rfl ?_
      refine sk_get (ref := "TunnelWatchModel") F hK (Lr_mem (by decide)) (shR_0 _) rfl iX5_burning_5 26 (by decide) (by decide +kernel) (fun _ h9 => h9) rfl dX5_burning_39 ?_
      refine sk_iconst (x := 0) F dX5_burning_42 (by decide) ?_
      refine sk_iald F hK (Lr_mem (by decide)) (shR_26 _) 0 rfl dX5_burning_43 (fun h7 => ?_)
      refine sk_iald F hK (Lr_mem (by decide)) (shR_20 _) 0 rfl dX5_burning_44 (fun h8 => ?_)
      refine sk_icmp_le F 52 dX5_burning_45 (by decide) (fun h9 => ?_) (fun h9 => ?_)
      · refine sk_iconst (x := 0) F dX5_burning_52 (by decide) ?_
        exact sk_iret F hK hr hlocks dX5_burning_53
      · refine sk_iconst (x := 1) F dX5_burning_48 (by decide) ?_
        refine sk_goto F 53 dX5_burning_49 (by decide) ?_
        exact sk_iret F hK hr hlocks dX5_burning_53
theorem tX5_burning {l : Launch} {D : va_G} {A : Nat → Prop} {cI cS cF cZ cJ : ClassId} {ad : Nat → Nat} {X : va_W} (v : Mem) : CI l yX5_burning wsX5_burning rmX5_burning D A (ty5 cI cS cF cZ cJ) (Wr cI cZ ad X) [.ref (ad 0)] v (fX5_burning v) :=
  CI_of (cc := cX5_burning) (maxL := 1) (ret := (some .int)) (by decide) rfl (Nat.le_of_ble_eq_true rfl) (fun p e s m below meth c G => kX5_burning_0 G v)
def rmX5_want : Room := { frames := 0, cells := 0, slots := 0, locals := 0 }
theorem iX5_want_5 : ∀ w ∈ wsX50, w ∈ wsX5_want := by decide +kernel
def fX5_want_65 (kb2 : Mem → Int32 → Option (Mem)) (p1 : Int32) (v : Mem) (l2 : Int32) (l3 : Int32) (s0 : Int32) (s1 : Int32) : Option (Mem) := gd (inb s1 2) (if 0 ≤ p1 then if l2 = p1 then gd (inb l3 48) (gd (inb l2 2) (kb2 (up2 (up2 v 30 s1.toNatClampNeg s0) 31 l2.toNatClampNeg ((up2 v 30 s1.toNatClampNeg s0) 22 l3.toNatClampNeg)) (l2 + 1))) else gd (inb l3 48) (gd (inb l2 2) (kb2 (up2 (up2 v 30 s1.toNatClampNeg s0) 31 l2.toNatClampNeg ((up2 v 30 s1.toNatClampNeg s0) 24 l3.toNatClampNeg)) (l2 + 1))) else gd (inb l2 2) (gd (inb l2 2) (kb2 (up2 (up2 v 30 s1.toNatClampNeg s0) 31 l2.toNatClampNeg ((up2 v 30 s1.toNatClampNeg s0) 29 l2.toNatClampNeg)) (l2 + 1))))
set_option maxRecDepth 100000 in
set_option maxHeartbeats 4000000 in
theorem kX5_want_65 {p : Program} {l : Launch} {e : Env} {s : State} {m : MethodId} {args : Array Value} {below : List Frame} {meth : Method} {c : Code} {D : va_G} {A : Nat → Prop} {cI cS cF cZ cJ : ClassId} {ad : Nat → Nat} {X : va_W} {p1 : Int32} {kb2 : Mem → Int32 → Option (Mem)} (G : cx p s m args meth c cX5_want 4 wsX5_want RX5 D (ty5 cI cS cF cZ cJ) A none) (hkb2 : ∀ (v : Mem) (l2 : Int32), sk p l e rmX5_want s m args below meth c D A 4 0 0 (fun res => MQ below (qv D A (ty5 cI cS cF cZ cJ) (Wr cI cZ ad X) res) args s 0 0 A) (Wr cI cZ ad X v) 2 [(0, .ref (ad 0)), (1, .int p1), (2, .int l2)] [] (kb2 v l2)) (v : Mem) (l2 : Int32) (l3 : Int32) (s0 : Int32) (s1 : Int32) : sk p l e rmX5_want s m args below meth c D A 4 0 0 (fun res => MQ below (qv D A (ty5 cI cS cF cZ cJ) (Wr cI cZ ad X) res) args s 0 0 A) (Wr cI cZ ad X v) 65 [(0, .ref (ad 0)), (1, .int p1), (2, .int l2), (3, .int l3)] [.int s0, .int s1, .ref (ad 30)] (fX5_want_65 kb2 p1 v l2 l3 s0 s1) := by
  obtain ⟨F, hK, hA, hZ, hr, hlocks⟩ := G
  refine sk_eq (K' := gd (inb s1 2) (if 0 ≤ p1 then if l2 = p1 then gd (inb l3 48) (gd (inb l2 2) (kb2 (up2 (up2 v 30 s1.toNatClampNeg s0) 31 l2.toNatClampNeg ((up2 v 30 s1.toNatClampNeg s0) 22 l3.toNatClampNeg)) (l2 + 1))) else gd (inb l3 48) (gd (inb l2 2) (kb2 (up2 (up2 v 30 s1.toNatClampNeg s0) 31 l2.toNatClampNeg ((up2 v 30 s1.toNatClampNeg s0) 24 l3.toNatClampNeg)) (l2 + 1))) else gd (inb l2 2) (gd (inb l2 2) (kb2 (up2 (up2 v 30 s1.toNatClampNeg s0) 31 l2.toNatClampNeg ((up2 v 30 s1.toNatClampNeg s0) 29 l2.toNatClampNeg)) (l2 + 1))))) rfl ?_
  refine sk_iast F hK Lr_nd (Lr_mem (by decide)) shR_30 0 rfl dX5_want_65 (fun h9 => ?_)
  refine sk_aload_n F dX5_want_66 rfl 0 rfl ?_
  refine sk_get (ref := "TunnelWatchModel") F hK (Lr_mem (by decide)) (shR_0 _) rfl iX5_want_5 31 (by decide) (by decide +kernel) (fun _ h9 => h9) rfl dX5_want_67 ?_
  refine sk_iload_n F dX5_want_70 rfl 2 rfl ?_
  refine sk_iload_n F dX5_want_71 rfl 1 rfl ?_
  refine sk_if_ge F 84 dX5_want_72 (by decide) (fun h10 => ?_) (fun h10 => ?_)
  · refine sk_iload_n F dX5_want_84 rfl 2 rfl ?_
    refine sk_iload_n F dX5_want_85 rfl 1 rfl ?_
    refine sk_icmp_ne F 98 dX5_want_86 (by decide) (fun h11 => ?_) (fun h11 => ?_)
    · refine sk_aload_n F dX5_want_98 rfl 0 rfl ?_
      refine sk_get (ref := "TunnelWatchModel") F hK (Lr_mem (by decide)) (shR_0 _) rfl iX5_want_5 24 (by decide) (by decide +kernel) (fun _ h9 => h9) rfl dX5_want_99 ?_
      refine sk_iload_n F dX5_want_102 rfl 3 rfl ?_
      refine sk_iald F hK (Lr_mem (by decide)) (shR_24 _) 0 rfl dX5_want_103 (fun h12 => ?_)
      refine sk_iast F hK Lr_nd (Lr_mem (by decide)) shR_31 0 rfl dX5_want_104 (fun h13 => ?_)
      refine sk_iinc (y := l2 + 1) F dX5_want_105 2 rfl rfl (by decide) rfl ?_
      refine sk_goto F 2 dX5_want_108 (by decide) ?_
      exact sk_lv [1, 2, 0] rfl (hkb2 (up2 (up2 v 30 s1.toNatClampNeg s0) 31 l2.toNatClampNeg ((up2 v 30 s1.toNatClampNeg s0) 24 l3.toNatClampNeg)) (l2 + 1))
    · refine sk_aload_n F dX5_want_89 rfl 0 rfl ?_
      refine sk_get (ref := "TunnelWatchModel") F hK (Lr_mem (by decide)) (shR_0 _) rfl iX5_want_5 22 (by decide) (by decide +kernel) (fun _ h9 => h9) rfl dX5_want_90 ?_
      refine sk_iload_n F dX5_want_93 rfl 3 rfl ?_
      refine sk_iald F hK (Lr_mem (by decide)) (shR_22 _) 0 rfl dX5_want_94 (fun h14 => ?_)
      refine sk_goto F 104 dX5_want_95 (by decide) ?_
      refine sk_iast F hK Lr_nd (Lr_mem (by decide)) shR_31 0 rfl dX5_want_104 (fun h15 => ?_)
      refine sk_iinc (y := l2 + 1) F dX5_want_105 2 rfl rfl (by decide) rfl ?_
      refine sk_goto F 2 dX5_want_108 (by decide) ?_
      exact sk_lv [1, 2, 0] rfl (hkb2 (up2 (up2 v 30 s1.toNatClampNeg s0) 31 l2.toNatClampNeg ((up2 v 30 s1.toNatClampNeg s0) 22 l3.toNatClampNeg)) (l2 + 1))
  · refine sk_aload_n F dX5_want_75 rfl 0 rfl ?_
    refine sk_get (ref := "TunnelWatchModel") F hK (Lr_mem (by decide)) (shR_0 _) rfl iX5_want_5 29 (by decide) (by decide +kernel) (fun _ h9 => h9) rfl dX5_want_76 ?_
    refine sk_iload_n F dX5_want_79 rfl 2 rfl ?_
    refine sk_iald F hK (Lr_mem (by decide)) (shR_29 _) 0 rfl dX5_want_80 (fun h16 => ?_)
    refine sk_goto F 104 dX5_want_81 (by decide) ?_
    refine sk_iast F hK Lr_nd (Lr_mem (by decide)) shR_31 0 rfl dX5_want_104 (fun h17 => ?_)
    refine sk_iinc (y := l2 + 1) F dX5_want_105 2 rfl rfl (by decide) rfl ?_
    refine sk_goto F 2 dX5_want_108 (by decide) ?_
    exact sk_lv [1, 2, 0] rfl (hkb2 (up2 (up2 v 30 s1.toNatClampNeg s0) 31 l2.toNatClampNeg ((up2 v 30 s1.toNatClampNeg s0) 29 l2.toNatClampNeg)) (l2 + 1))
def fX5_want_26 (kb2 : Mem → Int32 → Option (Mem)) (p1 : Int32) (v : Mem) (l2 : Int32) (s0 : Int32) : Option (Mem) := if 0 ≤ p1 then if l2 = p1 then gd (inb s0 48) (fX5_want_65 kb2 p1 v l2 s0 (v 21 s0.toNatClampNeg) l2) else gd (inb s0 48) (fX5_want_65 kb2 p1 v l2 s0 (v 23 s0.toNatClampNeg) l2) else gd (inb l2 2) (fX5_want_65 kb2 p1 v l2 s0 (v 28 l2.toNatClampNeg) l2)
set_option maxRecDepth 100000 in
set_option maxHeartbeats 4000000 in
theorem kX5_want_26 {p : Program} {l : Launch} {e : Env} {s : State} {m : MethodId} {args : Array Value} {below : List Frame} {meth : Method} {c : Code} {D : va_G} {A : Nat → Prop} {cI cS cF cZ cJ : ClassId} {ad : Nat → Nat} {X : va_W} {p1 : Int32} {kb2 : Mem → Int32 → Option (Mem)} (G : cx p s m args meth c cX5_want 4 wsX5_want RX5 D (ty5 cI cS cF cZ cJ) A none) (hkb2 : ∀ (v : Mem) (l2 : Int32), sk p l e rmX5_want s m args below meth c D A 4 0 0 (fun res => MQ below (qv D A (ty5 cI cS cF cZ cJ) (Wr cI cZ ad X) res) args s 0 0 A) (Wr cI cZ ad X v) 2 [(0, .ref (ad 0)), (1, .int p1), (2, .int l2)] [] (kb2 v l2)) (v : Mem) (l2 : Int32) (s0 : Int32) : sk p l e rmX5_want s m args below meth c D A 4 0 0 (fun res => MQ below (qv D A (ty5 cI cS cF cZ cJ) (Wr cI cZ ad X) res) args s 0 0 A) (Wr cI cZ ad X v) 26 [(0, .ref (ad 0)), (1, .int p1), (2, .int l2)] [.int s0] (fX5_want_26 kb2 p1 v l2 s0) := by
  obtain ⟨F, hK, hA, hZ, hr, hlocks⟩ := G
  refine sk_eq (K' := if 0 ≤ p1 then if l2 = p1 then gd (inb s0 48) (fX5_want_65 kb2 p1 v l2 s0 (v 21 s0.toNatClampNeg) l2) else gd (inb s0 48) (fX5_want_65 kb2 p1 v l2 s0 (v 23 s0.toNatClampNeg) l2) else gd (inb l2 2) (fX5_want_65 kb2 p1 v l2 s0 (v 28 l2.toNatClampNeg) l2)) rfl ?_
  refine sk_istore_n F dX5_want_26 rfl (by decide) rfl ?_
  refine sk_aload_n F dX5_want_27 rfl 1 rfl ?_
  refine sk_get (ref := "TunnelWatchModel") F hK (Lr_mem (by decide)) (shR_0 _) rfl iX5_want_5 30 (by decide) (by decide +kernel) (fun _ h9 => h9) rfl dX5_want_28 ?_
  refine sk_iload_n F dX5_want_31 rfl 3 rfl ?_
  refine sk_iload_n F dX5_want_32 rfl 2 rfl ?_
  refine sk_if_ge F 45 dX5_want_33 (by decide) (fun h4 => ?_) (fun h4 => ?_)
  · refine sk_iload_n F dX5_want_45 rfl 3 rfl ?_
    refine sk_iload_n F dX5_want_46 rfl 2 rfl ?_
    refine sk_icmp_ne F 59 dX5_want_47 (by decide) (fun h5 => ?_) (fun h5 => ?_)
    · refine sk_aload_n F dX5_want_59 rfl 1 rfl ?_
      refine sk_get (ref := "TunnelWatchModel") F hK (Lr_mem (by decide)) (shR_0 _) rfl iX5_want_5 23 (by decide) (by decide +kernel) (fun _ h9 => h9) rfl dX5_want_60 ?_
      refine sk_iload_n F dX5_want_63 rfl 0 rfl ?_
      refine sk_iald F hK (Lr_mem (by decide)) (shR_23 _) 0 rfl dX5_want_64 (fun h6 => ?_)
      exact sk_lv [1, 2, 3, 0] rfl (kX5_want_65 ⟨F, hK, hA, hZ, hr, hlocks⟩ hkb2 v l2 s0 (v 23 s0.toNatClampNeg) l2)
    · refine sk_aload_n F dX5_want_50 rfl 1 rfl ?_
      refine sk_get (ref := "TunnelWatchModel") F hK (Lr_mem (by decide)) (shR_0 _) rfl iX5_want_5 21 (by decide) (by decide +kernel) (fun _ h9 => h9) rfl dX5_want_51 ?_
      refine sk_iload_n F dX5_want_54 rfl 0 rfl ?_
      refine sk_iald F hK (Lr_mem (by decide)) (shR_21 _) 0 rfl dX5_want_55 (fun h7 => ?_)
      refine sk_goto F 65 dX5_want_56 (by decide) ?_
      exact sk_lv [1, 2, 3, 0] rfl (kX5_want_65 ⟨F, hK, hA, hZ, hr, hlocks⟩ hkb2 v l2 s0 (v 21 s0.toNatClampNeg) l2)
  · refine sk_aload_n F dX5_want_36 rfl 1 rfl ?_
    refine sk_get (ref := "TunnelWatchModel") F hK (Lr_mem (by decide)) (shR_0 _) rfl iX5_want_5 28 (by decide) (by decide +kernel) (fun _ h9 => h9) rfl dX5_want_37 ?_
    refine sk_iload_n F dX5_want_40 rfl 3 rfl ?_
    refine sk_iald F hK (Lr_mem (by decide)) (shR_28 _) 0 rfl dX5_want_41 (fun h8 => ?_)
    refine sk_goto F 65 dX5_want_42 (by decide) ?_
    exact sk_lv [1, 2, 3, 0] rfl (kX5_want_65 ⟨F, hK, hA, hZ, hr, hlocks⟩ hkb2 v l2 s0 (v 28 l2.toNatClampNeg) l2)
def fX5_want_2 (p1 : Int32) : Nat → Mem → Int32 → Option (Mem)
  | 0, _, _ => none
  | fuel + 1, v, l2 => if 2 ≤ l2 then some v else if 0 ≤ p1 then gd (inb p1 2) (fX5_want_26 (fun v l2 => fX5_want_2 p1 fuel v l2) p1 v l2 ((24 * p1) + (v 26 p1.toNatClampNeg))) else fX5_want_26 (fun v l2 => fX5_want_2 p1 fuel v l2) p1 v l2 0
set_option maxRecDepth 100000 in
set_option maxHeartbeats 4000000 in
theorem kX5_want_2 {p : Program} {l : Launch} {e : Env} {s : State} {m : MethodId} {args : Array Value} {below : List Frame} {meth : Method} {c : Code} {D : va_G} {A : Nat → Prop} {cI cS cF cZ cJ : ClassId} {ad : Nat → Nat} {X : va_W} {p1 : Int32} (G : cx p s m args meth c cX5_want 4 wsX5_want RX5 D (ty5 cI cS cF cZ cJ) A none) : ∀ (fuel : Nat) (v : Mem) (l2 : Int32), sk p l e rmX5_want s m args below meth c D A 4 0 0 (fun res => MQ below (qv D A (ty5 cI cS cF cZ cJ) (Wr cI cZ ad X) res) args s 0 0 A) (Wr cI cZ ad X v) 2 [(0, .ref (ad 0)), (1, .int p1), (2, .int l2)] [] (fX5_want_2 p1 fuel v l2) := by
  obtain ⟨F, hK, hA, hZ, hr, hlocks⟩ := G
  intro fuel
  induction fuel with
  | zero => intro v l2; exact sk_none
  | succ fuel ih =>
    intro v l2
    refine sk_eq (K' := if 2 ≤ l2 then some v else if 0 ≤ p1 then gd (inb p1 2) (fX5_want_26 (fun v l2 => fX5_want_2 p1 fuel v l2) p1 v l2 ((24 * p1) + (v 26 p1.toNatClampNeg))) else fX5_want_26 (fun v l2 => fX5_want_2 p1 fuel v l2) p1 v l2 0) rfl ?_
    refine sk_iload_n F dX5_want_2 rfl 2 rfl ?_
    refine sk_iconst (x := 2) F dX5_want_3 (by decide) ?_
    refine sk_icmp_ge F 111 dX5_want_4 (by decide) (fun h1 => ?_) (fun h1 => ?_)
    · exact sk_vret F hK hr hlocks dX5_want_111
    · refine sk_iload_n F dX5_want_7 rfl 1 rfl ?_
      refine sk_if_ge F 15 dX5_want_8 (by decide) (fun h2 => ?_) (fun h2 => ?_)
      · refine sk_bipush (x := 24) F dX5_want_15 (by decide) ?_
        refine sk_iload_n F dX5_want_17 rfl 1 rfl ?_
        refine sk_imul F dX5_want_18 ?_
        refine sk_aload_n F dX5_want_19 rfl 0 rfl ?_
        refine sk_get (ref := "TunnelWatchModel") F hK (Lr_mem (by decide)) (shR_0 _) rfl iX5_want_5 26 (by decide) (by decide +kernel) (fun _ h9 => h9) rfl dX5_want_20 ?_
        refine sk_iload_n F dX5_want_23 rfl 1 rfl ?_
        refine sk_iald F hK (Lr_mem (by decide)) (shR_26 _) 0 rfl dX5_want_24 (fun h3 => ?_)
        refine sk_iadd F dX5_want_25 ?_
        exact kX5_want_26 ⟨F, hK, hA, hZ, hr, hlocks⟩ ih v l2 ((24 * p1) + (v 26 p1.toNatClampNeg))
      · refine sk_iconst (x := 0) F dX5_want_11 (by decide) ?_
        refine sk_goto F 26 dX5_want_12 (by decide) ?_
        exact kX5_want_26 ⟨F, hK, hA, hZ, hr, hlocks⟩ ih v l2 0
def fX5_want (p1 : Int32) (v : Mem) : Option (Mem) := fX5_want_2 p1 1000 v 0
set_option maxRecDepth 100000 in
set_option maxHeartbeats 4000000 in
theorem kX5_want_0 {p : Program} {l : Launch} {e : Env} {s : State} {m : MethodId} {args : Array Value} {below : List Frame} {meth : Method} {c : Code} {D : va_G} {A : Nat → Prop} {cI cS cF cZ cJ : ClassId} {ad : Nat → Nat} {X : va_W} {p1 : Int32} (G : cx p s m args meth c cX5_want 4 wsX5_want RX5 D (ty5 cI cS cF cZ cJ) A none) (v : Mem) : sk p l e rmX5_want s m args below meth c D A 4 0 0 (fun res => MQ below (qv D A (ty5 cI cS cF cZ cJ) (Wr cI cZ ad X) res) args s 0 0 A) (Wr cI cZ ad X v) 0 [(0, .ref (ad 0)), (1, .int p1)] [] (fX5_want p1 v) := by
  obtain ⟨F, hK, hA, hZ, hr, hlocks⟩ := G
  refine sk_eq (K' := fX5_want_2 p1 1000 v 0) rfl ?_
  refine sk_iconst (x := 0) F dX5_want_0 (by decide) ?_
  refine sk_istore_n F dX5_want_1 rfl (by decide) rfl ?_
  exact sk_lv [1, 2, 0] rfl (kX5_want_2 ⟨F, hK, hA, hZ, hr, hlocks⟩ 1000 v 0)
theorem tX5_want {l : Launch} {D : va_G} {A : Nat → Prop} {cI cS cF cZ cJ : ClassId} {ad : Nat → Nat} {X : va_W} {p1 : Int32} (v : Mem) : CV l yX5_want wsX5_want rmX5_want D A (ty5 cI cS cF cZ cJ) (Wr cI cZ ad X) [.ref (ad 0), .int p1] v (fX5_want p1 v) :=
  CV_of (cc := cX5_want) (maxL := 4) (ret := none) (by decide) rfl (Nat.le_of_ble_eq_true rfl) (fun p e s m below meth c G => kX5_want_0 G v)
def rmX5_traffic : Room := { frames := 1, cells := 0, slots := 0, locals := 22 }
theorem iX5_traffic_5 : ∀ w ∈ wsX50, w ∈ wsX5_traffic := by decide +kernel
def fX5_traffic_78 (kb2 : Mem → Int32 → Option (Mem)) (p1 : Int32) (v : Mem) (l2 : Int32) (s0 : Int32) (s1 : Int32) : Option (Mem) := (fX5_send s1 s0 v).bind fun v29 => kb2 v29 (l2 + 1)
set_option maxRecDepth 100000 in
set_option maxHeartbeats 4000000 in
theorem kX5_traffic_78 {p : Program} {l : Launch} {e : Env} {s : State} {m : MethodId} {args : Array Value} {below : List Frame} {meth : Method} {c : Code} {D : va_G} {A : Nat → Prop} {cI cS cF cZ cJ : ClassId} {ad : Nat → Nat} {X : va_W} {p1 : Int32} {kb2 : Mem → Int32 → Option (Mem)} (G : cx p s m args meth c cX5_traffic 5 wsX5_traffic RX5 D (ty5 cI cS cF cZ cJ) A none) (hkb2 : ∀ (v : Mem) (l2 : Int32), sk p l e rmX5_traffic s m args below meth c D A 5 0 0 (fun res => MQ below (qv D A (ty5 cI cS cF cZ cJ) (Wr cI cZ ad X) res) args s 0 0 A) (Wr cI cZ ad X v) 2 [(0, .ref (ad 0)), (1, .int p1), (2, .int l2)] [] (kb2 v l2)) (v : Mem) (l2 : Int32) (s0 : Int32) (s1 : Int32) : sk p l e rmX5_traffic s m args below meth c D A 5 0 0 (fun res => MQ below (qv D A (ty5 cI cS cF cZ cJ) (Wr cI cZ ad X) res) args s 0 0 A) (Wr cI cZ ad X v) 78 [(0, .ref (ad 0)), (1, .int p1), (2, .int l2)] [.int s0, .int s1, .ref (ad 0)] (fX5_traffic_78 kb2 p1 v l2 s0 s1) := by
  obtain ⟨F, hK, hA, hZ, hr, hlocks⟩ := G
  refine sk_eq (K' := (fX5_send s1 s0 v).bind fun v29 => kb2 v29 (l2 + 1)) rfl ?_
  refine sk_callVv (As := [.int s1, .int s0]) (rest := []) F hK hA hZ _ (tX5_send _) (cwV 2 F.2.2.2.2 gX5_traffic_X5_send rfl rfl rfl (by decide +kernel) ⟨Nat.le_of_ble_eq_true rfl, Nat.le_of_ble_eq_true rfl⟩) (rc5 hK) rfl rfl (Nat.le_of_ble_eq_true rfl) (by decide) dX5_traffic_78 (fun v29 c28 => ?_)
  refine sk_iinc (y := l2 + 1) F dX5_traffic_81 2 rfl rfl (by decide) rfl ?_
  refine sk_goto F 2 dX5_traffic_84 (by decide) ?_
  exact sk_lv [1, 2, 0] rfl (hkb2 v29 (l2 + 1))
def fX5_traffic_64 (kb2 : Mem → Int32 → Option (Mem)) (p1 : Int32) (v : Mem) (l2 : Int32) (l3 : Int32) (s0 : Int32) : Option (Mem) := if s0 = 0 then fX5_traffic_78 kb2 p1 v l2 0 l3 else fX5_traffic_78 kb2 p1 v l2 1 l3
set_option maxRecDepth 100000 in
set_option maxHeartbeats 4000000 in
theorem kX5_traffic_64 {p : Program} {l : Launch} {e : Env} {s : State} {m : MethodId} {args : Array Value} {below : List Frame} {meth : Method} {c : Code} {D : va_G} {A : Nat → Prop} {cI cS cF cZ cJ : ClassId} {ad : Nat → Nat} {X : va_W} {p1 : Int32} {kb2 : Mem → Int32 → Option (Mem)} (G : cx p s m args meth c cX5_traffic 5 wsX5_traffic RX5 D (ty5 cI cS cF cZ cJ) A none) (hkb2 : ∀ (v : Mem) (l2 : Int32), sk p l e rmX5_traffic s m args below meth c D A 5 0 0 (fun res => MQ below (qv D A (ty5 cI cS cF cZ cJ) (Wr cI cZ ad X) res) args s 0 0 A) (Wr cI cZ ad X v) 2 [(0, .ref (ad 0)), (1, .int p1), (2, .int l2)] [] (kb2 v l2)) (v : Mem) (l2 : Int32) (l3 : Int32) (s0 : Int32) : sk p l e rmX5_traffic s m args below meth c D A 5 0 0 (fun res => MQ below (qv D A (ty5 cI cS cF cZ cJ) (Wr cI cZ ad X) res) args s 0 0 A) (Wr cI cZ ad X v) 64 [(0, .ref (ad 0)), (1, .int p1), (2, .int l2), (3, .int l3)] [.int s0] (fX5_traffic_64 kb2 p1 v l2 l3 s0) := by
  obtain ⟨F, hK, hA, hZ, hr, hlocks⟩ := G
  refine sk_eq (K' := if s0 = 0 then fX5_traffic_78 kb2 p1 v l2 0 l3 else fX5_traffic_78 kb2 p1 v l2 1 l3) rfl ?_
  refine sk_istore F dX5_traffic_64 (by decide) rfl ?_
  refine sk_aload_n F dX5_traffic_66 rfl 1 rfl ?_
  refine sk_iload_n F dX5_traffic_67 rfl 4 rfl ?_
  refine sk_iload F dX5_traffic_68 0 rfl ?_
  refine sk_if_eq F 77 dX5_traffic_70 (by decide) (fun h19 => ?_) (fun h19 => ?_)
  · refine sk_iconst (x := 0) F dX5_traffic_77 (by decide) ?_
    exact sk_lv [1, 2, 3] rfl (kX5_traffic_78 ⟨F, hK, hA, hZ, hr, hlocks⟩ hkb2 v l2 0 l3)
  · refine sk_iconst (x := 1) F dX5_traffic_73 (by decide) ?_
    refine sk_goto F 78 dX5_traffic_74 (by decide) ?_
    exact sk_lv [1, 2, 3] rfl (kX5_traffic_78 ⟨F, hK, hA, hZ, hr, hlocks⟩ hkb2 v l2 1 l3)
def fX5_traffic_180 (kb89 : Mem → Int32 → Option (Mem)) (p1 : Int32) (v : Mem) (l2 : Int32) (s0 : Int32) (s1 : Int32) : Option (Mem) := (fX5_send s1 s0 v).bind fun v34 => kb89 v34 (l2 + 1)
set_option maxRecDepth 100000 in
set_option maxHeartbeats 4000000 in
theorem kX5_traffic_180 {p : Program} {l : Launch} {e : Env} {s : State} {m : MethodId} {args : Array Value} {below : List Frame} {meth : Method} {c : Code} {D : va_G} {A : Nat → Prop} {cI cS cF cZ cJ : ClassId} {ad : Nat → Nat} {X : va_W} {p1 : Int32} {kb89 : Mem → Int32 → Option (Mem)} (G : cx p s m args meth c cX5_traffic 5 wsX5_traffic RX5 D (ty5 cI cS cF cZ cJ) A none) (hkb89 : ∀ (v : Mem) (l2 : Int32), sk p l e rmX5_traffic s m args below meth c D A 5 0 0 (fun res => MQ below (qv D A (ty5 cI cS cF cZ cJ) (Wr cI cZ ad X) res) args s 0 0 A) (Wr cI cZ ad X v) 89 [(0, .ref (ad 0)), (1, .int p1), (2, .int l2)] [] (kb89 v l2)) (v : Mem) (l2 : Int32) (s0 : Int32) (s1 : Int32) : sk p l e rmX5_traffic s m args below meth c D A 5 0 0 (fun res => MQ below (qv D A (ty5 cI cS cF cZ cJ) (Wr cI cZ ad X) res) args s 0 0 A) (Wr cI cZ ad X v) 180 [(0, .ref (ad 0)), (1, .int p1), (2, .int l2)] [.int s0, .int s1, .ref (ad 0)] (fX5_traffic_180 kb89 p1 v l2 s0 s1) := by
  obtain ⟨F, hK, hA, hZ, hr, hlocks⟩ := G
  refine sk_eq (K' := (fX5_send s1 s0 v).bind fun v34 => kb89 v34 (l2 + 1)) rfl ?_
  refine sk_callVv (As := [.int s1, .int s0]) (rest := []) F hK hA hZ _ (tX5_send _) (cwV 2 F.2.2.2.2 gX5_traffic_X5_send rfl rfl rfl (by decide +kernel) ⟨Nat.le_of_ble_eq_true rfl, Nat.le_of_ble_eq_true rfl⟩) (rc5 hK) rfl rfl (Nat.le_of_ble_eq_true rfl) (by decide) dX5_traffic_180 (fun v34 c33 => ?_)
  refine sk_iinc (y := l2 + 1) F dX5_traffic_183 2 rfl rfl (by decide) rfl ?_
  refine sk_goto F 89 dX5_traffic_186 (by decide) ?_
  exact sk_lv [1, 2, 0] rfl (hkb89 v34 (l2 + 1))
def fX5_traffic_165 (kb89 : Mem → Int32 → Option (Mem)) (p1 : Int32) (v : Mem) (l2 : Int32) (l3 : Int32) (l4 : Int32) (s0 : Int32) : Option (Mem) := gd (bo s0) (if l4 = 0 then fX5_traffic_180 kb89 p1 (up2 v 0 34 s0) l2 0 l3 else fX5_traffic_180 kb89 p1 (up2 v 0 34 s0) l2 1 l3)
set_option maxRecDepth 100000 in
set_option maxHeartbeats 4000000 in
theorem kX5_traffic_165 {p : Program} {l : Launch} {e : Env} {s : State} {m : MethodId} {args : Array Value} {below : List Frame} {meth : Method} {c : Code} {D : va_G} {A : Nat → Prop} {cI cS cF cZ cJ : ClassId} {ad : Nat → Nat} {X : va_W} {p1 : Int32} {kb89 : Mem → Int32 → Option (Mem)} (G : cx p s m args meth c cX5_traffic 5 wsX5_traffic RX5 D (ty5 cI cS cF cZ cJ) A none) (hkb89 : ∀ (v : Mem) (l2 : Int32), sk p l e rmX5_traffic s m args below meth c D A 5 0 0 (fun res => MQ below (qv D A (ty5 cI cS cF cZ cJ) (Wr cI cZ ad X) res) args s 0 0 A) (Wr cI cZ ad X v) 89 [(0, .ref (ad 0)), (1, .int p1), (2, .int l2)] [] (kb89 v l2)) (v : Mem) (l2 : Int32) (l3 : Int32) (l4 : Int32) (s0 : Int32) : sk p l e rmX5_traffic s m args below meth c D A 5 0 0 (fun res => MQ below (qv D A (ty5 cI cS cF cZ cJ) (Wr cI cZ ad X) res) args s 0 0 A) (Wr cI cZ ad X v) 165 [(0, .ref (ad 0)), (1, .int p1), (2, .int l2), (3, .int l3), (4, .int l4)] [.int s0, .ref (ad 0)] (fX5_traffic_165 kb89 p1 v l2 l3 l4 s0) := by
  obtain ⟨F, hK, hA, hZ, hr, hlocks⟩ := G
  refine sk_eq (K' := gd (bo s0) (if l4 = 0 then fX5_traffic_180 kb89 p1 (up2 v 0 34 s0) l2 0 l3 else fX5_traffic_180 kb89 p1 (up2 v 0 34 s0) l2 1 l3)) rfl ?_
  refine sk_gd (fun h31 => ?_)
  refine sk_put (ref := "TunnelWatchModel") (fs := fun r => fs5 ad r) (ty := .boolean) F hK Lr_nd (Lr_mem (by decide)) shR_0 rfl iX5_traffic_5 tyX5 tyX5_ok nmX5 34 (by decide) (by decide +kernel) (fun _ h9 => h9) rfl (by decide +kernel) (bo_n h31) (bo_f h31) (Nat.le_of_ble_eq_true rfl) rfl dX5_traffic_165 ?_
  refine sk_aload_n F dX5_traffic_168 rfl 0 rfl ?_
  refine sk_iload_n F dX5_traffic_169 rfl 3 rfl ?_
  refine sk_iload F dX5_traffic_170 4 rfl ?_
  refine sk_if_eq F 179 dX5_traffic_172 (by decide) (fun h32 => ?_) (fun h32 => ?_)
  · refine sk_iconst (x := 0) F dX5_traffic_179 (by decide) ?_
    exact sk_lv [0, 1, 2] rfl (kX5_traffic_180 ⟨F, hK, hA, hZ, hr, hlocks⟩ hkb89 (up2 v 0 34 s0) l2 0 l3)
  · refine sk_iconst (x := 1) F dX5_traffic_175 (by decide) ?_
    refine sk_goto F 180 dX5_traffic_176 (by decide) ?_
    exact sk_lv [0, 1, 2] rfl (kX5_traffic_180 ⟨F, hK, hA, hZ, hr, hlocks⟩ hkb89 (up2 v 0 34 s0) l2 1 l3)
def fX5_traffic_164 (kb89 : Mem → Int32 → Option (Mem)) (p1 : Int32) (v : Mem) (l2 : Int32) (l3 : Int32) (l4 : Int32) : Option (Mem) := fX5_traffic_165 kb89 p1 v l2 l3 l4 0
set_option maxRecDepth 100000 in
set_option maxHeartbeats 4000000 in
theorem kX5_traffic_164 {p : Program} {l : Launch} {e : Env} {s : State} {m : MethodId} {args : Array Value} {below : List Frame} {meth : Method} {c : Code} {D : va_G} {A : Nat → Prop} {cI cS cF cZ cJ : ClassId} {ad : Nat → Nat} {X : va_W} {p1 : Int32} {kb89 : Mem → Int32 → Option (Mem)} (G : cx p s m args meth c cX5_traffic 5 wsX5_traffic RX5 D (ty5 cI cS cF cZ cJ) A none) (hkb89 : ∀ (v : Mem) (l2 : Int32), sk p l e rmX5_traffic s m args below meth c D A 5 0 0 (fun res => MQ below (qv D A (ty5 cI cS cF cZ cJ) (Wr cI cZ ad X) res) args s 0 0 A) (Wr cI cZ ad X v) 89 [(0, .ref (ad 0)), (1, .int p1), (2, .int l2)] [] (kb89 v l2)) (v : Mem) (l2 : Int32) (l3 : Int32) (l4 : Int32) : sk p l e rmX5_traffic s m args below meth c D A 5 0 0 (fun res => MQ below (qv D A (ty5 cI cS cF cZ cJ) (Wr cI cZ ad X) res) args s 0 0 A) (Wr cI cZ ad X v) 164 [(0, .ref (ad 0)), (1, .int p1), (2, .int l2), (3, .int l3), (4, .int l4)] [.ref (ad 0)] (fX5_traffic_164 kb89 p1 v l2 l3 l4) := by
  obtain ⟨F, hK, hA, hZ, hr, hlocks⟩ := G
  refine sk_eq (K' := fX5_traffic_165 kb89 p1 v l2 l3 l4 0) rfl ?_
  refine sk_iconst (x := 0) F dX5_traffic_164 (by decide) ?_
  exact kX5_traffic_165 ⟨F, hK, hA, hZ, hr, hlocks⟩ hkb89 v l2 l3 l4 0
def fX5_traffic_128 (kb89 : Mem → Int32 → Option (Mem)) (p1 : Int32) (v : Mem) (l2 : Int32) (l3 : Int32) (s0 : Int32) : Option (Mem) := if (v 0 34) = 0 then if s0 = 0 then fX5_traffic_164 kb89 p1 v l2 l3 s0 else gd (inb l3 28) (if (v 7 l3.toNatClampNeg) = 0 then bd (fX5_isHalted l2 v) fun x26 v25 => if x26 = 0 then fX5_traffic_165 kb89 p1 v25 l2 l3 s0 1 else fX5_traffic_164 kb89 p1 v25 l2 l3 s0 else fX5_traffic_164 kb89 p1 v l2 l3 s0) else fX5_traffic_165 kb89 p1 v l2 l3 s0 1
set_option maxRecDepth 100000 in
set_option maxHeartbeats 4000000 in
theorem kX5_traffic_128 {p : Program} {l : Launch} {e : Env} {s : State} {m : MethodId} {args : Array Value} {below : List Frame} {meth : Method} {c : Code} {D : va_G} {A : Nat → Prop} {cI cS cF cZ cJ : ClassId} {ad : Nat → Nat} {X : va_W} {p1 : Int32} {kb89 : Mem → Int32 → Option (Mem)} (G : cx p s m args meth c cX5_traffic 5 wsX5_traffic RX5 D (ty5 cI cS cF cZ cJ) A none) (hkb89 : ∀ (v : Mem) (l2 : Int32), sk p l e rmX5_traffic s m args below meth c D A 5 0 0 (fun res => MQ below (qv D A (ty5 cI cS cF cZ cJ) (Wr cI cZ ad X) res) args s 0 0 A) (Wr cI cZ ad X v) 89 [(0, .ref (ad 0)), (1, .int p1), (2, .int l2)] [] (kb89 v l2)) (v : Mem) (l2 : Int32) (l3 : Int32) (s0 : Int32) : sk p l e rmX5_traffic s m args below meth c D A 5 0 0 (fun res => MQ below (qv D A (ty5 cI cS cF cZ cJ) (Wr cI cZ ad X) res) args s 0 0 A) (Wr cI cZ ad X v) 128 [(0, .ref (ad 0)), (1, .int p1), (2, .int l2), (3, .int l3)] [.int s0] (fX5_traffic_128 kb89 p1 v l2 l3 s0) := by
  obtain ⟨F, hK, hA, hZ, hr, hlocks⟩ := G
  refine sk_eq (K' := if (v 0 34) = 0 then if s0 = 0 then fX5_traffic_164 kb89 p1 v l2 l3 s0 else gd (inb l3 28) (if (v 7 l3.toNatClampNeg) = 0 then bd (fX5_isHalted l2 v) fun x26 v25 => if x26 = 0 then fX5_traffic_165 kb89 p1 v25 l2 l3 s0 1 else fX5_traffic_164 kb89 p1 v25 l2 l3 s0 else fX5_traffic_164 kb89 p1 v l2 l3 s0) else fX5_traffic_165 kb89 p1 v l2 l3 s0 1) rfl ?_
  refine sk_istore F dX5_traffic_128 (by decide) rfl ?_
  refine sk_aload_n F dX5_traffic_130 rfl 1 rfl ?_
  refine sk_aload_n F dX5_traffic_131 rfl 1 rfl ?_
  refine sk_get (ref := "TunnelWatchModel") F hK (Lr_mem (by decide)) (shR_0 _) rfl iX5_traffic_5 34 (by decide) (by decide +kernel) (fun _ h9 => h9) rfl dX5_traffic_132 ?_
  refine sk_if_ne F 160 dX5_traffic_135 (by decide) (fun h20 => ?_) (fun h20 => ?_)
  · refine sk_iconst (x := 1) F dX5_traffic_160 (by decide) ?_
    refine sk_goto F 165 dX5_traffic_161 (by decide) ?_
    exact sk_lv [1, 2, 3, 4, 0] rfl (kX5_traffic_165 ⟨F, hK, hA, hZ, hr, hlocks⟩ hkb89 v l2 l3 s0 1)
  · refine sk_iload F dX5_traffic_138 0 rfl ?_
    refine sk_if_eq F 164 dX5_traffic_140 (by decide) (fun h21 => ?_) (fun h21 => ?_)
    · exact sk_lv [1, 2, 3, 4, 0] rfl (kX5_traffic_164 ⟨F, hK, hA, hZ, hr, hlocks⟩ hkb89 v l2 l3 s0)
    · refine sk_aload_n F dX5_traffic_143 rfl 1 rfl ?_
      refine sk_get (ref := "TunnelWatchModel") F hK (Lr_mem (by decide)) (shR_0 _) rfl iX5_traffic_5 7 (by decide) (by decide +kernel) (fun _ h9 => h9) rfl dX5_traffic_144 ?_
      refine sk_iload_n F dX5_traffic_147 rfl 4 rfl ?_
      refine sk_iald F hK (Lr_mem (by decide)) (shR_7 _) 0 rfl dX5_traffic_148 (fun h22 => ?_)
      refine sk_if_ne F 164 dX5_traffic_149 (by decide) (fun h23 => ?_) (fun h23 => ?_)
      · exact sk_lv [1, 2, 3, 4, 0] rfl (kX5_traffic_164 ⟨F, hK, hA, hZ, hr, hlocks⟩ hkb89 v l2 l3 s0)
      · refine sk_aload_n F dX5_traffic_152 rfl 1 rfl ?_
        refine sk_iload_n F dX5_traffic_153 rfl 3 rfl ?_
        refine sk_callVi (As := [.int l2]) (rest := [.ref (ad 0)]) F hK hA hZ _ (tX5_isHalted _) (cwV 1 F.2.2.2.2 gX5_traffic_X5_isHalted rfl rfl rfl (by decide +kernel) ⟨Nat.le_of_ble_eq_true rfl, Nat.le_of_ble_eq_true rfl⟩) (rc5 hK) rfl rfl (Nat.le_of_ble_eq_true rfl) (by decide) dX5_traffic_154 (fun x26 v25 c24 => ?_)
        refine sk_if_ne F 164 dX5_traffic_157 (by decide) (fun h27 => ?_) (fun h27 => ?_)
        · exact sk_lv [1, 2, 3, 4, 0] rfl (kX5_traffic_164 ⟨F, hK, hA, hZ, hr, hlocks⟩ hkb89 v25 l2 l3 s0)
        · refine sk_iconst (x := 1) F dX5_traffic_160 (by decide) ?_
          refine sk_goto F 165 dX5_traffic_161 (by decide) ?_
          exact sk_lv [1, 2, 3, 4, 0] rfl (kX5_traffic_165 ⟨F, hK, hA, hZ, hr, hlocks⟩ hkb89 v25 l2 l3 s0 1)
def fX5_traffic_127 (kb89 : Mem → Int32 → Option (Mem)) (p1 : Int32) (v : Mem) (l2 : Int32) (l3 : Int32) : Option (Mem) := fX5_traffic_128 kb89 p1 v l2 l3 0
set_option maxRecDepth 100000 in
set_option maxHeartbeats 4000000 in
theorem kX5_traffic_127 {p : Program} {l : Launch} {e : Env} {s : State} {m : MethodId} {args : Array Value} {below : List Frame} {meth : Method} {c : Code} {D : va_G} {A : Nat → Prop} {cI cS cF cZ cJ : ClassId} {ad : Nat → Nat} {X : va_W} {p1 : Int32} {kb89 : Mem → Int32 → Option (Mem)} (G : cx p s m args meth c cX5_traffic 5 wsX5_traffic RX5 D (ty5 cI cS cF cZ cJ) A none) (hkb89 : ∀ (v : Mem) (l2 : Int32), sk p l e rmX5_traffic s m args below meth c D A 5 0 0 (fun res => MQ below (qv D A (ty5 cI cS cF cZ cJ) (Wr cI cZ ad X) res) args s 0 0 A) (Wr cI cZ ad X v) 89 [(0, .ref (ad 0)), (1, .int p1), (2, .int l2)] [] (kb89 v l2)) (v : Mem) (l2 : Int32) (l3 : Int32) : sk p l e rmX5_traffic s m args below meth c D A 5 0 0 (fun res => MQ below (qv D A (ty5 cI cS cF cZ cJ) (Wr cI cZ ad X) res) args s 0 0 A) (Wr cI cZ ad X v) 127 [(0, .ref (ad 0)), (1, .int p1), (2, .int l2), (3, .int l3)] [] (fX5_traffic_127 kb89 p1 v l2 l3) := by
  obtain ⟨F, hK, hA, hZ, hr, hlocks⟩ := G
  refine sk_eq (K' := fX5_traffic_128 kb89 p1 v l2 l3 0) rfl ?_
  refine sk_iconst (x := 0) F dX5_traffic_127 (by decide) ?_
  exact kX5_traffic_128 ⟨F, hK, hA, hZ, hr, hlocks⟩ hkb89 v l2 l3 0
def fX5_traffic_89 (p1 : Int32) : Nat → Mem → Int32 → Option (Mem)
  | 0, _, _ => none
  | fuel + 1, v, l2 => if 2 ≤ l2 then some v else if p1 = 0 then fX5_traffic_127 (fun v l2 => fX5_traffic_89 p1 fuel v l2) p1 v l2 ((14 * l2) + 1) else gd (inb ((14 * l2) + 1) 28) (if (v 7 ((14 * l2) + 1).toNatClampNeg) = 1 then fX5_traffic_128 (fun v l2 => fX5_traffic_89 p1 fuel v l2) p1 v l2 ((14 * l2) + 1) 1 else bd (fX5_isHalted l2 v) fun x17 v16 => if x17 = 0 then fX5_traffic_127 (fun v l2 => fX5_traffic_89 p1 fuel v l2) p1 v16 l2 ((14 * l2) + 1) else fX5_traffic_128 (fun v l2 => fX5_traffic_89 p1 fuel v l2) p1 v16 l2 ((14 * l2) + 1) 1)
set_option maxRecDepth 100000 in
set_option maxHeartbeats 4000000 in
theorem kX5_traffic_89 {p : Program} {l : Launch} {e : Env} {s : State} {m : MethodId} {args : Array Value} {below : List Frame} {meth : Method} {c : Code} {D : va_G} {A : Nat → Prop} {cI cS cF cZ cJ : ClassId} {ad : Nat → Nat} {X : va_W} {p1 : Int32} (G : cx p s m args meth c cX5_traffic 5 wsX5_traffic RX5 D (ty5 cI cS cF cZ cJ) A none) : ∀ (fuel : Nat) (v : Mem) (l2 : Int32), sk p l e rmX5_traffic s m args below meth c D A 5 0 0 (fun res => MQ below (qv D A (ty5 cI cS cF cZ cJ) (Wr cI cZ ad X) res) args s 0 0 A) (Wr cI cZ ad X v) 89 [(0, .ref (ad 0)), (1, .int p1), (2, .int l2)] [] (fX5_traffic_89 p1 fuel v l2) := by
  obtain ⟨F, hK, hA, hZ, hr, hlocks⟩ := G
  intro fuel
  induction fuel with
  | zero => intro v l2; exact sk_none
  | succ fuel ih =>
    intro v l2
    refine sk_eq (K' := if 2 ≤ l2 then some v else if p1 = 0 then fX5_traffic_127 (fun v l2 => fX5_traffic_89 p1 fuel v l2) p1 v l2 ((14 * l2) + 1) else gd (inb ((14 * l2) + 1) 28) (if (v 7 ((14 * l2) + 1).toNatClampNeg) = 1 then fX5_traffic_128 (fun v l2 => fX5_traffic_89 p1 fuel v l2) p1 v l2 ((14 * l2) + 1) 1 else bd (fX5_isHalted l2 v) fun x17 v16 => if x17 = 0 then fX5_traffic_127 (fun v l2 => fX5_traffic_89 p1 fuel v l2) p1 v16 l2 ((14 * l2) + 1) else fX5_traffic_128 (fun v l2 => fX5_traffic_89 p1 fuel v l2) p1 v16 l2 ((14 * l2) + 1) 1)) rfl ?_
    refine sk_iload_n F dX5_traffic_89 rfl 2 rfl ?_
    refine sk_iconst (x := 2) F dX5_traffic_90 (by decide) ?_
    refine sk_icmp_ge F 189 dX5_traffic_91 (by decide) (fun h11 => ?_) (fun h11 => ?_)
    · exact sk_vret F hK hr hlocks dX5_traffic_189
    · refine sk_bipush (x := 14) F dX5_traffic_94 (by decide) ?_
      refine sk_iload_n F dX5_traffic_96 rfl 2 rfl ?_
      refine sk_imul F dX5_traffic_97 ?_
      refine sk_iconst (x := 1) F dX5_traffic_98 (by decide) ?_
      refine sk_iadd F dX5_traffic_99 ?_
      refine sk_istore_n F dX5_traffic_100 rfl (by decide) rfl ?_
      refine sk_iload_n F dX5_traffic_101 rfl 2 rfl ?_
      refine sk_if_eq F 127 dX5_traffic_102 (by decide) (fun h12 => ?_) (fun h12 => ?_)
      · exact sk_lv [1, 2, 3, 0] rfl (kX5_traffic_127 ⟨F, hK, hA, hZ, hr, hlocks⟩ ih v l2 ((14 * l2) + 1))
      · refine sk_aload_n F dX5_traffic_105 rfl 1 rfl ?_
        refine sk_get (ref := "TunnelWatchModel") F hK (Lr_mem (by decide)) (shR_0 _) rfl iX5_traffic_5 7 (by decide) (by decide +kernel) (fun _ h9 => h9) rfl dX5_traffic_106 ?_
        refine sk_iload_n F dX5_traffic_109 rfl 0 rfl ?_
        refine sk_iald F hK (Lr_mem (by decide)) (shR_7 _) 0 rfl dX5_traffic_110 (fun h13 => ?_)
        refine sk_iconst (x := 1) F dX5_traffic_111 (by decide) ?_
        refine sk_icmp_eq F 123 dX5_traffic_112 (by decide) (fun h14 => ?_) (fun h14 => ?_)
        · refine sk_iconst (x := 1) F dX5_traffic_123 (by decide) ?_
          refine sk_goto F 128 dX5_traffic_124 (by decide) ?_
          exact sk_lv [1, 2, 3, 0] rfl (kX5_traffic_128 ⟨F, hK, hA, hZ, hr, hlocks⟩ ih v l2 ((14 * l2) + 1) 1)
        · refine sk_aload_n F dX5_traffic_115 rfl 1 rfl ?_
          refine sk_iload_n F dX5_traffic_116 rfl 3 rfl ?_
          refine sk_callVi (As := [.int l2]) (rest := []) F hK hA hZ _ (tX5_isHalted _) (cwV 1 F.2.2.2.2 gX5_traffic_X5_isHalted rfl rfl rfl (by decide +kernel) ⟨Nat.le_of_ble_eq_true rfl, Nat.le_of_ble_eq_true rfl⟩) (rc5 hK) rfl rfl (Nat.le_of_ble_eq_true rfl) (by decide) dX5_traffic_117 (fun x17 v16 c15 => ?_)
          refine sk_if_eq F 127 dX5_traffic_120 (by decide) (fun h18 => ?_) (fun h18 => ?_)
          · exact sk_lv [1, 2, 3, 0] rfl (kX5_traffic_127 ⟨F, hK, hA, hZ, hr, hlocks⟩ ih v16 l2 ((14 * l2) + 1))
          · refine sk_iconst (x := 1) F dX5_traffic_123 (by decide) ?_
            refine sk_goto F 128 dX5_traffic_124 (by decide) ?_
            exact sk_lv [1, 2, 3, 0] rfl (kX5_traffic_128 ⟨F, hK, hA, hZ, hr, hlocks⟩ ih v16 l2 ((14 * l2) + 1) 1)
def fX5_traffic_2 (p1 : Int32) : Nat → Mem → Int32 → Option (Mem)
  | 0, _, _ => none
  | fuel + 1, v, l2 => if 2 ≤ l2 then fX5_traffic_89 p1 1000 v 0 else if p1 = 0 then gd (inb l2 2) (if (v 25 l2.toNatClampNeg) = 1 then fX5_traffic_64 (fun v l2 => fX5_traffic_2 p1 fuel v l2) p1 v l2 (14 * l2) 1 else gd (inb l2 2) (if (v 27 l2.toNatClampNeg) = 0 then gd (inb ((14 * l2) + 1) 28) (if (v 7 ((14 * l2) + 1).toNatClampNeg) = 1 then fX5_traffic_64 (fun v l2 => fX5_traffic_2 p1 fuel v l2) p1 v l2 (14 * l2) 1 else gd (inb ((14 * l2) + 1) 28) (if (v 8 ((14 * l2) + 1).toNatClampNeg) = 1 then fX5_traffic_64 (fun v l2 => fX5_traffic_2 p1 fuel v l2) p1 v l2 (14 * l2) 1 else fX5_traffic_64 (fun v l2 => fX5_traffic_2 p1 fuel v l2) p1 v l2 (14 * l2) 0)) else fX5_traffic_64 (fun v l2 => fX5_traffic_2 p1 fuel v l2) p1 v l2 (14 * l2) 1)) else fX5_traffic_64 (fun v l2 => fX5_traffic_2 p1 fuel v l2) p1 v l2 (14 * l2) 1
set_option maxRecDepth 100000 in
set_option maxHeartbeats 4000000 in
theorem kX5_traffic_2 {p : Program} {l : Launch} {e : Env} {s : State} {m : MethodId} {args : Array Value} {below : List Frame} {meth : Method} {c : Code} {D : va_G} {A : Nat → Prop} {cI cS cF cZ cJ : ClassId} {ad : Nat → Nat} {X : va_W} {p1 : Int32} (G : cx p s m args meth c cX5_traffic 5 wsX5_traffic RX5 D (ty5 cI cS cF cZ cJ) A none) : ∀ (fuel : Nat) (v : Mem) (l2 : Int32), sk p l e rmX5_traffic s m args below meth c D A 5 0 0 (fun res => MQ below (qv D A (ty5 cI cS cF cZ cJ) (Wr cI cZ ad X) res) args s 0 0 A) (Wr cI cZ ad X v) 2 [(0, .ref (ad 0)), (1, .int p1), (2, .int l2)] [] (fX5_traffic_2 p1 fuel v l2) := by
  obtain ⟨F, hK, hA, hZ, hr, hlocks⟩ := G
  intro fuel
  induction fuel with
  | zero => intro v l2; exact sk_none
  | succ fuel ih =>
    intro v l2
    refine sk_eq (K' := if 2 ≤ l2 then fX5_traffic_89 p1 1000 v 0 else if p1 = 0 then gd (inb l2 2) (if (v 25 l2.toNatClampNeg) = 1 then fX5_traffic_64 (fun v l2 => fX5_traffic_2 p1 fuel v l2) p1 v l2 (14 * l2) 1 else gd (inb l2 2) (if (v 27 l2.toNatClampNeg) = 0 then gd (inb ((14 * l2) + 1) 28) (if (v 7 ((14 * l2) + 1).toNatClampNeg) = 1 then fX5_traffic_64 (fun v l2 => fX5_traffic_2 p1 fuel v l2) p1 v l2 (14 * l2) 1 else gd (inb ((14 * l2) + 1) 28) (if (v 8 ((14 * l2) + 1).toNatClampNeg) = 1 then fX5_traffic_64 (fun v l2 => fX5_traffic_2 p1 fuel v l2) p1 v l2 (14 * l2) 1 else fX5_traffic_64 (fun v l2 => fX5_traffic_2 p1 fuel v l2) p1 v l2 (14 * l2) 0)) else fX5_traffic_64 (fun v l2 => fX5_traffic_2 p1 fuel v l2) p1 v l2 (14 * l2) 1)) else fX5_traffic_64 (fun v l2 => fX5_traffic_2 p1 fuel v l2) p1 v l2 (14 * l2) 1) rfl ?_
    refine sk_iload_n F dX5_traffic_2 rfl 2 rfl ?_
    refine sk_iconst (x := 2) F dX5_traffic_3 (by decide) ?_
    refine sk_icmp_ge F 87 dX5_traffic_4 (by decide) (fun h1 => ?_) (fun h1 => ?_)
    · refine sk_iconst (x := 0) F dX5_traffic_87 (by decide) ?_
      refine sk_istore_n F dX5_traffic_88 rfl (by decide) rfl ?_
      exact sk_lv [1, 2, 0] rfl (kX5_traffic_89 ⟨F, hK, hA, hZ, hr, hlocks⟩ 1000 v 0)
    · refine sk_bipush (x := 14) F dX5_traffic_7 (by decide) ?_
      refine sk_iload_n F dX5_traffic_9 rfl 2 rfl ?_
      refine sk_imul F dX5_traffic_10 ?_
      refine sk_istore_n F dX5_traffic_11 rfl (by decide) rfl ?_
      refine sk_iload_n F dX5_traffic_12 rfl 2 rfl ?_
      refine sk_if_ne F 59 dX5_traffic_13 (by decide) (fun h2 => ?_) (fun h2 => ?_)
      · refine sk_iconst (x := 1) F dX5_traffic_59 (by decide) ?_
        refine sk_goto F 64 dX5_traffic_60 (by decide) ?_
        exact sk_lv [1, 2, 3, 0] rfl (kX5_traffic_64 ⟨F, hK, hA, hZ, hr, hlocks⟩ ih v l2 (14 * l2) 1)
      · refine sk_aload_n F dX5_traffic_16 rfl 1 rfl ?_
        refine sk_get (ref := "TunnelWatchModel") F hK (Lr_mem (by decide)) (shR_0 _) rfl iX5_traffic_5 25 (by decide) (by decide +kernel) (fun _ h9 => h9) rfl dX5_traffic_17 ?_
        refine sk_iload_n F dX5_traffic_20 rfl 3 rfl ?_
        refine sk_iald F hK (Lr_mem (by decide)) (shR_25 _) 0 rfl dX5_traffic_21 (fun h3 => ?_)
        refine sk_iconst (x := 1) F dX5_traffic_22 (by decide) ?_
        refine sk_icmp_eq F 59 dX5_traffic_23 (by decide) (fun h4 => ?_) (fun h4 => ?_)
        · refine sk_iconst (x := 1) F dX5_traffic_59 (by decide) ?_
          refine sk_goto F 64 dX5_traffic_60 (by decide) ?_
          exact sk_lv [1, 2, 3, 0] rfl (kX5_traffic_64 ⟨F, hK, hA, hZ, hr, hlocks⟩ ih v l2 (14 * l2) 1)
        · refine sk_aload_n F dX5_traffic_26 rfl 1 rfl ?_
          refine sk_get (ref := "TunnelWatchModel") F hK (Lr_mem (by decide)) (shR_0 _) rfl iX5_traffic_5 27 (by decide) (by decide +kernel) (fun _ h9 => h9) rfl dX5_traffic_27 ?_
          refine sk_iload_n F dX5_traffic_30 rfl 3 rfl ?_
          refine sk_zald F hK (Lr_mem (by decide)) (shR_27 _) 3 rfl dX5_traffic_31 (fun h5 => ?_)
          refine sk_if_ne F 59 dX5_traffic_32 (by decide) (fun h6 => ?_) (fun h6 => ?_)
          · refine sk_iconst (x := 1) F dX5_traffic_59 (by decide) ?_
            refine sk_goto F 64 dX5_traffic_60 (by decide) ?_
            exact sk_lv [1, 2, 3, 0] rfl (kX5_traffic_64 ⟨F, hK, hA, hZ, hr, hlocks⟩ ih v l2 (14 * l2) 1)
          · refine sk_aload_n F dX5_traffic_35 rfl 1 rfl ?_
            refine sk_get (ref := "TunnelWatchModel") F hK (Lr_mem (by decide)) (shR_0 _) rfl iX5_traffic_5 7 (by decide) (by decide +kernel) (fun _ h9 => h9) rfl dX5_traffic_36 ?_
            refine sk_iload_n F dX5_traffic_39 rfl 0 rfl ?_
            refine sk_iconst (x := 1) F dX5_traffic_40 (by decide) ?_
            refine sk_iadd F dX5_traffic_41 ?_
            refine sk_iald F hK (Lr_mem (by decide)) (shR_7 _) 0 rfl dX5_traffic_42 (fun h7 => ?_)
            refine sk_iconst (x := 1) F dX5_traffic_43 (by decide) ?_
            refine sk_icmp_eq F 59 dX5_traffic_44 (by decide) (fun h8 => ?_) (fun h8 => ?_)
            · refine sk_iconst (x := 1) F dX5_traffic_59 (by decide) ?_
              refine sk_goto F 64 dX5_traffic_60 (by decide) ?_
              exact sk_lv [1, 2, 3, 0] rfl (kX5_traffic_64 ⟨F, hK, hA, hZ, hr, hlocks⟩ ih v l2 (14 * l2) 1)
            · refine sk_aload_n F dX5_traffic_47 rfl 1 rfl ?_
              refine sk_get (ref := "TunnelWatchModel") F hK (Lr_mem (by decide)) (shR_0 _) rfl iX5_traffic_5 8 (by decide) (by decide +kernel) (fun _ h9 => h9) rfl dX5_traffic_48 ?_
              refine sk_iload_n F dX5_traffic_51 rfl 0 rfl ?_
              refine sk_iconst (x := 1) F dX5_traffic_52 (by decide) ?_
              refine sk_iadd F dX5_traffic_53 ?_
              refine sk_iald F hK (Lr_mem (by decide)) (shR_8 _) 0 rfl dX5_traffic_54 (fun h9 => ?_)
              refine sk_iconst (x := 1) F dX5_traffic_55 (by decide) ?_
              refine sk_icmp_ne F 63 dX5_traffic_56 (by decide) (fun h10 => ?_) (fun h10 => ?_)
              · refine sk_iconst (x := 0) F dX5_traffic_63 (by decide) ?_
                exact sk_lv [1, 2, 3, 0] rfl (kX5_traffic_64 ⟨F, hK, hA, hZ, hr, hlocks⟩ ih v l2 (14 * l2) 0)
              · refine sk_iconst (x := 1) F dX5_traffic_59 (by decide) ?_
                refine sk_goto F 64 dX5_traffic_60 (by decide) ?_
                exact sk_lv [1, 2, 3, 0] rfl (kX5_traffic_64 ⟨F, hK, hA, hZ, hr, hlocks⟩ ih v l2 (14 * l2) 1)
def fX5_traffic (p1 : Int32) (v : Mem) : Option (Mem) := fX5_traffic_2 p1 1000 v 0
set_option maxRecDepth 100000 in
set_option maxHeartbeats 4000000 in
theorem kX5_traffic_0 {p : Program} {l : Launch} {e : Env} {s : State} {m : MethodId} {args : Array Value} {below : List Frame} {meth : Method} {c : Code} {D : va_G} {A : Nat → Prop} {cI cS cF cZ cJ : ClassId} {ad : Nat → Nat} {X : va_W} {p1 : Int32} (G : cx p s m args meth c cX5_traffic 5 wsX5_traffic RX5 D (ty5 cI cS cF cZ cJ) A none) (v : Mem) : sk p l e rmX5_traffic s m args below meth c D A 5 0 0 (fun res => MQ below (qv D A (ty5 cI cS cF cZ cJ) (Wr cI cZ ad X) res) args s 0 0 A) (Wr cI cZ ad X v) 0 [(0, .ref (ad 0)), (1, .int p1)] [] (fX5_traffic p1 v) := by
  obtain ⟨F, hK, hA, hZ, hr, hlocks⟩ := G
  refine sk_eq (K' := fX5_traffic_2 p1 1000 v 0) rfl ?_
  refine sk_iconst (x := 0) F dX5_traffic_0 (by decide) ?_
  refine sk_istore_n F dX5_traffic_1 rfl (by decide) rfl ?_
  exact sk_lv [1, 2, 0] rfl (kX5_traffic_2 ⟨F, hK, hA, hZ, hr, hlocks⟩ 1000 v 0)
theorem tX5_traffic {l : Launch} {D : va_G} {A : Nat → Prop} {cI cS cF cZ cJ : ClassId} {ad : Nat → Nat} {X : va_W} {p1 : Int32} (v : Mem) : CV l yX5_traffic wsX5_traffic rmX5_traffic D A (ty5 cI cS cF cZ cJ) (Wr cI cZ ad X) [.ref (ad 0), .int p1] v (fX5_traffic p1 v) :=
  CV_of (cc := cX5_traffic) (maxL := 5) (ret := none) (by decide) rfl (Nat.le_of_ble_eq_true rfl) (fun p e s m below meth c G => kX5_traffic_0 G v)
def rmX5_blowing : Room := { frames := 0, cells := 0, slots := 0, locals := 0 }
theorem iX5_blowing_5 : ∀ w ∈ wsX50, w ∈ wsX5_blowing := by decide +kernel
def fX5_blowing_5 (p1 : Int32) (p2 : Int32) : Nat → Mem → Int32 → Int32 → Option (Int32 × Mem)
  | 0, _, _, _ => none
  | fuel + 1, v, l3, l4 => gd (inb p1 2) (if (v 5 p1.toNatClampNeg) ≤ l4 then some (l3, v) else gd (inb (((14 * p1) + 2) + l4) 28) (if (v 7 (((14 * p1) + 2) + l4).toNatClampNeg) = p2 then fX5_blowing_5 p1 p2 fuel v (l3 + 1) (l4 + 1) else fX5_blowing_5 p1 p2 fuel v (l3 + 0) (l4 + 1)))
set_option maxRecDepth 100000 in
set_option maxHeartbeats 4000000 in
theorem kX5_blowing_5 {p : Program} {l : Launch} {e : Env} {s : State} {m : MethodId} {args : Array Value} {below : List Frame} {meth : Method} {c : Code} {D : va_G} {A : Nat → Prop} {cI cS cF cZ cJ : ClassId} {ad : Nat → Nat} {X : va_W} {p1 : Int32} {p2 : Int32} (G : cx p s m args meth c cX5_blowing 5 wsX5_blowing RX5 D (ty5 cI cS cF cZ cJ) A (some .int)) : ∀ (fuel : Nat) (v : Mem) (l3 : Int32) (l4 : Int32), sk p l e rmX5_blowing s m args below meth c D A 5 0 0 (fun res => MQ below (qi D A (ty5 cI cS cF cZ cJ) (Wr cI cZ ad X) res) args s 0 0 A) (Wr cI cZ ad X v) 5 [(0, .ref (ad 0)), (1, .int p1), (2, .int p2), (3, .int l3), (4, .int l4)] [] (fX5_blowing_5 p1 p2 fuel v l3 l4) := by
  obtain ⟨F, hK, hA, hZ, hr, hlocks⟩ := G
  intro fuel
  induction fuel with
  | zero => intro v l3 l4; exact sk_none
  | succ fuel ih =>
    intro v l3 l4
    refine sk_eq (K' := gd (inb p1 2) (if (v 5 p1.toNatClampNeg) ≤ l4 then some (l3, v) else gd (inb (((14 * p1) + 2) + l4) 28) (if (v 7 (((14 * p1) + 2) + l4).toNatClampNeg) = p2 then fX5_blowing_5 p1 p2 fuel v (l3 + 1) (l4 + 1) else fX5_blowing_5 p1 p2 fuel v (l3 + 0) (l4 + 1)))) rfl ?_
    refine sk_iload F dX5_blowing_5 4 rfl ?_
    refine sk_aload_n F dX5_blowing_7 rfl 0 rfl ?_
    refine sk_get (ref := "TunnelWatchModel") F hK (Lr_mem (by decide)) (shR_0 _) rfl iX5_blowing_5 5 (by decide) (by decide +kernel) (fun _ h9 => h9) rfl dX5_blowing_8 ?_
    refine sk_iload_n F dX5_blowing_11 rfl 1 rfl ?_
    refine sk_iald F hK (Lr_mem (by decide)) (shR_5 _) 0 rfl dX5_blowing_12 (fun h1 => ?_)
    refine sk_icmp_ge F 48 dX5_blowing_13 (by decide) (fun h2 => ?_) (fun h2 => ?_)
    · refine sk_iload_n F dX5_blowing_48 rfl 3 rfl ?_
      exact sk_iret F hK hr hlocks dX5_blowing_49
    · refine sk_iload_n F dX5_blowing_16 rfl 3 rfl ?_
      refine sk_aload_n F dX5_blowing_17 rfl 0 rfl ?_
      refine sk_get (ref := "TunnelWatchModel") F hK (Lr_mem (by decide)) (shR_0 _) rfl iX5_blowing_5 7 (by decide) (by decide +kernel) (fun _ h9 => h9) rfl dX5_blowing_18 ?_
      refine sk_bipush (x := 14) F dX5_blowing_21 (by decide) ?_
      refine sk_iload_n F dX5_blowing_23 rfl 1 rfl ?_
      refine sk_imul F dX5_blowing_24 ?_
      refine sk_iconst (x := 2) F dX5_blowing_25 (by decide) ?_
      refine sk_iadd F dX5_blowing_26 ?_
      refine sk_iload F dX5_blowing_27 4 rfl ?_
      refine sk_iadd F dX5_blowing_29 ?_
      refine sk_iald F hK (Lr_mem (by decide)) (shR_7 _) 0 rfl dX5_blowing_30 (fun h3 => ?_)
      refine sk_iload_n F dX5_blowing_31 rfl 2 rfl ?_
      refine sk_icmp_ne F 39 dX5_blowing_32 (by decide) (fun h4 => ?_) (fun h4 => ?_)
      · refine sk_iconst (x := 0) F dX5_blowing_39 (by decide) ?_
        refine sk_iadd F dX5_blowing_40 ?_
        refine sk_istore_n F dX5_blowing_41 rfl (by decide) rfl ?_
        refine sk_iinc (y := l4 + 1) F dX5_blowing_42 4 rfl rfl (by decide) rfl ?_
        refine sk_goto F 5 dX5_blowing_45 (by decide) ?_
        exact sk_lv [2, 3, 4, 1, 0] rfl (ih v (l3 + 0) (l4 + 1))
      · refine sk_iconst (x := 1) F dX5_blowing_35 (by decide) ?_
        refine sk_goto F 40 dX5_blowing_36 (by decide) ?_
        refine sk_iadd F dX5_blowing_40 ?_
        refine sk_istore_n F dX5_blowing_41 rfl (by decide) rfl ?_
        refine sk_iinc (y := l4 + 1) F dX5_blowing_42 4 rfl rfl (by decide) rfl ?_
        refine sk_goto F 5 dX5_blowing_45 (by decide) ?_
        exact sk_lv [2, 3, 4, 1, 0] rfl (ih v (l3 + 1) (l4 + 1))
def fX5_blowing (p1 : Int32) (p2 : Int32) (v : Mem) : Option (Int32 × Mem) := fX5_blowing_5 p1 p2 1000 v 0 0
set_option maxRecDepth 100000 in
set_option maxHeartbeats 4000000 in
theorem kX5_blowing_0 {p : Program} {l : Launch} {e : Env} {s : State} {m : MethodId} {args : Array Value} {below : List Frame} {meth : Method} {c : Code} {D : va_G} {A : Nat → Prop} {cI cS cF cZ cJ : ClassId} {ad : Nat → Nat} {X : va_W} {p1 : Int32} {p2 : Int32} (G : cx p s m args meth c cX5_blowing 5 wsX5_blowing RX5 D (ty5 cI cS cF cZ cJ) A (some .int)) (v : Mem) : sk p l e rmX5_blowing s m args below meth c D A 5 0 0 (fun res => MQ below (qi D A (ty5 cI cS cF cZ cJ) (Wr cI cZ ad X) res) args s 0 0 A) (Wr cI cZ ad X v) 0 [(0, .ref (ad 0)), (1, .int p1), (2, .int p2)] [] (fX5_blowing p1 p2 v) := by
  obtain ⟨F, hK, hA, hZ, hr, hlocks⟩ := G
  refine sk_eq (K' := fX5_blowing_5 p1 p2 1000 v 0 0) rfl ?_
  refine sk_iconst (x := 0) F dX5_blowing_0 (by decide) ?_
  refine sk_istore_n F dX5_blowing_1 rfl (by decide) rfl ?_
  refine sk_iconst (x := 0) F dX5_blowing_2 (by decide) ?_
  refine sk_istore F dX5_blowing_3 (by decide) rfl ?_
  exact sk_lv [2, 3, 4, 1, 0] rfl (kX5_blowing_5 ⟨F, hK, hA, hZ, hr, hlocks⟩ 1000 v 0 0)
theorem tX5_blowing {l : Launch} {D : va_G} {A : Nat → Prop} {cI cS cF cZ cJ : ClassId} {ad : Nat → Nat} {X : va_W} {p1 : Int32} {p2 : Int32} (v : Mem) : CI l yX5_blowing wsX5_blowing rmX5_blowing D A (ty5 cI cS cF cZ cJ) (Wr cI cZ ad X) [.ref (ad 0), .int p1, .int p2] v (fX5_blowing p1 p2 v) :=
  CI_of (cc := cX5_blowing) (maxL := 5) (ret := (some .int)) (by decide) rfl (Nat.le_of_ble_eq_true rfl) (fun p e s m below meth c G => kX5_blowing_0 G v)
def rmX5_longest : Room := { frames := 0, cells := 0, slots := 0, locals := 0 }
theorem iX5_longest_5 : ∀ w ∈ wsX50, w ∈ wsX5_longest := by decide +kernel
def fX5_longest_92 (kb19 : Mem → Int32 → Int32 → Option (Int32 × Mem)) (p1 : Int32) (p2 : Int32) (v : Mem) (l3 : Int32) (l4 : Int32) : Option (Int32 × Mem) := kb19 v l3 (l4 + (-1))
set_option maxRecDepth 100000 in
set_option maxHeartbeats 4000000 in
theorem kX5_longest_92 {p : Program} {l : Launch} {e : Env} {s : State} {m : MethodId} {args : Array Value} {below : List Frame} {meth : Method} {c : Code} {D : va_G} {A : Nat → Prop} {cI cS cF cZ cJ : ClassId} {ad : Nat → Nat} {X : va_W} {p1 : Int32} {p2 : Int32} {kb19 : Mem → Int32 → Int32 → Option (Int32 × Mem)} (G : cx p s m args meth c cX5_longest 6 wsX5_longest RX5 D (ty5 cI cS cF cZ cJ) A (some .int)) (hkb19 : ∀ (v : Mem) (l3 : Int32) (l4 : Int32), sk p l e rmX5_longest s m args below meth c D A 6 0 0 (fun res => MQ below (qi D A (ty5 cI cS cF cZ cJ) (Wr cI cZ ad X) res) args s 0 0 A) (Wr cI cZ ad X v) 19 [(0, .ref (ad 0)), (1, .int p1), (2, .int p2), (3, .int l3), (4, .int l4)] [] (kb19 v l3 l4)) (v : Mem) (l3 : Int32) (l4 : Int32) : sk p l e rmX5_longest s m args below meth c D A 6 0 0 (fun res => MQ below (qi D A (ty5 cI cS cF cZ cJ) (Wr cI cZ ad X) res) args s 0 0 A) (Wr cI cZ ad X v) 92 [(0, .ref (ad 0)), (1, .int p1), (2, .int p2), (3, .int l3), (4, .int l4)] [] (fX5_longest_92 kb19 p1 p2 v l3 l4) := by
  obtain ⟨F, hK, hA, hZ, hr, hlocks⟩ := G
  refine sk_eq (K' := kb19 v l3 (l4 + (-1))) rfl ?_
  refine sk_iload_n F dX5_longest_92 rfl 3 rfl ?_
  refine sk_istore_n F dX5_longest_93 rfl (by decide) rfl ?_
  refine sk_iinc (y := l4 + (-1)) F dX5_longest_94 4 rfl rfl (by decide) rfl ?_
  refine sk_goto F 19 dX5_longest_97 (by decide) ?_
  exact sk_lv [2, 3, 4, 1, 0] rfl (hkb19 v l3 (l4 + (-1)))
def fX5_longest_60 (kb19 : Mem → Int32 → Int32 → Option (Int32 × Mem)) (p1 : Int32) (p2 : Int32) (v : Mem) (l3 : Int32) (l4 : Int32) (s0 : Int32) : Option (Int32 × Mem) := if s0 = 0 then fX5_longest_92 kb19 p1 p2 v l3 l4 else if l3 < 0 then kb19 v l4 (l4 + (-1)) else gd (inb l4 28) (gd (inb l3 28) (if (v 13 l4.toNatClampNeg) < (v 13 l3.toNatClampNeg) then fX5_longest_92 kb19 p1 p2 v l3 l4 else kb19 v l4 (l4 + (-1))))
set_option maxRecDepth 100000 in
set_option maxHeartbeats 4000000 in
theorem kX5_longest_60 {p : Program} {l : Launch} {e : Env} {s : State} {m : MethodId} {args : Array Value} {below : List Frame} {meth : Method} {c : Code} {D : va_G} {A : Nat → Prop} {cI cS cF cZ cJ : ClassId} {ad : Nat → Nat} {X : va_W} {p1 : Int32} {p2 : Int32} {kb19 : Mem → Int32 → Int32 → Option (Int32 × Mem)} (G : cx p s m args meth c cX5_longest 6 wsX5_longest RX5 D (ty5 cI cS cF cZ cJ) A (some .int)) (hkb19 : ∀ (v : Mem) (l3 : Int32) (l4 : Int32), sk p l e rmX5_longest s m args below meth c D A 6 0 0 (fun res => MQ below (qi D A (ty5 cI cS cF cZ cJ) (Wr cI cZ ad X) res) args s 0 0 A) (Wr cI cZ ad X v) 19 [(0, .ref (ad 0)), (1, .int p1), (2, .int p2), (3, .int l3), (4, .int l4)] [] (kb19 v l3 l4)) (v : Mem) (l3 : Int32) (l4 : Int32) (s0 : Int32) : sk p l e rmX5_longest s m args below meth c D A 6 0 0 (fun res => MQ below (qi D A (ty5 cI cS cF cZ cJ) (Wr cI cZ ad X) res) args s 0 0 A) (Wr cI cZ ad X v) 60 [(0, .ref (ad 0)), (1, .int p1), (2, .int p2), (3, .int l3), (4, .int l4)] [.int s0] (fX5_longest_60 kb19 p1 p2 v l3 l4 s0) := by
  obtain ⟨F, hK, hA, hZ, hr, hlocks⟩ := G
  refine sk_eq (K' := if s0 = 0 then fX5_longest_92 kb19 p1 p2 v l3 l4 else if l3 < 0 then kb19 v l4 (l4 + (-1)) else gd (inb l4 28) (gd (inb l3 28) (if (v 13 l4.toNatClampNeg) < (v 13 l3.toNatClampNeg) then fX5_longest_92 kb19 p1 p2 v l3 l4 else kb19 v l4 (l4 + (-1))))) rfl ?_
  refine sk_istore F dX5_longest_60 (by decide) rfl ?_
  refine sk_iload F dX5_longest_62 0 rfl ?_
  refine sk_if_eq F 92 dX5_longest_64 (by decide) (fun h8 => ?_) (fun h8 => ?_)
  · exact sk_lv [1, 2, 3, 4, 5] rfl (kX5_longest_92 ⟨F, hK, hA, hZ, hr, hlocks⟩ hkb19 v l3 l4)
  · refine sk_iload_n F dX5_longest_67 rfl 4 rfl ?_
    refine sk_if_lt F 87 dX5_longest_68 (by decide) (fun h9 => ?_) (fun h9 => ?_)
    · refine sk_iload F dX5_longest_87 5 rfl ?_
      refine sk_goto F 93 dX5_longest_89 (by decide) ?_
      refine sk_istore_n F dX5_longest_93 rfl (by decide) rfl ?_
      refine sk_iinc (y := l4 + (-1)) F dX5_longest_94 5 rfl rfl (by decide) rfl ?_
      refine sk_goto F 19 dX5_longest_97 (by decide) ?_
      exact sk_lv [3, 4, 5, 1, 0] rfl (hkb19 v l4 (l4 + (-1)))
    · refine sk_aload_n F dX5_longest_71 rfl 1 rfl ?_
      refine sk_get (ref := "TunnelWatchModel") F hK (Lr_mem (by decide)) (shR_0 _) rfl iX5_longest_5 13 (by decide) (by decide +kernel) (fun _ h9 => h9) rfl dX5_longest_72 ?_
      refine sk_iload F dX5_longest_75 5 rfl ?_
      refine sk_iald F hK (Lr_mem (by decide)) (shR_13 _) 0 rfl dX5_longest_77 (fun h10 => ?_)
      refine sk_aload_n F dX5_longest_78 rfl 1 rfl ?_
      refine sk_get (ref := "TunnelWatchModel") F hK (Lr_mem (by decide)) (shR_0 _) rfl iX5_longest_5 13 (by decide) (by decide +kernel) (fun _ h9 => h9) rfl dX5_longest_79 ?_
      refine sk_iload_n F dX5_longest_82 rfl 4 rfl ?_
      refine sk_iald F hK (Lr_mem (by decide)) (shR_13 _) 0 rfl dX5_longest_83 (fun h11 => ?_)
      refine sk_icmp_lt F 92 dX5_longest_84 (by decide) (fun h12 => ?_) (fun h12 => ?_)
      · exact sk_lv [1, 2, 3, 4, 5] rfl (kX5_longest_92 ⟨F, hK, hA, hZ, hr, hlocks⟩ hkb19 v l3 l4)
      · refine sk_iload F dX5_longest_87 5 rfl ?_
        refine sk_goto F 93 dX5_longest_89 (by decide) ?_
        refine sk_istore_n F dX5_longest_93 rfl (by decide) rfl ?_
        refine sk_iinc (y := l4 + (-1)) F dX5_longest_94 5 rfl rfl (by decide) rfl ?_
        refine sk_goto F 19 dX5_longest_97 (by decide) ?_
        exact sk_lv [3, 4, 5, 1, 0] rfl (hkb19 v l4 (l4 + (-1)))
def fX5_longest_59 (kb19 : Mem → Int32 → Int32 → Option (Int32 × Mem)) (p1 : Int32) (p2 : Int32) (v : Mem) (l3 : Int32) (l4 : Int32) : Option (Int32 × Mem) := fX5_longest_60 kb19 p1 p2 v l3 l4 0
set_option maxRecDepth 100000 in
set_option maxHeartbeats 4000000 in
theorem kX5_longest_59 {p : Program} {l : Launch} {e : Env} {s : State} {m : MethodId} {args : Array Value} {below : List Frame} {meth : Method} {c : Code} {D : va_G} {A : Nat → Prop} {cI cS cF cZ cJ : ClassId} {ad : Nat → Nat} {X : va_W} {p1 : Int32} {p2 : Int32} {kb19 : Mem → Int32 → Int32 → Option (Int32 × Mem)} (G : cx p s m args meth c cX5_longest 6 wsX5_longest RX5 D (ty5 cI cS cF cZ cJ) A (some .int)) (hkb19 : ∀ (v : Mem) (l3 : Int32) (l4 : Int32), sk p l e rmX5_longest s m args below meth c D A 6 0 0 (fun res => MQ below (qi D A (ty5 cI cS cF cZ cJ) (Wr cI cZ ad X) res) args s 0 0 A) (Wr cI cZ ad X v) 19 [(0, .ref (ad 0)), (1, .int p1), (2, .int p2), (3, .int l3), (4, .int l4)] [] (kb19 v l3 l4)) (v : Mem) (l3 : Int32) (l4 : Int32) : sk p l e rmX5_longest s m args below meth c D A 6 0 0 (fun res => MQ below (qi D A (ty5 cI cS cF cZ cJ) (Wr cI cZ ad X) res) args s 0 0 A) (Wr cI cZ ad X v) 59 [(0, .ref (ad 0)), (1, .int p1), (2, .int p2), (3, .int l3), (4, .int l4)] [] (fX5_longest_59 kb19 p1 p2 v l3 l4) := by
  obtain ⟨F, hK, hA, hZ, hr, hlocks⟩ := G
  refine sk_eq (K' := fX5_longest_60 kb19 p1 p2 v l3 l4 0) rfl ?_
  refine sk_iconst (x := 0) F dX5_longest_59 (by decide) ?_
  exact kX5_longest_60 ⟨F, hK, hA, hZ, hr, hlocks⟩ hkb19 v l3 l4 0
def fX5_longest_19 (p1 : Int32) (p2 : Int32) : Nat → Mem → Int32 → Int32 → Option (Int32 × Mem)
  | 0, _, _, _ => none
  | fuel + 1, v, l3, l4 => if l4 < ((14 * p1) + 2) then some (l3, v) else gd (inb l4 28) (if (v 7 l4.toNatClampNeg) = 0 then fX5_longest_59 (fun v l3 l4 => fX5_longest_19 p1 p2 fuel v l3 l4) p1 p2 v l3 l4 else if p2 = 0 then fX5_longest_60 (fun v l3 l4 => fX5_longest_19 p1 p2 fuel v l3 l4) p1 p2 v l3 l4 1 else gd (inb l4 28) (if (v 7 l4.toNatClampNeg) = p2 then fX5_longest_60 (fun v l3 l4 => fX5_longest_19 p1 p2 fuel v l3 l4) p1 p2 v l3 l4 1 else fX5_longest_59 (fun v l3 l4 => fX5_longest_19 p1 p2 fuel v l3 l4) p1 p2 v l3 l4))
set_option maxRecDepth 100000 in
set_option maxHeartbeats 4000000 in
theorem kX5_longest_19 {p : Program} {l : Launch} {e : Env} {s : State} {m : MethodId} {args : Array Value} {below : List Frame} {meth : Method} {c : Code} {D : va_G} {A : Nat → Prop} {cI cS cF cZ cJ : ClassId} {ad : Nat → Nat} {X : va_W} {p1 : Int32} {p2 : Int32} (G : cx p s m args meth c cX5_longest 6 wsX5_longest RX5 D (ty5 cI cS cF cZ cJ) A (some .int)) : ∀ (fuel : Nat) (v : Mem) (l3 : Int32) (l4 : Int32), sk p l e rmX5_longest s m args below meth c D A 6 0 0 (fun res => MQ below (qi D A (ty5 cI cS cF cZ cJ) (Wr cI cZ ad X) res) args s 0 0 A) (Wr cI cZ ad X v) 19 [(0, .ref (ad 0)), (1, .int p1), (2, .int p2), (3, .int l3), (4, .int l4)] [] (fX5_longest_19 p1 p2 fuel v l3 l4) := by
  obtain ⟨F, hK, hA, hZ, hr, hlocks⟩ := G
  intro fuel
  induction fuel with
  | zero => intro v l3 l4; exact sk_none
  | succ fuel ih =>
    intro v l3 l4
    refine sk_eq (K' := if l4 < ((14 * p1) + 2) then some (l3, v) else gd (inb l4 28) (if (v 7 l4.toNatClampNeg) = 0 then fX5_longest_59 (fun v l3 l4 => fX5_longest_19 p1 p2 fuel v l3 l4) p1 p2 v l3 l4 else if p2 = 0 then fX5_longest_60 (fun v l3 l4 => fX5_longest_19 p1 p2 fuel v l3 l4) p1 p2 v l3 l4 1 else gd (inb l4 28) (if (v 7 l4.toNatClampNeg) = p2 then fX5_longest_60 (fun v l3 l4 => fX5_longest_19 p1 p2 fuel v l3 l4) p1 p2 v l3 l4 1 else fX5_longest_59 (fun v l3 l4 => fX5_longest_19 p1 p2 fuel v l3 l4) p1 p2 v l3 l4))) rfl ?_
    refine sk_iload F dX5_longest_19 4 rfl ?_
    refine sk_bipush (x := 14) F dX5_longest_21 (by decide) ?_
    refine sk_iload_n F dX5_longest_23 rfl 1 rfl ?_
    refine sk_imul F dX5_longest_24 ?_
    refine sk_iconst (x := 2) F dX5_longest_25 (by decide) ?_
    refine sk_iadd F dX5_longest_26 ?_
    refine sk_icmp_lt F 100 dX5_longest_27 (by decide) (fun h2 => ?_) (fun h2 => ?_)
    · refine sk_iload_n F dX5_longest_100 rfl 3 rfl ?_
      exact sk_iret F hK hr hlocks dX5_longest_101
    · refine sk_aload_n F dX5_longest_30 rfl 0 rfl ?_
      refine sk_get (ref := "TunnelWatchModel") F hK (Lr_mem (by decide)) (shR_0 _) rfl iX5_longest_5 7 (by decide) (by decide +kernel) (fun _ h9 => h9) rfl dX5_longest_31 ?_
      refine sk_iload F dX5_longest_34 4 rfl ?_
      refine sk_iald F hK (Lr_mem (by decide)) (shR_7 _) 0 rfl dX5_longest_36 (fun h3 => ?_)
      refine sk_if_eq F 59 dX5_longest_37 (by decide) (fun h4 => ?_) (fun h4 => ?_)
      · exact kX5_longest_59 ⟨F, hK, hA, hZ, hr, hlocks⟩ ih v l3 l4
      · refine sk_iload_n F dX5_longest_40 rfl 2 rfl ?_
        refine sk_if_eq F 55 dX5_longest_41 (by decide) (fun h5 => ?_) (fun h5 => ?_)
        · refine sk_iconst (x := 1) F dX5_longest_55 (by decide) ?_
          refine sk_goto F 60 dX5_longest_56 (by decide) ?_
          exact kX5_longest_60 ⟨F, hK, hA, hZ, hr, hlocks⟩ ih v l3 l4 1
        · refine sk_aload_n F dX5_longest_44 rfl 0 rfl ?_
          refine sk_get (ref := "TunnelWatchModel") F hK (Lr_mem (by decide)) (shR_0 _) rfl iX5_longest_5 7 (by decide) (by decide +kernel) (fun _ h9 => h9) rfl dX5_longest_45 ?_
          refine sk_iload F dX5_longest_48 4 rfl ?_
          refine sk_iald F hK (Lr_mem (by decide)) (shR_7 _) 0 rfl dX5_longest_50 (fun h6 => ?_)
          refine sk_iload_n F dX5_longest_51 rfl 2 rfl ?_
          refine sk_icmp_ne F 59 dX5_longest_52 (by decide) (fun h7 => ?_) (fun h7 => ?_)
          · exact kX5_longest_59 ⟨F, hK, hA, hZ, hr, hlocks⟩ ih v l3 l4
          · refine sk_iconst (x := 1) F dX5_longest_55 (by decide) ?_
            refine sk_goto F 60 dX5_longest_56 (by decide) ?_
            exact kX5_longest_60 ⟨F, hK, hA, hZ, hr, hlocks⟩ ih v l3 l4 1
def fX5_longest (p1 : Int32) (p2 : Int32) (v : Mem) : Option (Int32 × Mem) := gd (inb p1 2) (fX5_longest_19 p1 p2 1000 v (-1) ((((14 * p1) + 2) + (v 5 p1.toNatClampNeg)) - 1))
set_option maxRecDepth 100000 in
set_option maxHeartbeats 4000000 in
theorem kX5_longest_0 {p : Program} {l : Launch} {e : Env} {s : State} {m : MethodId} {args : Array Value} {below : List Frame} {meth : Method} {c : Code} {D : va_G} {A : Nat → Prop} {cI cS cF cZ cJ : ClassId} {ad : Nat → Nat} {X : va_W} {p1 : Int32} {p2 : Int32} (G : cx p s m args meth c cX5_longest 6 wsX5_longest RX5 D (ty5 cI cS cF cZ cJ) A (some .int)) (v : Mem) : sk p l e rmX5_longest s m args below meth c D A 6 0 0 (fun res => MQ below (qi D A (ty5 cI cS cF cZ cJ) (Wr cI cZ ad X) res) args s 0 0 A) (Wr cI cZ ad X v) 0 [(0, .ref (ad 0)), (1, .int p1), (2, .int p2)] [] (fX5_longest p1 p2 v) := by
  obtain ⟨F, hK, hA, hZ, hr, hlocks⟩ := G
  refine sk_eq (K' := gd (inb p1 2) (fX5_longest_19 p1 p2 1000 v (-1) ((((14 * p1) + 2) + (v 5 p1.toNatClampNeg)) - 1))) rfl ?_
  refine sk_iconst (x := (-1)) F dX5_longest_0 (by decide) ?_
  refine sk_istore_n F dX5_longest_1 rfl (by decide) rfl ?_
  refine sk_bipush (x := 14) F dX5_longest_2 (by decide) ?_
  refine sk_iload_n F dX5_longest_4 rfl 2 rfl ?_
  refine sk_imul F dX5_longest_5 ?_
  refine sk_iconst (x := 2) F dX5_longest_6 (by decide) ?_
  refine sk_iadd F dX5_longest_7 ?_
  refine sk_aload_n F dX5_longest_8 rfl 1 rfl ?_
  refine sk_get (ref := "TunnelWatchModel") F hK (Lr_mem (by decide)) (shR_0 _) rfl iX5_longest_5 5 (by decide) (by decide +kernel) (fun _ h9 => h9) rfl dX5_longest_9 ?_
  refine sk_iload_n F dX5_longest_12 rfl 2 rfl ?_
  refine sk_iald F hK (Lr_mem (by decide)) (shR_5 _) 0 rfl dX5_longest_13 (fun h1 => ?_)
  refine sk_iadd F dX5_longest_14 ?_
  refine sk_iconst (x := 1) F dX5_longest_15 (by decide) ?_
  refine sk_isub F dX5_longest_16 ?_
  refine sk_istore F dX5_longest_17 (by decide) rfl ?_
  exact sk_lv [2, 3, 4, 1, 0] rfl (kX5_longest_19 ⟨F, hK, hA, hZ, hr, hlocks⟩ 1000 v (-1) ((((14 * p1) + 2) + (v 5 p1.toNatClampNeg)) - 1))
theorem tX5_longest {l : Launch} {D : va_G} {A : Nat → Prop} {cI cS cF cZ cJ : ClassId} {ad : Nat → Nat} {X : va_W} {p1 : Int32} {p2 : Int32} (v : Mem) : CI l yX5_longest wsX5_longest rmX5_longest D A (ty5 cI cS cF cZ cJ) (Wr cI cZ ad X) [.ref (ad 0), .int p1, .int p2] v (fX5_longest p1 p2 v) :=
  CI_of (cc := cX5_longest) (maxL := 6) (ret := (some .int)) (by decide) rfl (Nat.le_of_ble_eq_true rfl) (fun p e s m below meth c G => kX5_longest_0 G v)
def rmX5_calm : Room := { frames := 2, cells := 0, slots := 0, locals := 43 }
theorem iX5_calm_5 : ∀ w ∈ wsX50, w ∈ wsX5_calm := by decide +kernel
def fX5_calm_55 (p1 : Int32) (p2 : Int32) : Nat → Mem → Option (Mem)
  | 0, _ => none
  | fuel + 1, v => gd (inb p1 2) (bd (fX5_blowing p1 (v 30 p1.toNatClampNeg) v) fun x13 v12 => gd (inb p1 2) (if x13 ≤ (v12 31 p1.toNatClampNeg) then some v12 else gd (inb p1 2) (bd (fX5_longest p1 (v12 30 p1.toNatClampNeg) v12) fun x19 v18 => (fX5_stop x19 v18).bind fun v21 => fX5_calm_55 p1 p2 fuel v21)))
set_option maxRecDepth 100000 in
set_option maxHeartbeats 4000000 in
theorem kX5_calm_55 {p : Program} {l : Launch} {e : Env} {s : State} {m : MethodId} {args : Array Value} {below : List Frame} {meth : Method} {c : Code} {D : va_G} {A : Nat → Prop} {cI cS cF cZ cJ : ClassId} {ad : Nat → Nat} {X : va_W} {p1 : Int32} {p2 : Int32} (G : cx p s m args meth c cX5_calm 4 wsX5_calm RX5 D (ty5 cI cS cF cZ cJ) A none) : ∀ (fuel : Nat) (v : Mem), sk p l e rmX5_calm s m args below meth c D A 4 0 0 (fun res => MQ below (qv D A (ty5 cI cS cF cZ cJ) (Wr cI cZ ad X) res) args s 0 0 A) (Wr cI cZ ad X v) 55 [(0, .ref (ad 0)), (1, .int p1)] [] (fX5_calm_55 p1 p2 fuel v) := by
  obtain ⟨F, hK, hA, hZ, hr, hlocks⟩ := G
  intro fuel
  induction fuel with
  | zero => intro v; exact sk_none
  | succ fuel ih =>
    intro v
    refine sk_eq (K' := gd (inb p1 2) (bd (fX5_blowing p1 (v 30 p1.toNatClampNeg) v) fun x13 v12 => gd (inb p1 2) (if x13 ≤ (v12 31 p1.toNatClampNeg) then some v12 else gd (inb p1 2) (bd (fX5_longest p1 (v12 30 p1.toNatClampNeg) v12) fun x19 v18 => (fX5_stop x19 v18).bind fun v21 => fX5_calm_55 p1 p2 fuel v21)))) rfl ?_
    refine sk_aload_n F dX5_calm_55 rfl 0 rfl ?_
    refine sk_iload_n F dX5_calm_56 rfl 1 rfl ?_
    refine sk_aload_n F dX5_calm_57 rfl 0 rfl ?_
    refine sk_get (ref := "TunnelWatchModel") F hK (Lr_mem (by decide)) (shR_0 _) rfl iX5_calm_5 30 (by decide) (by decide +kernel) (fun _ h9 => h9) rfl dX5_calm_58 ?_
    refine sk_iload_n F dX5_calm_61 rfl 1 rfl ?_
    refine sk_iald F hK (Lr_mem (by decide)) (shR_30 _) 0 rfl dX5_calm_62 (fun h10 => ?_)
    refine sk_callVi (As := [.int p1, .int (v 30 p1.toNatClampNeg)]) (rest := []) F hK hA hZ _ (tX5_blowing _) (cwV 2 F.2.2.2.2 gX5_calm_X5_blowing rfl rfl rfl (by decide +kernel) ⟨Nat.le_of_ble_eq_true rfl, Nat.le_of_ble_eq_true rfl⟩) (rc5 hK) rfl rfl (Nat.le_of_ble_eq_true rfl) (by decide) dX5_calm_63 (fun x13 v12 c11 => ?_)
    refine sk_aload_n F dX5_calm_66 rfl 0 rfl ?_
    refine sk_get (ref := "TunnelWatchModel") F hK (Lr_mem (by decide)) (shR_0 _) rfl iX5_calm_5 31 (by decide) (by decide +kernel) (fun _ h9 => h9) rfl dX5_calm_67 ?_
    refine sk_iload_n F dX5_calm_70 rfl 1 rfl ?_
    refine sk_iald F hK (Lr_mem (by decide)) (shR_31 _) 0 rfl dX5_calm_71 (fun h14 => ?_)
    refine sk_icmp_le F 93 dX5_calm_72 (by decide) (fun h15 => ?_) (fun h15 => ?_)
    · exact sk_vret F hK hr hlocks dX5_calm_93
    · refine sk_aload_n F dX5_calm_75 rfl 0 rfl ?_
      refine sk_aload_n F dX5_calm_76 rfl 0 rfl ?_
      refine sk_iload_n F dX5_calm_77 rfl 1 rfl ?_
      refine sk_aload_n F dX5_calm_78 rfl 0 rfl ?_
      refine sk_get (ref := "TunnelWatchModel") F hK (Lr_mem (by decide)) (shR_0 _) rfl iX5_calm_5 30 (by decide) (by decide +kernel) (fun _ h9 => h9) rfl dX5_calm_79 ?_
      refine sk_iload_n F dX5_calm_82 rfl 1 rfl ?_
      refine sk_iald F hK (Lr_mem (by decide)) (shR_30 _) 0 rfl dX5_calm_83 (fun h16 => ?_)
      refine sk_callVi (As := [.int p1, .int (v12 30 p1.toNatClampNeg)]) (rest := [.ref (ad 0)]) F hK hA hZ _ (tX5_longest _) (cwV 2 F.2.2.2.2 gX5_calm_X5_longest rfl rfl rfl (by decide +kernel) ⟨Nat.le_of_ble_eq_true rfl, Nat.le_of_ble_eq_true rfl⟩) (rc5 hK) rfl rfl (Nat.le_of_ble_eq_true rfl) (by decide) dX5_calm_84 (fun x19 v18 c17 => ?_)
      refine sk_callVv (As := [.int x19]) (rest := []) F hK hA hZ _ (tX5_stop _) (cwV 1 F.2.2.2.2 gX5_calm_X5_stop rfl rfl rfl (by decide +kernel) ⟨Nat.le_of_ble_eq_true rfl, Nat.le_of_ble_eq_true rfl⟩) (rc5 hK) rfl rfl (Nat.le_of_ble_eq_true rfl) (by decide) dX5_calm_87 (fun v21 c20 => ?_)
      refine sk_goto F 55 dX5_calm_90 (by decide) ?_
      exact ih v21
def fX5_calm_7 (p1 : Int32) (p2 : Int32) : Nat → Mem → Int32 → Option (Mem)
  | 0, _, _ => none
  | fuel + 1, v, l3 => gd (inb p1 2) (if (((14 * p1) + 2) + (v 5 p1.toNatClampNeg)) ≤ l3 then fX5_calm_55 p1 p2 1000 v else if p2 = 0 then fX5_calm_55 p1 p2 1000 v else gd (inb l3 28) (gd (inb p1 2) (if (v 7 l3.toNatClampNeg) = (-(v 30 p1.toNatClampNeg)) then (fX5_stop l3 v).bind fun v8 => fX5_calm_7 p1 p2 fuel v8 (l3 + 1) else fX5_calm_7 p1 p2 fuel v (l3 + 1))))
set_option maxRecDepth 100000 in
set_option maxHeartbeats 4000000 in
theorem kX5_calm_7 {p : Program} {l : Launch} {e : Env} {s : State} {m : MethodId} {args : Array Value} {below : List Frame} {meth : Method} {c : Code} {D : va_G} {A : Nat → Prop} {cI cS cF cZ cJ : ClassId} {ad : Nat → Nat} {X : va_W} {p1 : Int32} {p2 : Int32} (G : cx p s m args meth c cX5_calm 4 wsX5_calm RX5 D (ty5 cI cS cF cZ cJ) A none) : ∀ (fuel : Nat) (v : Mem) (l3 : Int32), sk p l e rmX5_calm s m args below meth c D A 4 0 0 (fun res => MQ below (qv D A (ty5 cI cS cF cZ cJ) (Wr cI cZ ad X) res) args s 0 0 A) (Wr cI cZ ad X v) 7 [(0, .ref (ad 0)), (1, .int p1), (2, .int p2), (3, .int l3)] [] (fX5_calm_7 p1 p2 fuel v l3) := by
  obtain ⟨F, hK, hA, hZ, hr, hlocks⟩ := G
  intro fuel
  induction fuel with
  | zero => intro v l3; exact sk_none
  | succ fuel ih =>
    intro v l3
    refine sk_eq (K' := gd (inb p1 2) (if (((14 * p1) + 2) + (v 5 p1.toNatClampNeg)) ≤ l3 then fX5_calm_55 p1 p2 1000 v else if p2 = 0 then fX5_calm_55 p1 p2 1000 v else gd (inb l3 28) (gd (inb p1 2) (if (v 7 l3.toNatClampNeg) = (-(v 30 p1.toNatClampNeg)) then (fX5_stop l3 v).bind fun v8 => fX5_calm_7 p1 p2 fuel v8 (l3 + 1) else fX5_calm_7 p1 p2 fuel v (l3 + 1))))) rfl ?_
    refine sk_iload_n F dX5_calm_7 rfl 3 rfl ?_
    refine sk_bipush (x := 14) F dX5_calm_8 (by decide) ?_
    refine sk_iload_n F dX5_calm_10 rfl 1 rfl ?_
    refine sk_imul F dX5_calm_11 ?_
    refine sk_iconst (x := 2) F dX5_calm_12 (by decide) ?_
    refine sk_iadd F dX5_calm_13 ?_
    refine sk_aload_n F dX5_calm_14 rfl 0 rfl ?_
    refine sk_get (ref := "TunnelWatchModel") F hK (Lr_mem (by decide)) (shR_0 _) rfl iX5_calm_5 5 (by decide) (by decide +kernel) (fun _ h9 => h9) rfl dX5_calm_15 ?_
    refine sk_iload_n F dX5_calm_18 rfl 1 rfl ?_
    refine sk_iald F hK (Lr_mem (by decide)) (shR_5 _) 0 rfl dX5_calm_19 (fun h1 => ?_)
    refine sk_iadd F dX5_calm_20 ?_
    refine sk_icmp_ge F 55 dX5_calm_21 (by decide) (fun h2 => ?_) (fun h2 => ?_)
    · exact sk_lv [0, 1] rfl (kX5_calm_55 ⟨F, hK, hA, hZ, hr, hlocks⟩ 1000 v)
    · refine sk_iload_n F dX5_calm_24 rfl 2 rfl ?_
      refine sk_if_eq F 55 dX5_calm_25 (by decide) (fun h3 => ?_) (fun h3 => ?_)
      · exact sk_lv [0, 1] rfl (kX5_calm_55 ⟨F, hK, hA, hZ, hr, hlocks⟩ 1000 v)
      · refine sk_aload_n F dX5_calm_28 rfl 0 rfl ?_
        refine sk_get (ref := "TunnelWatchModel") F hK (Lr_mem (by decide)) (shR_0 _) rfl iX5_calm_5 7 (by decide) (by decide +kernel) (fun _ h9 => h9) rfl dX5_calm_29 ?_
        refine sk_iload_n F dX5_calm_32 rfl 3 rfl ?_
        refine sk_iald F hK (Lr_mem (by decide)) (shR_7 _) 0 rfl dX5_calm_33 (fun h4 => ?_)
        refine sk_aload_n F dX5_calm_34 rfl 0 rfl ?_
        refine sk_get (ref := "TunnelWatchModel") F hK (Lr_mem (by decide)) (shR_0 _) rfl iX5_calm_5 30 (by decide) (by decide +kernel) (fun _ h9 => h9) rfl dX5_calm_35 ?_
        refine sk_iload_n F dX5_calm_38 rfl 1 rfl ?_
        refine sk_iald F hK (Lr_mem (by decide)) (shR_30 _) 0 rfl dX5_calm_39 (fun h5 => ?_)
        refine sk_ineg F dX5_calm_40 ?_
        refine sk_icmp_ne F 49 dX5_calm_41 (by decide) (fun h6 => ?_) (fun h6 => ?_)
        · refine sk_iinc (y := l3 + 1) F dX5_calm_49 3 rfl rfl (by decide) rfl ?_
          refine sk_goto F 7 dX5_calm_52 (by decide) ?_
          exact sk_lv [1, 2, 3, 0] rfl (ih v (l3 + 1))
        · refine sk_aload_n F dX5_calm_44 rfl 0 rfl ?_
          refine sk_iload_n F dX5_calm_45 rfl 3 rfl ?_
          refine sk_callVv (As := [.int l3]) (rest := []) F hK hA hZ _ (tX5_stop _) (cwV 1 F.2.2.2.2 gX5_calm_X5_stop rfl rfl rfl (by decide +kernel) ⟨Nat.le_of_ble_eq_true rfl, Nat.le_of_ble_eq_true rfl⟩) (rc5 hK) rfl rfl (Nat.le_of_ble_eq_true rfl) (by decide) dX5_calm_46 (fun v8 c7 => ?_)
          refine sk_iinc (y := l3 + 1) F dX5_calm_49 3 rfl rfl (by decide) rfl ?_
          refine sk_goto F 7 dX5_calm_52 (by decide) ?_
          exact sk_lv [1, 2, 3, 0] rfl (ih v8 (l3 + 1))
def fX5_calm (p1 : Int32) (p2 : Int32) (v : Mem) : Option (Mem) := fX5_calm_7 p1 p2 1000 v ((14 * p1) + 2)
set_option maxRecDepth 100000 in
set_option maxHeartbeats 4000000 in
theorem kX5_calm_0 {p : Program} {l : Launch} {e : Env} {s : State} {m : MethodId} {args : Array Value} {below : List Frame} {meth : Method} {c : Code} {D : va_G} {A : Nat → Prop} {cI cS cF cZ cJ : ClassId} {ad : Nat → Nat} {X : va_W} {p1 : Int32} {p2 : Int32} (G : cx p s m args meth c cX5_calm 4 wsX5_calm RX5 D (ty5 cI cS cF cZ cJ) A none) (v : Mem) : sk p l e rmX5_calm s m args below meth c D A 4 0 0 (fun res => MQ below (qv D A (ty5 cI cS cF cZ cJ) (Wr cI cZ ad X) res) args s 0 0 A) (Wr cI cZ ad X v) 0 [(0, .ref (ad 0)), (1, .int p1), (2, .int p2)] [] (fX5_calm p1 p2 v) := by
  obtain ⟨F, hK, hA, hZ, hr, hlocks⟩ := G
  refine sk_eq (K' := fX5_calm_7 p1 p2 1000 v ((14 * p1) + 2)) rfl ?_
  refine sk_bipush (x := 14) F dX5_calm_0 (by decide) ?_
  refine sk_iload_n F dX5_calm_2 rfl 1 rfl ?_
  refine sk_imul F dX5_calm_3 ?_
  refine sk_iconst (x := 2) F dX5_calm_4 (by decide) ?_
  refine sk_iadd F dX5_calm_5 ?_
  refine sk_istore_n F dX5_calm_6 rfl (by decide) rfl ?_
  exact sk_lv [1, 2, 3, 0] rfl (kX5_calm_7 ⟨F, hK, hA, hZ, hr, hlocks⟩ 1000 v ((14 * p1) + 2))
theorem tX5_calm {l : Launch} {D : va_G} {A : Nat → Prop} {cI cS cF cZ cJ : ClassId} {ad : Nat → Nat} {X : va_W} {p1 : Int32} {p2 : Int32} (v : Mem) : CV l yX5_calm wsX5_calm rmX5_calm D A (ty5 cI cS cF cZ cJ) (Wr cI cZ ad X) [.ref (ad 0), .int p1, .int p2] v (fX5_calm p1 p2 v) :=
  CV_of (cc := cX5_calm) (maxL := 4) (ret := none) (by decide) rfl (Nat.le_of_ble_eq_true rfl) (fun p e s m below meth c G => kX5_calm_0 G v)
def rmX5_loadOf : Room := { frames := 0, cells := 0, slots := 0, locals := 0 }
theorem iX5_loadOf_5 : ∀ w ∈ wsX50, w ∈ wsX5_loadOf := by decide +kernel
def fX5_loadOf_32 (kb4 : Mem → Int32 → Int32 → Option (Int32 × Mem)) (v : Mem) (l1 : Int32) (l2 : Int32) (s0 : Int32) : Option (Int32 × Mem) := if s0 = 0 then kb4 v (l1 + 0) (l2 + 1) else gd (inb l2 28) (if 10 ≤ ((v 0 4) - (v 16 l2.toNatClampNeg)) then gd (inb l2 28) (kb4 v (l1 + (v 12 l2.toNatClampNeg)) (l2 + 1)) else gd (inb l2 28) (kb4 v (l1 + (3 * (v 12 l2.toNatClampNeg))) (l2 + 1)))
set_option maxRecDepth 100000 in
set_option maxHeartbeats 4000000 in
theorem kX5_loadOf_32 {p : Program} {l : Launch} {e : Env} {s : State} {m : MethodId} {args : Array Value} {below : List Frame} {meth : Method} {c : Code} {D : va_G} {A : Nat → Prop} {cI cS cF cZ cJ : ClassId} {ad : Nat → Nat} {X : va_W} {kb4 : Mem → Int32 → Int32 → Option (Int32 × Mem)} (G : cx p s m args meth c cX5_loadOf 4 wsX5_loadOf RX5 D (ty5 cI cS cF cZ cJ) A (some .int)) (hkb4 : ∀ (v : Mem) (l1 : Int32) (l2 : Int32), sk p l e rmX5_loadOf s m args below meth c D A 4 0 0 (fun res => MQ below (qi D A (ty5 cI cS cF cZ cJ) (Wr cI cZ ad X) res) args s 0 0 A) (Wr cI cZ ad X v) 4 [(0, .ref (ad 0)), (1, .int l1), (2, .int l2)] [] (kb4 v l1 l2)) (v : Mem) (l1 : Int32) (l2 : Int32) (s0 : Int32) : sk p l e rmX5_loadOf s m args below meth c D A 4 0 0 (fun res => MQ below (qi D A (ty5 cI cS cF cZ cJ) (Wr cI cZ ad X) res) args s 0 0 A) (Wr cI cZ ad X v) 32 [(0, .ref (ad 0)), (1, .int l1), (2, .int l2)] [.int s0] (fX5_loadOf_32 kb4 v l1 l2 s0) := by
  obtain ⟨F, hK, hA, hZ, hr, hlocks⟩ := G
  refine sk_eq (K' := if s0 = 0 then kb4 v (l1 + 0) (l2 + 1) else gd (inb l2 28) (if 10 ≤ ((v 0 4) - (v 16 l2.toNatClampNeg)) then gd (inb l2 28) (kb4 v (l1 + (v 12 l2.toNatClampNeg)) (l2 + 1)) else gd (inb l2 28) (kb4 v (l1 + (3 * (v 12 l2.toNatClampNeg))) (l2 + 1)))) rfl ?_
  refine sk_istore_n F dX5_loadOf_32 rfl (by decide) rfl ?_
  refine sk_iload_n F dX5_loadOf_33 rfl 2 rfl ?_
  refine sk_iload_n F dX5_loadOf_34 rfl 0 rfl ?_
  refine sk_if_ne F 42 dX5_loadOf_35 (by decide) (fun h5 => ?_) (fun h5 => ?_)
  · refine sk_aload_n F dX5_loadOf_42 rfl 1 rfl ?_
    refine sk_get (ref := "TunnelWatchModel") F hK (Lr_mem (by decide)) (shR_0 _) rfl iX5_loadOf_5 4 (by decide) (by decide +kernel) (fun _ h9 => h9) rfl dX5_loadOf_43 ?_
    refine sk_aload_n F dX5_loadOf_46 rfl 1 rfl ?_
    refine sk_get (ref := "TunnelWatchModel") F hK (Lr_mem (by decide)) (shR_0 _) rfl iX5_loadOf_5 16 (by decide) (by decide +kernel) (fun _ h9 => h9) rfl dX5_loadOf_47 ?_
    refine sk_iload_n F dX5_loadOf_50 rfl 3 rfl ?_
    refine sk_iald F hK (Lr_mem (by decide)) (shR_16 _) 0 rfl dX5_loadOf_51 (fun h6 => ?_)
    refine sk_isub F dX5_loadOf_52 ?_
    refine sk_bipush (x := 10) F dX5_loadOf_53 (by decide) ?_
    refine sk_icmp_ge F 69 dX5_loadOf_55 (by decide) (fun h7 => ?_) (fun h7 => ?_)
    · refine sk_aload_n F dX5_loadOf_69 rfl 1 rfl ?_
      refine sk_get (ref := "TunnelWatchModel") F hK (Lr_mem (by decide)) (shR_0 _) rfl iX5_loadOf_5 12 (by decide) (by decide +kernel) (fun _ h9 => h9) rfl dX5_loadOf_70 ?_
      refine sk_iload_n F dX5_loadOf_73 rfl 3 rfl ?_
      refine sk_iald F hK (Lr_mem (by decide)) (shR_12 _) 0 rfl dX5_loadOf_74 (fun h8 => ?_)
      refine sk_iadd F dX5_loadOf_75 ?_
      refine sk_istore_n F dX5_loadOf_76 rfl (by decide) rfl ?_
      refine sk_iinc (y := l2 + 1) F dX5_loadOf_77 3 rfl rfl (by decide) rfl ?_
      refine sk_goto F 4 dX5_loadOf_80 (by decide) ?_
      exact sk_lv [3, 1, 0] rfl (hkb4 v (l1 + (v 12 l2.toNatClampNeg)) (l2 + 1))
    · refine sk_iconst (x := 3) F dX5_loadOf_58 (by decide) ?_
      refine sk_aload_n F dX5_loadOf_59 rfl 1 rfl ?_
      refine sk_get (ref := "TunnelWatchModel") F hK (Lr_mem (by decide)) (shR_0 _) rfl iX5_loadOf_5 12 (by decide) (by decide +kernel) (fun _ h9 => h9) rfl dX5_loadOf_60 ?_
      refine sk_iload_n F dX5_loadOf_63 rfl 3 rfl ?_
      refine sk_iald F hK (Lr_mem (by decide)) (shR_12 _) 0 rfl dX5_loadOf_64 (fun h9 => ?_)
      refine sk_imul F dX5_loadOf_65 ?_
      refine sk_goto F 75 dX5_loadOf_66 (by decide) ?_
      refine sk_iadd F dX5_loadOf_75 ?_
      refine sk_istore_n F dX5_loadOf_76 rfl (by decide) rfl ?_
      refine sk_iinc (y := l2 + 1) F dX5_loadOf_77 3 rfl rfl (by decide) rfl ?_
      refine sk_goto F 4 dX5_loadOf_80 (by decide) ?_
      exact sk_lv [3, 1, 0] rfl (hkb4 v (l1 + (3 * (v 12 l2.toNatClampNeg))) (l2 + 1))
  · refine sk_iconst (x := 0) F dX5_loadOf_38 (by decide) ?_
    refine sk_goto F 75 dX5_loadOf_39 (by decide) ?_
    refine sk_iadd F dX5_loadOf_75 ?_
    refine sk_istore_n F dX5_loadOf_76 rfl (by decide) rfl ?_
    refine sk_iinc (y := l2 + 1) F dX5_loadOf_77 3 rfl rfl (by decide) rfl ?_
    refine sk_goto F 4 dX5_loadOf_80 (by decide) ?_
    exact sk_lv [3, 1, 0] rfl (hkb4 v (l1 + 0) (l2 + 1))
def fX5_loadOf_31 (kb4 : Mem → Int32 → Int32 → Option (Int32 × Mem)) (v : Mem) (l1 : Int32) (l2 : Int32) : Option (Int32 × Mem) := fX5_loadOf_32 kb4 v l1 l2 0
set_option maxRecDepth 100000 in
set_option maxHeartbeats 4000000 in
theorem kX5_loadOf_31 {p : Program} {l : Launch} {e : Env} {s : State} {m : MethodId} {args : Array Value} {below : List Frame} {meth : Method} {c : Code} {D : va_G} {A : Nat → Prop} {cI cS cF cZ cJ : ClassId} {ad : Nat → Nat} {X : va_W} {kb4 : Mem → Int32 → Int32 → Option (Int32 × Mem)} (G : cx p s m args meth c cX5_loadOf 4 wsX5_loadOf RX5 D (ty5 cI cS cF cZ cJ) A (some .int)) (hkb4 : ∀ (v : Mem) (l1 : Int32) (l2 : Int32), sk p l e rmX5_loadOf s m args below meth c D A 4 0 0 (fun res => MQ below (qi D A (ty5 cI cS cF cZ cJ) (Wr cI cZ ad X) res) args s 0 0 A) (Wr cI cZ ad X v) 4 [(0, .ref (ad 0)), (1, .int l1), (2, .int l2)] [] (kb4 v l1 l2)) (v : Mem) (l1 : Int32) (l2 : Int32) : sk p l e rmX5_loadOf s m args below meth c D A 4 0 0 (fun res => MQ below (qi D A (ty5 cI cS cF cZ cJ) (Wr cI cZ ad X) res) args s 0 0 A) (Wr cI cZ ad X v) 31 [(0, .ref (ad 0)), (1, .int l1), (2, .int l2)] [] (fX5_loadOf_31 kb4 v l1 l2) := by
  obtain ⟨F, hK, hA, hZ, hr, hlocks⟩ := G
  refine sk_eq (K' := fX5_loadOf_32 kb4 v l1 l2 0) rfl ?_
  refine sk_iconst (x := 0) F dX5_loadOf_31 (by decide) ?_
  exact kX5_loadOf_32 ⟨F, hK, hA, hZ, hr, hlocks⟩ hkb4 v l1 l2 0
def fX5_loadOf_4 : Nat → Mem → Int32 → Int32 → Option (Int32 × Mem)
  | 0, _, _, _ => none
  | fuel + 1, v, l1, l2 => if 28 ≤ l2 then some (l1, v) else if (l2 - l2 / 14 * 14) ≤ 1 then fX5_loadOf_31 (fun v l1 l2 => fX5_loadOf_4 fuel v l1 l2) v l1 l2 else gd (inb l2 28) (if (v 7 l2.toNatClampNeg) = 0 then fX5_loadOf_31 (fun v l1 l2 => fX5_loadOf_4 fuel v l1 l2) v l1 l2 else fX5_loadOf_32 (fun v l1 l2 => fX5_loadOf_4 fuel v l1 l2) v l1 l2 1)
set_option maxRecDepth 100000 in
set_option maxHeartbeats 4000000 in
theorem kX5_loadOf_4 {p : Program} {l : Launch} {e : Env} {s : State} {m : MethodId} {args : Array Value} {below : List Frame} {meth : Method} {c : Code} {D : va_G} {A : Nat → Prop} {cI cS cF cZ cJ : ClassId} {ad : Nat → Nat} {X : va_W} (G : cx p s m args meth c cX5_loadOf 4 wsX5_loadOf RX5 D (ty5 cI cS cF cZ cJ) A (some .int)) : ∀ (fuel : Nat) (v : Mem) (l1 : Int32) (l2 : Int32), sk p l e rmX5_loadOf s m args below meth c D A 4 0 0 (fun res => MQ below (qi D A (ty5 cI cS cF cZ cJ) (Wr cI cZ ad X) res) args s 0 0 A) (Wr cI cZ ad X v) 4 [(0, .ref (ad 0)), (1, .int l1), (2, .int l2)] [] (fX5_loadOf_4 fuel v l1 l2) := by
  obtain ⟨F, hK, hA, hZ, hr, hlocks⟩ := G
  intro fuel
  induction fuel with
  | zero => intro v l1 l2; exact sk_none
  | succ fuel ih =>
    intro v l1 l2
    refine sk_eq (K' := if 28 ≤ l2 then some (l1, v) else if (l2 - l2 / 14 * 14) ≤ 1 then fX5_loadOf_31 (fun v l1 l2 => fX5_loadOf_4 fuel v l1 l2) v l1 l2 else gd (inb l2 28) (if (v 7 l2.toNatClampNeg) = 0 then fX5_loadOf_31 (fun v l1 l2 => fX5_loadOf_4 fuel v l1 l2) v l1 l2 else fX5_loadOf_32 (fun v l1 l2 => fX5_loadOf_4 fuel v l1 l2) v l1 l2 1)) rfl ?_
    refine sk_iload_n F dX5_loadOf_4 rfl 2 rfl ?_
    refine sk_bipush (x := 28) F dX5_loadOf_5 (by decide) ?_
    refine sk_icmp_ge F 83 dX5_loadOf_7 (by decide) (fun h1 => ?_) (fun h1 => ?_)
    · refine sk_iload_n F dX5_loadOf_83 rfl 1 rfl ?_
      exact sk_iret F hK hr hlocks dX5_loadOf_84
    · refine sk_iload_n F dX5_loadOf_10 rfl 2 rfl ?_
      refine sk_bipush (x := 14) F dX5_loadOf_11 (by decide) ?_
      refine sk_irem F dX5_loadOf_13 (by decide) ?_
      refine sk_iconst (x := 1) F dX5_loadOf_14 (by decide) ?_
      refine sk_icmp_le F 31 dX5_loadOf_15 (by decide) (fun h2 => ?_) (fun h2 => ?_)
      · exact kX5_loadOf_31 ⟨F, hK, hA, hZ, hr, hlocks⟩ ih v l1 l2
      · refine sk_aload_n F dX5_loadOf_18 rfl 0 rfl ?_
        refine sk_get (ref := "TunnelWatchModel") F hK (Lr_mem (by decide)) (shR_0 _) rfl iX5_loadOf_5 7 (by decide) (by decide +kernel) (fun _ h9 => h9) rfl dX5_loadOf_19 ?_
        refine sk_iload_n F dX5_loadOf_22 rfl 2 rfl ?_
        refine sk_iald F hK (Lr_mem (by decide)) (shR_7 _) 0 rfl dX5_loadOf_23 (fun h3 => ?_)
        refine sk_if_eq F 31 dX5_loadOf_24 (by decide) (fun h4 => ?_) (fun h4 => ?_)
        · exact kX5_loadOf_31 ⟨F, hK, hA, hZ, hr, hlocks⟩ ih v l1 l2
        · refine sk_iconst (x := 1) F dX5_loadOf_27 (by decide) ?_
          refine sk_goto F 32 dX5_loadOf_28 (by decide) ?_
          exact kX5_loadOf_32 ⟨F, hK, hA, hZ, hr, hlocks⟩ ih v l1 l2 1
def fX5_loadOf (v : Mem) : Option (Int32 × Mem) := fX5_loadOf_4 1000 v 0 0
set_option maxRecDepth 100000 in
set_option maxHeartbeats 4000000 in
theorem kX5_loadOf_0 {p : Program} {l : Launch} {e : Env} {s : State} {m : MethodId} {args : Array Value} {below : List Frame} {meth : Method} {c : Code} {D : va_G} {A : Nat → Prop} {cI cS cF cZ cJ : ClassId} {ad : Nat → Nat} {X : va_W} (G : cx p s m args meth c cX5_loadOf 4 wsX5_loadOf RX5 D (ty5 cI cS cF cZ cJ) A (some .int)) (v : Mem) : sk p l e rmX5_loadOf s m args below meth c D A 4 0 0 (fun res => MQ below (qi D A (ty5 cI cS cF cZ cJ) (Wr cI cZ ad X) res) args s 0 0 A) (Wr cI cZ ad X v) 0 [(0, .ref (ad 0))] [] (fX5_loadOf v) := by
  obtain ⟨F, hK, hA, hZ, hr, hlocks⟩ := G
  refine sk_eq (K' := fX5_loadOf_4 1000 v 0 0) rfl ?_
  refine sk_iconst (x := 0) F dX5_loadOf_0 (by decide) ?_
  refine sk_istore_n F dX5_loadOf_1 rfl (by decide) rfl ?_
  refine sk_iconst (x := 0) F dX5_loadOf_2 (by decide) ?_
  refine sk_istore_n F dX5_loadOf_3 rfl (by decide) rfl ?_
  exact sk_lv [2, 1, 0] rfl (kX5_loadOf_4 ⟨F, hK, hA, hZ, hr, hlocks⟩ 1000 v 0 0)
theorem tX5_loadOf {l : Launch} {D : va_G} {A : Nat → Prop} {cI cS cF cZ cJ : ClassId} {ad : Nat → Nat} {X : va_W} (v : Mem) : CI l yX5_loadOf wsX5_loadOf rmX5_loadOf D A (ty5 cI cS cF cZ cJ) (Wr cI cZ ad X) [.ref (ad 0)] v (fX5_loadOf v) :=
  CI_of (cc := cX5_loadOf) (maxL := 4) (ret := (some .int)) (by decide) rfl (Nat.le_of_ble_eq_true rfl) (fun p e s m below meth c G => kX5_loadOf_0 G v)
def rmX5_relieve : Room := { frames := 2, cells := 0, slots := 0, locals := 43 }
theorem iX5_relieve_5 : ∀ w ∈ wsX50, w ∈ wsX5_relieve := by decide +kernel
def fX5_relieve_35 (kb0 : Mem → Option (Mem)) (p1 : Int32) (v : Mem) (s0 : Int32) : Option (Mem) := (fX5_stop s0 v).bind fun v13 => kb0 v13
set_option maxRecDepth 100000 in
set_option maxHeartbeats 4000000 in
theorem kX5_relieve_35 {p : Program} {l : Launch} {e : Env} {s : State} {m : MethodId} {args : Array Value} {below : List Frame} {meth : Method} {c : Code} {D : va_G} {A : Nat → Prop} {cI cS cF cZ cJ : ClassId} {ad : Nat → Nat} {X : va_W} {p1 : Int32} {kb0 : Mem → Option (Mem)} (G : cx p s m args meth c cX5_relieve 3 wsX5_relieve RX5 D (ty5 cI cS cF cZ cJ) A none) (hkb0 : ∀ (v : Mem), sk p l e rmX5_relieve s m args below meth c D A 3 0 0 (fun res => MQ below (qv D A (ty5 cI cS cF cZ cJ) (Wr cI cZ ad X) res) args s 0 0 A) (Wr cI cZ ad X v) 0 [(0, .ref (ad 0)), (1, .int p1)] [] (kb0 v)) (v : Mem) (s0 : Int32) : sk p l e rmX5_relieve s m args below meth c D A 3 0 0 (fun res => MQ below (qv D A (ty5 cI cS cF cZ cJ) (Wr cI cZ ad X) res) args s 0 0 A) (Wr cI cZ ad X v) 35 [(0, .ref (ad 0)), (1, .int p1)] [.int s0, .ref (ad 0)] (fX5_relieve_35 kb0 p1 v s0) := by
  obtain ⟨F, hK, hA, hZ, hr, hlocks⟩ := G
  refine sk_eq (K' := (fX5_stop s0 v).bind fun v13 => kb0 v13) rfl ?_
  refine sk_callVv (As := [.int s0]) (rest := []) F hK hA hZ _ (tX5_stop _) (cwV 1 F.2.2.2.2 gX5_relieve_X5_stop rfl rfl rfl (by decide +kernel) ⟨Nat.le_of_ble_eq_true rfl, Nat.le_of_ble_eq_true rfl⟩) (rc5 hK) rfl rfl (Nat.le_of_ble_eq_true rfl) (by decide) dX5_relieve_35 (fun v13 c12 => ?_)
  refine sk_goto F 0 dX5_relieve_38 (by decide) ?_
  exact hkb0 v13
def fX5_relieve_0 (p1 : Int32) : Nat → Mem → Option (Mem)
  | 0, _ => none
  | fuel + 1, v => bd (fX5_loadOf v) fun x3 v2 => if x3 ≤ (v2 0 3) then some v2 else bd (fX5_longest p1 0 v2) fun x7 v6 => if 0 ≤ x7 then fX5_relieve_35 (fun v => fX5_relieve_0 p1 fuel v) p1 v6 x7 else bd (fX5_longest (1 - p1) 0 v6) fun x11 v10 => fX5_relieve_35 (fun v => fX5_relieve_0 p1 fuel v) p1 v10 x11
set_option maxRecDepth 100000 in
set_option maxHeartbeats 4000000 in
theorem kX5_relieve_0 {p : Program} {l : Launch} {e : Env} {s : State} {m : MethodId} {args : Array Value} {below : List Frame} {meth : Method} {c : Code} {D : va_G} {A : Nat → Prop} {cI cS cF cZ cJ : ClassId} {ad : Nat → Nat} {X : va_W} {p1 : Int32} (G : cx p s m args meth c cX5_relieve 3 wsX5_relieve RX5 D (ty5 cI cS cF cZ cJ) A none) : ∀ (fuel : Nat) (v : Mem), sk p l e rmX5_relieve s m args below meth c D A 3 0 0 (fun res => MQ below (qv D A (ty5 cI cS cF cZ cJ) (Wr cI cZ ad X) res) args s 0 0 A) (Wr cI cZ ad X v) 0 [(0, .ref (ad 0)), (1, .int p1)] [] (fX5_relieve_0 p1 fuel v) := by
  obtain ⟨F, hK, hA, hZ, hr, hlocks⟩ := G
  intro fuel
  induction fuel with
  | zero => intro v; exact sk_none
  | succ fuel ih =>
    intro v
    refine sk_eq (K' := bd (fX5_loadOf v) fun x3 v2 => if x3 ≤ (v2 0 3) then some v2 else bd (fX5_longest p1 0 v2) fun x7 v6 => if 0 ≤ x7 then fX5_relieve_35 (fun v => fX5_relieve_0 p1 fuel v) p1 v6 x7 else bd (fX5_longest (1 - p1) 0 v6) fun x11 v10 => fX5_relieve_35 (fun v => fX5_relieve_0 p1 fuel v) p1 v10 x11) rfl ?_
    refine sk_aload_n F dX5_relieve_0 rfl 0 rfl ?_
    refine sk_callVi (As := []) (rest := []) F hK hA hZ _ (tX5_loadOf _) (cwV 0 F.2.2.2.2 gX5_relieve_X5_loadOf rfl rfl rfl (by decide +kernel) ⟨Nat.le_of_ble_eq_true rfl, Nat.le_of_ble_eq_true rfl⟩) (rc5 hK) rfl rfl (Nat.le_of_ble_eq_true rfl) (by decide) dX5_relieve_1 (fun x3 v2 c1 => ?_)
    refine sk_aload_n F dX5_relieve_4 rfl 0 rfl ?_
    refine sk_get (ref := "TunnelWatchModel") F hK (Lr_mem (by decide)) (shR_0 _) rfl iX5_relieve_5 3 (by decide) (by decide +kernel) (fun _ h9 => h9) rfl dX5_relieve_5 ?_
    refine sk_icmp_le F 41 dX5_relieve_8 (by decide) (fun h4 => ?_) (fun h4 => ?_)
    · exact sk_vret F hK hr hlocks dX5_relieve_41
    · refine sk_aload_n F dX5_relieve_11 rfl 0 rfl ?_
      refine sk_iload_n F dX5_relieve_12 rfl 1 rfl ?_
      refine sk_iconst (x := 0) F dX5_relieve_13 (by decide) ?_
      refine sk_callVi (As := [.int p1, .int 0]) (rest := []) F hK hA hZ _ (tX5_longest _) (cwV 2 F.2.2.2.2 gX5_relieve_X5_longest rfl rfl rfl (by decide +kernel) ⟨Nat.le_of_ble_eq_true rfl, Nat.le_of_ble_eq_true rfl⟩) (rc5 hK) rfl rfl (Nat.le_of_ble_eq_true rfl) (by decide) dX5_relieve_14 (fun x7 v6 c5 => ?_)
      refine sk_istore_n F dX5_relieve_17 rfl (by decide) rfl ?_
      refine sk_aload_n F dX5_relieve_18 rfl 1 rfl ?_
      refine sk_iload_n F dX5_relieve_19 rfl 0 rfl ?_
      refine sk_if_ge F 34 dX5_relieve_20 (by decide) (fun h8 => ?_) (fun h8 => ?_)
      · refine sk_iload_n F dX5_relieve_34 rfl 0 rfl ?_
        exact sk_lv [1, 2] rfl (kX5_relieve_35 ⟨F, hK, hA, hZ, hr, hlocks⟩ ih v6 x7)
      · refine sk_aload_n F dX5_relieve_23 rfl 1 rfl ?_
        refine sk_iconst (x := 1) F dX5_relieve_24 (by decide) ?_
        refine sk_iload_n F dX5_relieve_25 rfl 2 rfl ?_
        refine sk_isub F dX5_relieve_26 ?_
        refine sk_iconst (x := 0) F dX5_relieve_27 (by decide) ?_
        refine sk_callVi (As := [.int (1 - p1), .int 0]) (rest := [.ref (ad 0)]) F hK hA hZ _ (tX5_longest _) (cwV 2 F.2.2.2.2 gX5_relieve_X5_longest rfl rfl rfl (by decide +kernel) ⟨Nat.le_of_ble_eq_true rfl, Nat.le_of_ble_eq_true rfl⟩) (rc5 hK) rfl rfl (Nat.le_of_ble_eq_true rfl) (by decide) dX5_relieve_28 (fun x11 v10 c9 => ?_)
        refine sk_goto F 35 dX5_relieve_31 (by decide) ?_
        exact sk_lv [1, 2] rfl (kX5_relieve_35 ⟨F, hK, hA, hZ, hr, hlocks⟩ ih v10 x11)
def fX5_relieve (p1 : Int32) (v : Mem) : Option (Mem) := fX5_relieve_0 p1 1000 v
theorem tX5_relieve {l : Launch} {D : va_G} {A : Nat → Prop} {cI cS cF cZ cJ : ClassId} {ad : Nat → Nat} {X : va_W} {p1 : Int32} (v : Mem) : CV l yX5_relieve wsX5_relieve rmX5_relieve D A (ty5 cI cS cF cZ cJ) (Wr cI cZ ad X) [.ref (ad 0), .int p1] v (fX5_relieve p1 v) :=
  CV_of (cc := cX5_relieve) (maxL := 3) (ret := none) (by decide) rfl (Nat.le_of_ble_eq_true rfl) (fun p e s m below meth c G => kX5_relieve_0 G 1000 v)
