def rmX5_startsOf : Room := { frames := 0, cells := 0, slots := 0, locals := 0 }
theorem iX5_startsOf_5 : ∀ w ∈ wsX50, w ∈ wsX5_startsOf := by decide +kernel
def fX5_startsOf_23 : Nat → Mem → Int32 → Int32 → Option (Int32 × Mem)
  | 0, _, _, _ => none
  | fuel + 1, v, l1, l2 => if (v 0 4) < l2 then some (l1, v) else gd (inb l2 20001) (fX5_startsOf_23 fuel v (l1 + (v 32 l2.toNatClampNeg)) (l2 + 1))
set_option maxRecDepth 100000 in
set_option maxHeartbeats 4000000 in
theorem kX5_startsOf_23 {p : Program} {l : Launch} {e : Env} {s : State} {m : MethodId} {args : Array Value} {below : List Frame} {meth : Method} {c : Code} {D : va_G} {A : Nat → Prop} {cI cS cF cZ cJ : ClassId} {ad : Nat → Nat} {X : va_W} (G : cx p s m args meth c cX5_startsOf 3 wsX5_startsOf RX5 D (ty5 cI cS cF cZ cJ) A (some .int)) : ∀ (fuel : Nat) (v : Mem) (l1 : Int32) (l2 : Int32), sk p l e rmX5_startsOf s m args below meth c D A 3 0 0 (fun res => MQ below (qi D A (ty5 cI cS cF cZ cJ) (Wr cI cZ ad X) res) args s 0 0 A) (Wr cI cZ ad X v) 23 [(0, .ref (ad 0)), (1, .int l1), (2, .int l2)] [] (fX5_startsOf_23 fuel v l1 l2) := by
  obtain ⟨F, hK, hA, hZ, hr, hlocks⟩ := G
  intro fuel
  induction fuel with
  | zero => intro v l1 l2; exact sk_none
  | succ fuel ih =>
    intro v l1 l2
    refine sk_eq (K' := if (v 0 4) < l2 then some (l1, v) else gd (inb l2 20001) (fX5_startsOf_23 fuel v (l1 + (v 32 l2.toNatClampNeg)) (l2 + 1))) rfl ?_
    refine sk_iload_n F dX5_startsOf_23 rfl 2 rfl ?_
    refine sk_aload_n F dX5_startsOf_24 rfl 0 rfl ?_
    refine sk_get (ref := "TunnelWatchModel") F hK (Lr_mem (by decide)) (shR_0 _) rfl iX5_startsOf_5 4 (by decide) (by decide +kernel) (fun _ h9 => h9) rfl dX5_startsOf_25 ?_
    refine sk_icmp_gt F 46 dX5_startsOf_28 (by decide) (fun h2 => ?_) (fun h2 => ?_)
    · refine sk_iload_n F dX5_startsOf_46 rfl 1 rfl ?_
      exact sk_iret F hK hr hlocks dX5_startsOf_47
    · refine sk_iload_n F dX5_startsOf_31 rfl 1 rfl ?_
      refine sk_aload_n F dX5_startsOf_32 rfl 0 rfl ?_
      refine sk_get (ref := "TunnelWatchModel") F hK (Lr_mem (by decide)) (shR_0 _) rfl iX5_startsOf_5 32 (by decide) (by decide +kernel) (fun _ h9 => h9) rfl dX5_startsOf_33 ?_
      refine sk_iload_n F dX5_startsOf_36 rfl 2 rfl ?_
      refine sk_iald F hK (Lr_mem (by decide)) (shR_32 _) 0 rfl dX5_startsOf_37 (fun h3 => ?_)
      refine sk_iadd F dX5_startsOf_38 ?_
      refine sk_istore_n F dX5_startsOf_39 rfl (by decide) rfl ?_
      refine sk_iinc (y := l2 + 1) F dX5_startsOf_40 2 rfl rfl (by decide) rfl ?_
      refine sk_goto F 23 dX5_startsOf_43 (by decide) ?_
      exact sk_lv [2, 1, 0] rfl (ih v (l1 + (v 32 l2.toNatClampNeg)) (l2 + 1))
def fX5_startsOf_22 (v : Mem) (l1 : Int32) (s0 : Int32) : Option (Int32 × Mem) := fX5_startsOf_23 1000 v l1 s0
set_option maxRecDepth 100000 in
set_option maxHeartbeats 4000000 in
theorem kX5_startsOf_22 {p : Program} {l : Launch} {e : Env} {s : State} {m : MethodId} {args : Array Value} {below : List Frame} {meth : Method} {c : Code} {D : va_G} {A : Nat → Prop} {cI cS cF cZ cJ : ClassId} {ad : Nat → Nat} {X : va_W} (G : cx p s m args meth c cX5_startsOf 3 wsX5_startsOf RX5 D (ty5 cI cS cF cZ cJ) A (some .int)) (v : Mem) (l1 : Int32) (s0 : Int32) : sk p l e rmX5_startsOf s m args below meth c D A 3 0 0 (fun res => MQ below (qi D A (ty5 cI cS cF cZ cJ) (Wr cI cZ ad X) res) args s 0 0 A) (Wr cI cZ ad X v) 22 [(0, .ref (ad 0)), (1, .int l1)] [.int s0] (fX5_startsOf_22 v l1 s0) := by
  obtain ⟨F, hK, hA, hZ, hr, hlocks⟩ := G
  refine sk_eq (K' := fX5_startsOf_23 1000 v l1 s0) rfl ?_
  refine sk_istore_n F dX5_startsOf_22 rfl (by decide) rfl ?_
  exact sk_lv [1, 2, 0] rfl (kX5_startsOf_23 ⟨F, hK, hA, hZ, hr, hlocks⟩ 1000 v l1 s0)
def fX5_startsOf (v : Mem) : Option (Int32 × Mem) := if 10 ≤ (v 0 4) then fX5_startsOf_22 v 0 ((v 0 4) - 9) else fX5_startsOf_22 v 0 0
set_option maxRecDepth 100000 in
set_option maxHeartbeats 4000000 in
theorem kX5_startsOf_0 {p : Program} {l : Launch} {e : Env} {s : State} {m : MethodId} {args : Array Value} {below : List Frame} {meth : Method} {c : Code} {D : va_G} {A : Nat → Prop} {cI cS cF cZ cJ : ClassId} {ad : Nat → Nat} {X : va_W} (G : cx p s m args meth c cX5_startsOf 3 wsX5_startsOf RX5 D (ty5 cI cS cF cZ cJ) A (some .int)) (v : Mem) : sk p l e rmX5_startsOf s m args below meth c D A 3 0 0 (fun res => MQ below (qi D A (ty5 cI cS cF cZ cJ) (Wr cI cZ ad X) res) args s 0 0 A) (Wr cI cZ ad X v) 0 [(0, .ref (ad 0))] [] (fX5_startsOf v) := by
  obtain ⟨F, hK, hA, hZ, hr, hlocks⟩ := G
  refine sk_eq (K' := if 10 ≤ (v 0 4) then fX5_startsOf_22 v 0 ((v 0 4) - 9) else fX5_startsOf_22 v 0 0) rfl ?_
  refine sk_iconst (x := 0) F dX5_startsOf_0 (by decide) ?_
  refine sk_istore_n F dX5_startsOf_1 rfl (by decide) rfl ?_
  refine sk_aload_n F dX5_startsOf_2 rfl 1 rfl ?_
  refine sk_get (ref := "TunnelWatchModel") F hK (Lr_mem (by decide)) (shR_0 _) rfl iX5_startsOf_5 4 (by decide) (by decide +kernel) (fun _ h9 => h9) rfl dX5_startsOf_3 ?_
  refine sk_bipush (x := 10) F dX5_startsOf_6 (by decide) ?_
  refine sk_icmp_ge F 15 dX5_startsOf_8 (by decide) (fun h1 => ?_) (fun h1 => ?_)
  · refine sk_aload_n F dX5_startsOf_15 rfl 1 rfl ?_
    refine sk_get (ref := "TunnelWatchModel") F hK (Lr_mem (by decide)) (shR_0 _) rfl iX5_startsOf_5 4 (by decide) (by decide +kernel) (fun _ h9 => h9) rfl dX5_startsOf_16 ?_
    refine sk_bipush (x := 9) F dX5_startsOf_19 (by decide) ?_
    refine sk_isub F dX5_startsOf_21 ?_
    exact sk_lv [1, 0] rfl (kX5_startsOf_22 ⟨F, hK, hA, hZ, hr, hlocks⟩ v 0 ((v 0 4) - 9))
  · refine sk_iconst (x := 0) F dX5_startsOf_11 (by decide) ?_
    refine sk_goto F 22 dX5_startsOf_12 (by decide) ?_
    exact sk_lv [1, 0] rfl (kX5_startsOf_22 ⟨F, hK, hA, hZ, hr, hlocks⟩ v 0 0)
theorem tX5_startsOf {l : Launch} {D : va_G} {A : Nat → Prop} {cI cS cF cZ cJ : ClassId} {ad : Nat → Nat} {X : va_W} (v : Mem) : CI l yX5_startsOf wsX5_startsOf rmX5_startsOf D A (ty5 cI cS cF cZ cJ) (Wr cI cZ ad X) [.ref (ad 0)] v (fX5_startsOf v) :=
  CI_of (cc := cX5_startsOf) (maxL := 3) (ret := (some .int)) (by decide) rfl (Nat.le_of_ble_eq_true rfl) (fun p e s m below meth c G => kX5_startsOf_0 G v)
def rmX5_hasRested : Room := { frames := 0, cells := 0, slots := 0, locals := 0 }
theorem iX5_hasRested_5 : ∀ w ∈ wsX50, w ∈ wsX5_hasRested := by decide +kernel
def fX5_hasRested (p1 : Int32) (p2 : Int32) (v : Mem) : Option (Int32 × Mem) := gd (inb p1 28) (if (v 14 p1.toNatClampNeg) = 0 then some (1, v) else gd (inb p1 28) (if (v 14 p1.toNatClampNeg) = p2 then some (1, v) else gd (inb p1 28) (if ((v 0 4) - (v 15 p1.toNatClampNeg)) < (v 0 2) then some (0, v) else some (1, v))))
set_option maxRecDepth 100000 in
set_option maxHeartbeats 4000000 in
theorem kX5_hasRested_0 {p : Program} {l : Launch} {e : Env} {s : State} {m : MethodId} {args : Array Value} {below : List Frame} {meth : Method} {c : Code} {D : va_G} {A : Nat → Prop} {cI cS cF cZ cJ : ClassId} {ad : Nat → Nat} {X : va_W} {p1 : Int32} {p2 : Int32} (G : cx p s m args meth c cX5_hasRested 3 wsX5_hasRested RX5 D (ty5 cI cS cF cZ cJ) A (some .boolean)) (v : Mem) : sk p l e rmX5_hasRested s m args below meth c D A 3 0 0 (fun res => MQ below (qi D A (ty5 cI cS cF cZ cJ) (Wr cI cZ ad X) res) args s 0 0 A) (Wr cI cZ ad X v) 0 [(0, .ref (ad 0)), (1, .int p1), (2, .int p2)] [] (fX5_hasRested p1 p2 v) := by
  obtain ⟨F, hK, hA, hZ, hr, hlocks⟩ := G
  refine sk_eq (K' := gd (inb p1 28) (if (v 14 p1.toNatClampNeg) = 0 then some (1, v) else gd (inb p1 28) (if (v 14 p1.toNatClampNeg) = p2 then some (1, v) else gd (inb p1 28) (if ((v 0 4) - (v 15 p1.toNatClampNeg)) < (v 0 2) then some (0, v) else some (1, v))))) rfl ?_
  refine sk_aload_n F dX5_hasRested_0 rfl 0 rfl ?_
  refine sk_get (ref := "TunnelWatchModel") F hK (Lr_mem (by decide)) (shR_0 _) rfl iX5_hasRested_5 14 (by decide) (by decide +kernel) (fun _ h9 => h9) rfl dX5_hasRested_1 ?_
  refine sk_iload_n F dX5_hasRested_4 rfl 1 rfl ?_
  refine sk_iald F hK (Lr_mem (by decide)) (shR_14 _) 0 rfl dX5_hasRested_5 (fun h1 => ?_)
  refine sk_if_eq F 37 dX5_hasRested_6 (by decide) (fun h2 => ?_) (fun h2 => ?_)
  · refine sk_iconst (x := 1) F dX5_hasRested_37 (by decide) ?_
    refine sk_goto F 42 dX5_hasRested_38 (by decide) ?_
    exact sk_zretc F hK hr hlocks (by decide) dX5_hasRested_42
  · refine sk_aload_n F dX5_hasRested_9 rfl 0 rfl ?_
    refine sk_get (ref := "TunnelWatchModel") F hK (Lr_mem (by decide)) (shR_0 _) rfl iX5_hasRested_5 14 (by decide) (by decide +kernel) (fun _ h9 => h9) rfl dX5_hasRested_10 ?_
    refine sk_iload_n F dX5_hasRested_13 rfl 1 rfl ?_
    refine sk_iald F hK (Lr_mem (by decide)) (shR_14 _) 0 rfl dX5_hasRested_14 (fun h3 => ?_)
    refine sk_iload_n F dX5_hasRested_15 rfl 2 rfl ?_
    refine sk_icmp_eq F 37 dX5_hasRested_16 (by decide) (fun h4 => ?_) (fun h4 => ?_)
    · refine sk_iconst (x := 1) F dX5_hasRested_37 (by decide) ?_
      refine sk_goto F 42 dX5_hasRested_38 (by decide) ?_
      exact sk_zretc F hK hr hlocks (by decide) dX5_hasRested_42
    · refine sk_aload_n F dX5_hasRested_19 rfl 0 rfl ?_
      refine sk_get (ref := "TunnelWatchModel") F hK (Lr_mem (by decide)) (shR_0 _) rfl iX5_hasRested_5 4 (by decide) (by decide +kernel) (fun _ h9 => h9) rfl dX5_hasRested_20 ?_
      refine sk_aload_n F dX5_hasRested_23 rfl 0 rfl ?_
      refine sk_get (ref := "TunnelWatchModel") F hK (Lr_mem (by decide)) (shR_0 _) rfl iX5_hasRested_5 15 (by decide) (by decide +kernel) (fun _ h9 => h9) rfl dX5_hasRested_24 ?_
      refine sk_iload_n F dX5_hasRested_27 rfl 1 rfl ?_
      refine sk_iald F hK (Lr_mem (by decide)) (shR_15 _) 0 rfl dX5_hasRested_28 (fun h5 => ?_)
      refine sk_isub F dX5_hasRested_29 ?_
      refine sk_aload_n F dX5_hasRested_30 rfl 0 rfl ?_
      refine sk_get (ref := "TunnelWatchModel") F hK (Lr_mem (by decide)) (shR_0 _) rfl iX5_hasRested_5 2 (by decide) (by decide +kernel) (fun _ h9 => h9) rfl dX5_hasRested_31 ?_
      refine sk_icmp_lt F 41 dX5_hasRested_34 (by decide) (fun h6 => ?_) (fun h6 => ?_)
      · refine sk_iconst (x := 0) F dX5_hasRested_41 (by decide) ?_
        exact sk_zretc F hK hr hlocks (by decide) dX5_hasRested_42
      · refine sk_iconst (x := 1) F dX5_hasRested_37 (by decide) ?_
        refine sk_goto F 42 dX5_hasRested_38 (by decide) ?_
        exact sk_zretc F hK hr hlocks (by decide) dX5_hasRested_42
theorem tX5_hasRested {l : Launch} {D : va_G} {A : Nat → Prop} {cI cS cF cZ cJ : ClassId} {ad : Nat → Nat} {X : va_W} {p1 : Int32} {p2 : Int32} (v : Mem) : CI l yX5_hasRested wsX5_hasRested rmX5_hasRested D A (ty5 cI cS cF cZ cJ) (Wr cI cZ ad X) [.ref (ad 0), .int p1, .int p2] v (fX5_hasRested p1 p2 v) :=
  CI_of (cc := cX5_hasRested) (maxL := 3) (ret := (some .boolean)) (by decide) rfl (Nat.le_of_ble_eq_true rfl) (fun p e s m below meth c G => kX5_hasRested_0 G v)
def rmX5_starting : Room := { frames := 1, cells := 0, slots := 0, locals := 24 }
theorem iX5_starting_5 : ∀ w ∈ wsX50, w ∈ wsX5_starting := by decide +kernel
def fX5_starting_129 (kb7 : Mem → Int32 → Option (Int32 × Mem)) (kb51 : Mem → Int32 → Int32 → Int32 → Option (Int32 × Mem)) (p1 : Int32) (v : Mem) (l2 : Int32) (l3 : Int32) (l4 : Int32) : Option (Int32 × Mem) := kb51 v l2 l3 (l4 + (-1))
set_option maxRecDepth 100000 in
set_option maxHeartbeats 4000000 in
theorem kX5_starting_129 {p : Program} {l : Launch} {e : Env} {s : State} {m : MethodId} {args : Array Value} {below : List Frame} {meth : Method} {c : Code} {D : va_G} {A : Nat → Prop} {cI cS cF cZ cJ : ClassId} {ad : Nat → Nat} {X : va_W} {p1 : Int32} {kb7 : Mem → Int32 → Option (Int32 × Mem)} {kb51 : Mem → Int32 → Int32 → Int32 → Option (Int32 × Mem)} (G : cx p s m args meth c cX5_starting 6 wsX5_starting RX5 D (ty5 cI cS cF cZ cJ) A (some .boolean)) (hkb7 : ∀ (v : Mem) (l2 : Int32), sk p l e rmX5_starting s m args below meth c D A 6 0 0 (fun res => MQ below (qi D A (ty5 cI cS cF cZ cJ) (Wr cI cZ ad X) res) args s 0 0 A) (Wr cI cZ ad X v) 7 [(0, .ref (ad 0)), (1, .int p1), (2, .int l2)] [] (kb7 v l2)) (hkb51 : ∀ (v : Mem) (l2 : Int32) (l3 : Int32) (l4 : Int32), sk p l e rmX5_starting s m args below meth c D A 6 0 0 (fun res => MQ below (qi D A (ty5 cI cS cF cZ cJ) (Wr cI cZ ad X) res) args s 0 0 A) (Wr cI cZ ad X v) 51 [(0, .ref (ad 0)), (1, .int p1), (2, .int l2), (3, .int l3), (4, .int l4)] [] (kb51 v l2 l3 l4)) (v : Mem) (l2 : Int32) (l3 : Int32) (l4 : Int32) : sk p l e rmX5_starting s m args below meth c D A 6 0 0 (fun res => MQ below (qi D A (ty5 cI cS cF cZ cJ) (Wr cI cZ ad X) res) args s 0 0 A) (Wr cI cZ ad X v) 129 [(0, .ref (ad 0)), (1, .int p1), (2, .int l2), (3, .int l3), (4, .int l4)] [] (fX5_starting_129 kb7 kb51 p1 v l2 l3 l4) := by
  obtain ⟨F, hK, hA, hZ, hr, hlocks⟩ := G
  refine sk_eq (K' := kb51 v l2 l3 (l4 + (-1))) rfl ?_
  refine sk_iload_n F dX5_starting_129 rfl 3 rfl ?_
  refine sk_istore_n F dX5_starting_130 rfl (by decide) rfl ?_
  refine sk_iinc (y := l4 + (-1)) F dX5_starting_131 4 rfl rfl (by decide) rfl ?_
  refine sk_goto F 51 dX5_starting_134 (by decide) ?_
  exact sk_lv [2, 3, 4, 1, 0] rfl (hkb51 v l2 l3 (l4 + (-1)))
def fX5_starting_97 (kb7 : Mem → Int32 → Option (Int32 × Mem)) (kb51 : Mem → Int32 → Int32 → Int32 → Option (Int32 × Mem)) (p1 : Int32) (v : Mem) (l2 : Int32) (l3 : Int32) (l4 : Int32) (s0 : Int32) : Option (Int32 × Mem) := if s0 = 0 then fX5_starting_129 kb7 kb51 p1 v l2 l3 l4 else if l3 < 0 then kb51 v l2 l4 (l4 + (-1)) else gd (inb l4 28) (gd (inb l3 28) (if (v 13 l3.toNatClampNeg) < (v 13 l4.toNatClampNeg) then fX5_starting_129 kb7 kb51 p1 v l2 l3 l4 else kb51 v l2 l4 (l4 + (-1))))
set_option maxRecDepth 100000 in
set_option maxHeartbeats 4000000 in
theorem kX5_starting_97 {p : Program} {l : Launch} {e : Env} {s : State} {m : MethodId} {args : Array Value} {below : List Frame} {meth : Method} {c : Code} {D : va_G} {A : Nat → Prop} {cI cS cF cZ cJ : ClassId} {ad : Nat → Nat} {X : va_W} {p1 : Int32} {kb7 : Mem → Int32 → Option (Int32 × Mem)} {kb51 : Mem → Int32 → Int32 → Int32 → Option (Int32 × Mem)} (G : cx p s m args meth c cX5_starting 6 wsX5_starting RX5 D (ty5 cI cS cF cZ cJ) A (some .boolean)) (hkb7 : ∀ (v : Mem) (l2 : Int32), sk p l e rmX5_starting s m args below meth c D A 6 0 0 (fun res => MQ below (qi D A (ty5 cI cS cF cZ cJ) (Wr cI cZ ad X) res) args s 0 0 A) (Wr cI cZ ad X v) 7 [(0, .ref (ad 0)), (1, .int p1), (2, .int l2)] [] (kb7 v l2)) (hkb51 : ∀ (v : Mem) (l2 : Int32) (l3 : Int32) (l4 : Int32), sk p l e rmX5_starting s m args below meth c D A 6 0 0 (fun res => MQ below (qi D A (ty5 cI cS cF cZ cJ) (Wr cI cZ ad X) res) args s 0 0 A) (Wr cI cZ ad X v) 51 [(0, .ref (ad 0)), (1, .int p1), (2, .int l2), (3, .int l3), (4, .int l4)] [] (kb51 v l2 l3 l4)) (v : Mem) (l2 : Int32) (l3 : Int32) (l4 : Int32) (s0 : Int32) : sk p l e rmX5_starting s m args below meth c D A 6 0 0 (fun res => MQ below (qi D A (ty5 cI cS cF cZ cJ) (Wr cI cZ ad X) res) args s 0 0 A) (Wr cI cZ ad X v) 97 [(0, .ref (ad 0)), (1, .int p1), (2, .int l2), (3, .int l3), (4, .int l4)] [.int s0] (fX5_starting_97 kb7 kb51 p1 v l2 l3 l4 s0) := by
  obtain ⟨F, hK, hA, hZ, hr, hlocks⟩ := G
  refine sk_eq (K' := if s0 = 0 then fX5_starting_129 kb7 kb51 p1 v l2 l3 l4 else if l3 < 0 then kb51 v l2 l4 (l4 + (-1)) else gd (inb l4 28) (gd (inb l3 28) (if (v 13 l3.toNatClampNeg) < (v 13 l4.toNatClampNeg) then fX5_starting_129 kb7 kb51 p1 v l2 l3 l4 else kb51 v l2 l4 (l4 + (-1))))) rfl ?_
  refine sk_istore F dX5_starting_97 (by decide) rfl ?_
  refine sk_iload F dX5_starting_99 0 rfl ?_
  refine sk_if_eq F 129 dX5_starting_101 (by decide) (fun h44 => ?_) (fun h44 => ?_)
  · exact sk_lv [1, 2, 3, 4, 5] rfl (kX5_starting_129 ⟨F, hK, hA, hZ, hr, hlocks⟩ hkb7 hkb51 v l2 l3 l4)
  · refine sk_iload_n F dX5_starting_104 rfl 4 rfl ?_
    refine sk_if_lt F 124 dX5_starting_105 (by decide) (fun h45 => ?_) (fun h45 => ?_)
    · refine sk_iload F dX5_starting_124 5 rfl ?_
      refine sk_goto F 130 dX5_starting_126 (by decide) ?_
      refine sk_istore_n F dX5_starting_130 rfl (by decide) rfl ?_
      refine sk_iinc (y := l4 + (-1)) F dX5_starting_131 5 rfl rfl (by decide) rfl ?_
      refine sk_goto F 51 dX5_starting_134 (by decide) ?_
      exact sk_lv [3, 4, 5, 1, 0] rfl (hkb51 v l2 l4 (l4 + (-1)))
    · refine sk_aload_n F dX5_starting_108 rfl 1 rfl ?_
      refine sk_get (ref := "TunnelWatchModel") F hK (Lr_mem (by decide)) (shR_0 _) rfl iX5_starting_5 13 (by decide) (by decide +kernel) (fun _ h9 => h9) rfl dX5_starting_109 ?_
      refine sk_iload F dX5_starting_112 5 rfl ?_
      refine sk_iald F hK (Lr_mem (by decide)) (shR_13 _) 0 rfl dX5_starting_114 (fun h46 => ?_)
      refine sk_aload_n F dX5_starting_115 rfl 1 rfl ?_
      refine sk_get (ref := "TunnelWatchModel") F hK (Lr_mem (by decide)) (shR_0 _) rfl iX5_starting_5 13 (by decide) (by decide +kernel) (fun _ h9 => h9) rfl dX5_starting_116 ?_
      refine sk_iload_n F dX5_starting_119 rfl 4 rfl ?_
      refine sk_iald F hK (Lr_mem (by decide)) (shR_13 _) 0 rfl dX5_starting_120 (fun h47 => ?_)
      refine sk_icmp_gt F 129 dX5_starting_121 (by decide) (fun h48 => ?_) (fun h48 => ?_)
      · exact sk_lv [1, 2, 3, 4, 5] rfl (kX5_starting_129 ⟨F, hK, hA, hZ, hr, hlocks⟩ hkb7 hkb51 v l2 l3 l4)
      · refine sk_iload F dX5_starting_124 5 rfl ?_
        refine sk_goto F 130 dX5_starting_126 (by decide) ?_
        refine sk_istore_n F dX5_starting_130 rfl (by decide) rfl ?_
        refine sk_iinc (y := l4 + (-1)) F dX5_starting_131 5 rfl rfl (by decide) rfl ?_
        refine sk_goto F 51 dX5_starting_134 (by decide) ?_
        exact sk_lv [3, 4, 5, 1, 0] rfl (hkb51 v l2 l4 (l4 + (-1)))
def fX5_starting_96 (kb7 : Mem → Int32 → Option (Int32 × Mem)) (kb51 : Mem → Int32 → Int32 → Int32 → Option (Int32 × Mem)) (p1 : Int32) (v : Mem) (l2 : Int32) (l3 : Int32) (l4 : Int32) : Option (Int32 × Mem) := fX5_starting_97 kb7 kb51 p1 v l2 l3 l4 0
set_option maxRecDepth 100000 in
set_option maxHeartbeats 4000000 in
theorem kX5_starting_96 {p : Program} {l : Launch} {e : Env} {s : State} {m : MethodId} {args : Array Value} {below : List Frame} {meth : Method} {c : Code} {D : va_G} {A : Nat → Prop} {cI cS cF cZ cJ : ClassId} {ad : Nat → Nat} {X : va_W} {p1 : Int32} {kb7 : Mem → Int32 → Option (Int32 × Mem)} {kb51 : Mem → Int32 → Int32 → Int32 → Option (Int32 × Mem)} (G : cx p s m args meth c cX5_starting 6 wsX5_starting RX5 D (ty5 cI cS cF cZ cJ) A (some .boolean)) (hkb7 : ∀ (v : Mem) (l2 : Int32), sk p l e rmX5_starting s m args below meth c D A 6 0 0 (fun res => MQ below (qi D A (ty5 cI cS cF cZ cJ) (Wr cI cZ ad X) res) args s 0 0 A) (Wr cI cZ ad X v) 7 [(0, .ref (ad 0)), (1, .int p1), (2, .int l2)] [] (kb7 v l2)) (hkb51 : ∀ (v : Mem) (l2 : Int32) (l3 : Int32) (l4 : Int32), sk p l e rmX5_starting s m args below meth c D A 6 0 0 (fun res => MQ below (qi D A (ty5 cI cS cF cZ cJ) (Wr cI cZ ad X) res) args s 0 0 A) (Wr cI cZ ad X v) 51 [(0, .ref (ad 0)), (1, .int p1), (2, .int l2), (3, .int l3), (4, .int l4)] [] (kb51 v l2 l3 l4)) (v : Mem) (l2 : Int32) (l3 : Int32) (l4 : Int32) : sk p l e rmX5_starting s m args below meth c D A 6 0 0 (fun res => MQ below (qi D A (ty5 cI cS cF cZ cJ) (Wr cI cZ ad X) res) args s 0 0 A) (Wr cI cZ ad X v) 96 [(0, .ref (ad 0)), (1, .int p1), (2, .int l2), (3, .int l3), (4, .int l4)] [] (fX5_starting_96 kb7 kb51 p1 v l2 l3 l4) := by
  obtain ⟨F, hK, hA, hZ, hr, hlocks⟩ := G
  refine sk_eq (K' := fX5_starting_97 kb7 kb51 p1 v l2 l3 l4 0) rfl ?_
  refine sk_iconst (x := 0) F dX5_starting_96 (by decide) ?_
  exact kX5_starting_97 ⟨F, hK, hA, hZ, hr, hlocks⟩ hkb7 hkb51 v l2 l3 l4 0
def fX5_starting_195 (kb7 : Mem → Int32 → Option (Int32 × Mem)) (p1 : Int32) (v : Mem) (l2 : Int32) (l3 : Int32) (s0 : Int32) : Option (Int32 × Mem) := gd (bo s0) ((fX5_send l3 l2 (up2 v 0 34 s0)).bind fun v38 => gd (inb l3 28) (gd (inb l3 28) (gd (inb ((up2 (up2 v38 14 l3.toNatClampNeg l2) 16 l3.toNatClampNeg ((up2 v38 14 l3.toNatClampNeg l2) 0 4)) 0 4) 20001) (gd (inb ((up2 (up2 v38 14 l3.toNatClampNeg l2) 16 l3.toNatClampNeg ((up2 v38 14 l3.toNatClampNeg l2) 0 4)) 0 4) 20001) (kb7 (up2 (up2 (up2 v38 14 l3.toNatClampNeg l2) 16 l3.toNatClampNeg ((up2 v38 14 l3.toNatClampNeg l2) 0 4)) 32 ((up2 (up2 v38 14 l3.toNatClampNeg l2) 16 l3.toNatClampNeg ((up2 v38 14 l3.toNatClampNeg l2) 0 4)) 0 4).toNatClampNeg (((up2 (up2 v38 14 l3.toNatClampNeg l2) 16 l3.toNatClampNeg ((up2 v38 14 l3.toNatClampNeg l2) 0 4)) 32 ((up2 (up2 v38 14 l3.toNatClampNeg l2) 16 l3.toNatClampNeg ((up2 v38 14 l3.toNatClampNeg l2) 0 4)) 0 4).toNatClampNeg) + 1)) l2)))))
set_option maxRecDepth 100000 in
set_option maxHeartbeats 4000000 in
theorem kX5_starting_195 {p : Program} {l : Launch} {e : Env} {s : State} {m : MethodId} {args : Array Value} {below : List Frame} {meth : Method} {c : Code} {D : va_G} {A : Nat → Prop} {cI cS cF cZ cJ : ClassId} {ad : Nat → Nat} {X : va_W} {p1 : Int32} {kb7 : Mem → Int32 → Option (Int32 × Mem)} (G : cx p s m args meth c cX5_starting 6 wsX5_starting RX5 D (ty5 cI cS cF cZ cJ) A (some .boolean)) (hkb7 : ∀ (v : Mem) (l2 : Int32), sk p l e rmX5_starting s m args below meth c D A 6 0 0 (fun res => MQ below (qi D A (ty5 cI cS cF cZ cJ) (Wr cI cZ ad X) res) args s 0 0 A) (Wr cI cZ ad X v) 7 [(0, .ref (ad 0)), (1, .int p1), (2, .int l2)] [] (kb7 v l2)) (v : Mem) (l2 : Int32) (l3 : Int32) (s0 : Int32) : sk p l e rmX5_starting s m args below meth c D A 6 0 0 (fun res => MQ below (qi D A (ty5 cI cS cF cZ cJ) (Wr cI cZ ad X) res) args s 0 0 A) (Wr cI cZ ad X v) 195 [(0, .ref (ad 0)), (1, .int p1), (2, .int l2), (3, .int l3)] [.int s0, .ref (ad 0)] (fX5_starting_195 kb7 p1 v l2 l3 s0) := by
  obtain ⟨F, hK, hA, hZ, hr, hlocks⟩ := G
  refine sk_eq (K' := gd (bo s0) ((fX5_send l3 l2 (up2 v 0 34 s0)).bind fun v38 => gd (inb l3 28) (gd (inb l3 28) (gd (inb ((up2 (up2 v38 14 l3.toNatClampNeg l2) 16 l3.toNatClampNeg ((up2 v38 14 l3.toNatClampNeg l2) 0 4)) 0 4) 20001) (gd (inb ((up2 (up2 v38 14 l3.toNatClampNeg l2) 16 l3.toNatClampNeg ((up2 v38 14 l3.toNatClampNeg l2) 0 4)) 0 4) 20001) (kb7 (up2 (up2 (up2 v38 14 l3.toNatClampNeg l2) 16 l3.toNatClampNeg ((up2 v38 14 l3.toNatClampNeg l2) 0 4)) 32 ((up2 (up2 v38 14 l3.toNatClampNeg l2) 16 l3.toNatClampNeg ((up2 v38 14 l3.toNatClampNeg l2) 0 4)) 0 4).toNatClampNeg (((up2 (up2 v38 14 l3.toNatClampNeg l2) 16 l3.toNatClampNeg ((up2 v38 14 l3.toNatClampNeg l2) 0 4)) 32 ((up2 (up2 v38 14 l3.toNatClampNeg l2) 16 l3.toNatClampNeg ((up2 v38 14 l3.toNatClampNeg l2) 0 4)) 0 4).toNatClampNeg) + 1)) l2)))))) rfl ?_
  refine sk_gd (fun h36 => ?_)
  refine sk_put (ref := "TunnelWatchModel") (fs := fun r => fs5 ad r) (ty := .boolean) F hK Lr_nd (Lr_mem (by decide)) shR_0 rfl iX5_starting_5 tyX5 tyX5_ok nmX5 34 (by decide) (by decide +kernel) (fun _ h9 => h9) rfl (by decide +kernel) (bo_n h36) (bo_f h36) (Nat.le_of_ble_eq_true rfl) rfl dX5_starting_195 ?_
  refine sk_aload_n F dX5_starting_198 rfl 0 rfl ?_
  refine sk_iload_n F dX5_starting_199 rfl 3 rfl ?_
  refine sk_iload_n F dX5_starting_200 rfl 2 rfl ?_
  refine sk_callVv (As := [.int l3, .int l2]) (rest := []) F hK hA hZ _ (tX5_send _) (cwV 2 F.2.2.2.2 gX5_starting_X5_send rfl rfl rfl (by decide +kernel) ⟨Nat.le_of_ble_eq_true rfl, Nat.le_of_ble_eq_true rfl⟩) (rc5 hK) rfl rfl (Nat.le_of_ble_eq_true rfl) (by decide) dX5_starting_201 (fun v38 c37 => ?_)
  refine sk_aload_n F dX5_starting_204 rfl 0 rfl ?_
  refine sk_get (ref := "TunnelWatchModel") F hK (Lr_mem (by decide)) (shR_0 _) rfl iX5_starting_5 14 (by decide) (by decide +kernel) (fun _ h9 => h9) rfl dX5_starting_205 ?_
  refine sk_iload_n F dX5_starting_208 rfl 3 rfl ?_
  refine sk_iload_n F dX5_starting_209 rfl 2 rfl ?_
  refine sk_iast F hK Lr_nd (Lr_mem (by decide)) shR_14 0 rfl dX5_starting_210 (fun h40 => ?_)
  refine sk_aload_n F dX5_starting_211 rfl 0 rfl ?_
  refine sk_get (ref := "TunnelWatchModel") F hK (Lr_mem (by decide)) (shR_0 _) rfl iX5_starting_5 16 (by decide) (by decide +kernel) (fun _ h9 => h9) rfl dX5_starting_212 ?_
  refine sk_iload_n F dX5_starting_215 rfl 3 rfl ?_
  refine sk_aload_n F dX5_starting_216 rfl 0 rfl ?_
  refine sk_get (ref := "TunnelWatchModel") F hK (Lr_mem (by decide)) (shR_0 _) rfl iX5_starting_5 4 (by decide) (by decide +kernel) (fun _ h9 => h9) rfl dX5_starting_217 ?_
  refine sk_iast F hK Lr_nd (Lr_mem (by decide)) shR_16 0 rfl dX5_starting_220 (fun h41 => ?_)
  refine sk_aload_n F dX5_starting_221 rfl 0 rfl ?_
  refine sk_get (ref := "TunnelWatchModel") F hK (Lr_mem (by decide)) (shR_0 _) rfl iX5_starting_5 32 (by decide) (by decide +kernel) (fun _ h9 => h9) rfl dX5_starting_222 ?_
  refine sk_aload_n F dX5_starting_225 rfl 0 rfl ?_
  refine sk_get (ref := "TunnelWatchModel") F hK (Lr_mem (by decide)) (shR_0 _) rfl iX5_starting_5 4 (by decide) (by decide +kernel) (fun _ h9 => h9) rfl dX5_starting_226 ?_
  refine sk_dup2 F dX5_starting_229 rfl rfl ?_
  refine sk_iald F hK (Lr_mem (by decide)) (shR_32 _) 0 rfl dX5_starting_230 (fun h42 => ?_)
  refine sk_iconst (x := 1) F dX5_starting_231 (by decide) ?_
  refine sk_iadd F dX5_starting_232 ?_
  refine sk_iast F hK Lr_nd (Lr_mem (by decide)) shR_32 0 rfl dX5_starting_233 (fun h43 => ?_)
  refine sk_goto F 7 dX5_starting_234 (by decide) ?_
  exact sk_lv [0, 1, 2] rfl (hkb7 (up2 (up2 (up2 v38 14 l3.toNatClampNeg l2) 16 l3.toNatClampNeg ((up2 v38 14 l3.toNatClampNeg l2) 0 4)) 32 ((up2 (up2 v38 14 l3.toNatClampNeg l2) 16 l3.toNatClampNeg ((up2 v38 14 l3.toNatClampNeg l2) 0 4)) 0 4).toNatClampNeg (((up2 (up2 v38 14 l3.toNatClampNeg l2) 16 l3.toNatClampNeg ((up2 v38 14 l3.toNatClampNeg l2) 0 4)) 32 ((up2 (up2 v38 14 l3.toNatClampNeg l2) 16 l3.toNatClampNeg ((up2 v38 14 l3.toNatClampNeg l2) 0 4)) 0 4).toNatClampNeg) + 1)) l2)
def fX5_starting_51 (kb7 : Mem → Int32 → Option (Int32 × Mem)) (p1 : Int32) : Nat → Mem → Int32 → Int32 → Int32 → Option (Int32 × Mem)
  | 0, _, _, _, _ => none
  | fuel + 1, v, l2, l3, l4 => if l4 < ((14 * p1) + 2) then if 0 ≤ l3 then bd (fX5_startsOf v) fun x16 v15 => if 3 ≤ x16 then some (0, v15) else bd (fX5_loadOf v15) fun x20 v19 => gd (inb l3 28) (if (x20 + (3 * (v19 12 l3.toNatClampNeg))) ≤ (v19 0 3) then if (v19 0 34) = 0 then bd (fX5_hasRested l3 l2 v19) fun x26 v25 => if x26 = 0 then fX5_starting_195 kb7 p1 v25 l2 l3 1 else fX5_starting_195 kb7 p1 v25 l2 l3 0 else fX5_starting_195 kb7 p1 v19 l2 l3 1 else some (0, v19)) else some (1, v) else gd (inb l4 28) (if (v 7 l4.toNatClampNeg) = 0 then gd (inb l4 28) (if (v 11 l4.toNatClampNeg) = 0 then bd (fX5_hasRested l4 l2 v) fun x34 v33 => if x34 = 0 then fX5_starting_96 kb7 (fun v l2 l3 l4 => fX5_starting_51 kb7 p1 fuel v l2 l3 l4) p1 v33 l2 l3 l4 else fX5_starting_97 kb7 (fun v l2 l3 l4 => fX5_starting_51 kb7 p1 fuel v l2 l3 l4) p1 v33 l2 l3 l4 1 else fX5_starting_96 kb7 (fun v l2 l3 l4 => fX5_starting_51 kb7 p1 fuel v l2 l3 l4) p1 v l2 l3 l4) else fX5_starting_96 kb7 (fun v l2 l3 l4 => fX5_starting_51 kb7 p1 fuel v l2 l3 l4) p1 v l2 l3 l4)
set_option maxRecDepth 100000 in
set_option maxHeartbeats 4000000 in
theorem kX5_starting_51 {p : Program} {l : Launch} {e : Env} {s : State} {m : MethodId} {args : Array Value} {below : List Frame} {meth : Method} {c : Code} {D : va_G} {A : Nat → Prop} {cI cS cF cZ cJ : ClassId} {ad : Nat → Nat} {X : va_W} {p1 : Int32} {kb7 : Mem → Int32 → Option (Int32 × Mem)} (G : cx p s m args meth c cX5_starting 6 wsX5_starting RX5 D (ty5 cI cS cF cZ cJ) A (some .boolean)) (hkb7 : ∀ (v : Mem) (l2 : Int32), sk p l e rmX5_starting s m args below meth c D A 6 0 0 (fun res => MQ below (qi D A (ty5 cI cS cF cZ cJ) (Wr cI cZ ad X) res) args s 0 0 A) (Wr cI cZ ad X v) 7 [(0, .ref (ad 0)), (1, .int p1), (2, .int l2)] [] (kb7 v l2)) : ∀ (fuel : Nat) (v : Mem) (l2 : Int32) (l3 : Int32) (l4 : Int32), sk p l e rmX5_starting s m args below meth c D A 6 0 0 (fun res => MQ below (qi D A (ty5 cI cS cF cZ cJ) (Wr cI cZ ad X) res) args s 0 0 A) (Wr cI cZ ad X v) 51 [(0, .ref (ad 0)), (1, .int p1), (2, .int l2), (3, .int l3), (4, .int l4)] [] (fX5_starting_51 kb7 p1 fuel v l2 l3 l4) := by
  obtain ⟨F, hK, hA, hZ, hr, hlocks⟩ := G
  intro fuel
  induction fuel with
  | zero => intro v l2 l3 l4; exact sk_none
  | succ fuel ih =>
    intro v l2 l3 l4
    refine sk_eq (K' := if l4 < ((14 * p1) + 2) then if 0 ≤ l3 then bd (fX5_startsOf v) fun x16 v15 => if 3 ≤ x16 then some (0, v15) else bd (fX5_loadOf v15) fun x20 v19 => gd (inb l3 28) (if (x20 + (3 * (v19 12 l3.toNatClampNeg))) ≤ (v19 0 3) then if (v19 0 34) = 0 then bd (fX5_hasRested l3 l2 v19) fun x26 v25 => if x26 = 0 then fX5_starting_195 kb7 p1 v25 l2 l3 1 else fX5_starting_195 kb7 p1 v25 l2 l3 0 else fX5_starting_195 kb7 p1 v19 l2 l3 1 else some (0, v19)) else some (1, v) else gd (inb l4 28) (if (v 7 l4.toNatClampNeg) = 0 then gd (inb l4 28) (if (v 11 l4.toNatClampNeg) = 0 then bd (fX5_hasRested l4 l2 v) fun x34 v33 => if x34 = 0 then fX5_starting_96 kb7 (fun v l2 l3 l4 => fX5_starting_51 kb7 p1 fuel v l2 l3 l4) p1 v33 l2 l3 l4 else fX5_starting_97 kb7 (fun v l2 l3 l4 => fX5_starting_51 kb7 p1 fuel v l2 l3 l4) p1 v33 l2 l3 l4 1 else fX5_starting_96 kb7 (fun v l2 l3 l4 => fX5_starting_51 kb7 p1 fuel v l2 l3 l4) p1 v l2 l3 l4) else fX5_starting_96 kb7 (fun v l2 l3 l4 => fX5_starting_51 kb7 p1 fuel v l2 l3 l4) p1 v l2 l3 l4)) rfl ?_
    refine sk_iload F dX5_starting_51 4 rfl ?_
    refine sk_bipush (x := 14) F dX5_starting_53 (by decide) ?_
    refine sk_iload_n F dX5_starting_55 rfl 1 rfl ?_
    refine sk_imul F dX5_starting_56 ?_
    refine sk_iconst (x := 2) F dX5_starting_57 (by decide) ?_
    refine sk_iadd F dX5_starting_58 ?_
    refine sk_icmp_lt F 137 dX5_starting_59 (by decide) (fun h12 => ?_) (fun h12 => ?_)
    · refine sk_iload_n F dX5_starting_137 rfl 3 rfl ?_
      refine sk_if_ge F 143 dX5_starting_138 (by decide) (fun h13 => ?_) (fun h13 => ?_)
      · refine sk_aload_n F dX5_starting_143 rfl 0 rfl ?_
        refine sk_callVi (As := []) (rest := []) F hK hA hZ _ (tX5_startsOf _) (cwV 0 F.2.2.2.2 gX5_starting_X5_startsOf rfl rfl rfl (by decide +kernel) ⟨Nat.le_of_ble_eq_true rfl, Nat.le_of_ble_eq_true rfl⟩) (rc5 hK) rfl rfl (Nat.le_of_ble_eq_true rfl) (by decide) dX5_starting_144 (fun x16 v15 c14 => ?_)
        refine sk_iconst (x := 3) F dX5_starting_147 (by decide) ?_
        refine sk_icmp_ge F 171 dX5_starting_148 (by decide) (fun h17 => ?_) (fun h17 => ?_)
        · refine sk_iconst (x := 0) F dX5_starting_171 (by decide) ?_
          exact sk_zretc F hK hr hlocks (by decide) dX5_starting_172
        · refine sk_aload_n F dX5_starting_151 rfl 0 rfl ?_
          refine sk_callVi (As := []) (rest := []) F hK hA hZ _ (tX5_loadOf _) (cwV 0 F.2.2.2.2 gX5_starting_X5_loadOf rfl rfl rfl (by decide +kernel) ⟨Nat.le_of_ble_eq_true rfl, Nat.le_of_ble_eq_true rfl⟩) (rc5 hK) rfl rfl (Nat.le_of_ble_eq_true rfl) (by decide) dX5_starting_152 (fun x20 v19 c18 => ?_)
          refine sk_iconst (x := 3) F dX5_starting_155 (by decide) ?_
          refine sk_aload_n F dX5_starting_156 rfl 0 rfl ?_
          refine sk_get (ref := "TunnelWatchModel") F hK (Lr_mem (by decide)) (shR_0 _) rfl iX5_starting_5 12 (by decide) (by decide +kernel) (fun _ h9 => h9) rfl dX5_starting_157 ?_
          refine sk_iload_n F dX5_starting_160 rfl 3 rfl ?_
          refine sk_iald F hK (Lr_mem (by decide)) (shR_12 _) 0 rfl dX5_starting_161 (fun h21 => ?_)
          refine sk_imul F dX5_starting_162 ?_
          refine sk_iadd F dX5_starting_163 ?_
          refine sk_aload_n F dX5_starting_164 rfl 0 rfl ?_
          refine sk_get (ref := "TunnelWatchModel") F hK (Lr_mem (by decide)) (shR_0 _) rfl iX5_starting_5 3 (by decide) (by decide +kernel) (fun _ h9 => h9) rfl dX5_starting_165 ?_
          refine sk_icmp_le F 173 dX5_starting_168 (by decide) (fun h22 => ?_) (fun h22 => ?_)
          · refine sk_aload_n F dX5_starting_173 rfl 0 rfl ?_
            refine sk_aload_n F dX5_starting_174 rfl 0 rfl ?_
            refine sk_get (ref := "TunnelWatchModel") F hK (Lr_mem (by decide)) (shR_0 _) rfl iX5_starting_5 34 (by decide) (by decide +kernel) (fun _ h9 => h9) rfl dX5_starting_175 ?_
            refine sk_if_ne F 190 dX5_starting_178 (by decide) (fun h23 => ?_) (fun h23 => ?_)
            · refine sk_iconst (x := 1) F dX5_starting_190 (by decide) ?_
              refine sk_goto F 195 dX5_starting_191 (by decide) ?_
              exact sk_lv [0, 1, 2, 3] rfl (kX5_starting_195 ⟨F, hK, hA, hZ, hr, hlocks⟩ hkb7 v19 l2 l3 1)
            · refine sk_aload_n F dX5_starting_181 rfl 0 rfl ?_
              refine sk_iload_n F dX5_starting_182 rfl 3 rfl ?_
              refine sk_iload_n F dX5_starting_183 rfl 2 rfl ?_
              refine sk_callVi (As := [.int l3, .int l2]) (rest := [.ref (ad 0)]) F hK hA hZ _ (tX5_hasRested _) (cwV 2 F.2.2.2.2 gX5_starting_X5_hasRested rfl rfl rfl (by decide +kernel) ⟨Nat.le_of_ble_eq_true rfl, Nat.le_of_ble_eq_true rfl⟩) (rc5 hK) rfl rfl (Nat.le_of_ble_eq_true rfl) (by decide) dX5_starting_184 (fun x26 v25 c24 => ?_)
              refine sk_if_ne F 194 dX5_starting_187 (by decide) (fun h27 => ?_) (fun h27 => ?_)
              · refine sk_iconst (x := 0) F dX5_starting_194 (by decide) ?_
                exact sk_lv [0, 1, 2, 3] rfl (kX5_starting_195 ⟨F, hK, hA, hZ, hr, hlocks⟩ hkb7 v25 l2 l3 0)
              · refine sk_iconst (x := 1) F dX5_starting_190 (by decide) ?_
                refine sk_goto F 195 dX5_starting_191 (by decide) ?_
                exact sk_lv [0, 1, 2, 3] rfl (kX5_starting_195 ⟨F, hK, hA, hZ, hr, hlocks⟩ hkb7 v25 l2 l3 1)
          · refine sk_iconst (x := 0) F dX5_starting_171 (by decide) ?_
            exact sk_zretc F hK hr hlocks (by decide) dX5_starting_172
      · refine sk_iconst (x := 1) F dX5_starting_141 (by decide) ?_
        exact sk_zretc F hK hr hlocks (by decide) dX5_starting_142
    · refine sk_aload_n F dX5_starting_62 rfl 0 rfl ?_
      refine sk_get (ref := "TunnelWatchModel") F hK (Lr_mem (by decide)) (shR_0 _) rfl iX5_starting_5 7 (by decide) (by decide +kernel) (fun _ h9 => h9) rfl dX5_starting_63 ?_
      refine sk_iload F dX5_starting_66 4 rfl ?_
      refine sk_iald F hK (Lr_mem (by decide)) (shR_7 _) 0 rfl dX5_starting_68 (fun h28 => ?_)
      refine sk_if_ne F 96 dX5_starting_69 (by decide) (fun h29 => ?_) (fun h29 => ?_)
      · exact kX5_starting_96 ⟨F, hK, hA, hZ, hr, hlocks⟩ hkb7 ih v l2 l3 l4
      · refine sk_aload_n F dX5_starting_72 rfl 0 rfl ?_
        refine sk_get (ref := "TunnelWatchModel") F hK (Lr_mem (by decide)) (shR_0 _) rfl iX5_starting_5 11 (by decide) (by decide +kernel) (fun _ h9 => h9) rfl dX5_starting_73 ?_
        refine sk_iload F dX5_starting_76 4 rfl ?_
        refine sk_zald F hK (Lr_mem (by decide)) (shR_11 _) 3 rfl dX5_starting_78 (fun h30 => ?_)
        refine sk_if_ne F 96 dX5_starting_79 (by decide) (fun h31 => ?_) (fun h31 => ?_)
        · exact kX5_starting_96 ⟨F, hK, hA, hZ, hr, hlocks⟩ hkb7 ih v l2 l3 l4
        · refine sk_aload_n F dX5_starting_82 rfl 0 rfl ?_
          refine sk_iload F dX5_starting_83 4 rfl ?_
          refine sk_iload_n F dX5_starting_85 rfl 2 rfl ?_
          refine sk_callVi (As := [.int l4, .int l2]) (rest := []) F hK hA hZ _ (tX5_hasRested _) (cwV 2 F.2.2.2.2 gX5_starting_X5_hasRested rfl rfl rfl (by decide +kernel) ⟨Nat.le_of_ble_eq_true rfl, Nat.le_of_ble_eq_true rfl⟩) (rc5 hK) rfl rfl (Nat.le_of_ble_eq_true rfl) (by decide) dX5_starting_86 (fun x34 v33 c32 => ?_)
          refine sk_if_eq F 96 dX5_starting_89 (by decide) (fun h35 => ?_) (fun h35 => ?_)
          · exact kX5_starting_96 ⟨F, hK, hA, hZ, hr, hlocks⟩ hkb7 ih v33 l2 l3 l4
          · refine sk_iconst (x := 1) F dX5_starting_92 (by decide) ?_
            refine sk_goto F 97 dX5_starting_93 (by decide) ?_
            exact kX5_starting_97 ⟨F, hK, hA, hZ, hr, hlocks⟩ hkb7 ih v33 l2 l3 l4 1
def fX5_starting_7 (p1 : Int32) : Nat → Mem → Int32 → Option (Int32 × Mem)
  | 0, _, _ => none
  | fuel + 1, v, l2 => bd (fX5_blowing p1 (-l2) v) fun x4 v3 => if x4 = 0 then bd (fX5_blowing p1 l2 v3) fun x8 v7 => gd (inb p1 2) (if (v7 31 p1.toNatClampNeg) ≤ x8 then some (1, v7) else gd (inb p1 2) (fX5_starting_51 (fun v l2 => fX5_starting_7 p1 fuel v l2) p1 1000 v7 l2 (-1) ((((14 * p1) + 2) + (v7 5 p1.toNatClampNeg)) - 1))) else some (1, v3)
set_option maxRecDepth 100000 in
set_option maxHeartbeats 4000000 in
theorem kX5_starting_7 {p : Program} {l : Launch} {e : Env} {s : State} {m : MethodId} {args : Array Value} {below : List Frame} {meth : Method} {c : Code} {D : va_G} {A : Nat → Prop} {cI cS cF cZ cJ : ClassId} {ad : Nat → Nat} {X : va_W} {p1 : Int32} (G : cx p s m args meth c cX5_starting 6 wsX5_starting RX5 D (ty5 cI cS cF cZ cJ) A (some .boolean)) : ∀ (fuel : Nat) (v : Mem) (l2 : Int32), sk p l e rmX5_starting s m args below meth c D A 6 0 0 (fun res => MQ below (qi D A (ty5 cI cS cF cZ cJ) (Wr cI cZ ad X) res) args s 0 0 A) (Wr cI cZ ad X v) 7 [(0, .ref (ad 0)), (1, .int p1), (2, .int l2)] [] (fX5_starting_7 p1 fuel v l2) := by
  obtain ⟨F, hK, hA, hZ, hr, hlocks⟩ := G
  intro fuel
  induction fuel with
  | zero => intro v l2; exact sk_none
  | succ fuel ih =>
    intro v l2
    refine sk_eq (K' := bd (fX5_blowing p1 (-l2) v) fun x4 v3 => if x4 = 0 then bd (fX5_blowing p1 l2 v3) fun x8 v7 => gd (inb p1 2) (if (v7 31 p1.toNatClampNeg) ≤ x8 then some (1, v7) else gd (inb p1 2) (fX5_starting_51 (fun v l2 => fX5_starting_7 p1 fuel v l2) p1 1000 v7 l2 (-1) ((((14 * p1) + 2) + (v7 5 p1.toNatClampNeg)) - 1))) else some (1, v3)) rfl ?_
    refine sk_aload_n F dX5_starting_7 rfl 0 rfl ?_
    refine sk_iload_n F dX5_starting_8 rfl 1 rfl ?_
    refine sk_iload_n F dX5_starting_9 rfl 2 rfl ?_
    refine sk_ineg F dX5_starting_10 ?_
    refine sk_callVi (As := [.int p1, .int (-l2)]) (rest := []) F hK hA hZ _ (tX5_blowing _) (cwV 2 F.2.2.2.2 gX5_starting_X5_blowing rfl rfl rfl (by decide +kernel) ⟨Nat.le_of_ble_eq_true rfl, Nat.le_of_ble_eq_true rfl⟩) (rc5 hK) rfl rfl (Nat.le_of_ble_eq_true rfl) (by decide) dX5_starting_11 (fun x4 v3 c2 => ?_)
    refine sk_if_ne F 237 dX5_starting_14 (by decide) (fun h5 => ?_) (fun h5 => ?_)
    · refine sk_iconst (x := 1) F dX5_starting_237 (by decide) ?_
      exact sk_zretc F hK hr hlocks (by decide) dX5_starting_238
    · refine sk_aload_n F dX5_starting_17 rfl 0 rfl ?_
      refine sk_iload_n F dX5_starting_18 rfl 1 rfl ?_
      refine sk_iload_n F dX5_starting_19 rfl 2 rfl ?_
      refine sk_callVi (As := [.int p1, .int l2]) (rest := []) F hK hA hZ _ (tX5_blowing _) (cwV 2 F.2.2.2.2 gX5_starting_X5_blowing rfl rfl rfl (by decide +kernel) ⟨Nat.le_of_ble_eq_true rfl, Nat.le_of_ble_eq_true rfl⟩) (rc5 hK) rfl rfl (Nat.le_of_ble_eq_true rfl) (by decide) dX5_starting_20 (fun x8 v7 c6 => ?_)
      refine sk_aload_n F dX5_starting_23 rfl 0 rfl ?_
      refine sk_get (ref := "TunnelWatchModel") F hK (Lr_mem (by decide)) (shR_0 _) rfl iX5_starting_5 31 (by decide) (by decide +kernel) (fun _ h9 => h9) rfl dX5_starting_24 ?_
      refine sk_iload_n F dX5_starting_27 rfl 1 rfl ?_
      refine sk_iald F hK (Lr_mem (by decide)) (shR_31 _) 0 rfl dX5_starting_28 (fun h9 => ?_)
      refine sk_icmp_ge F 237 dX5_starting_29 (by decide) (fun h10 => ?_) (fun h10 => ?_)
      · refine sk_iconst (x := 1) F dX5_starting_237 (by decide) ?_
        exact sk_zretc F hK hr hlocks (by decide) dX5_starting_238
      · refine sk_iconst (x := (-1)) F dX5_starting_32 (by decide) ?_
        refine sk_istore_n F dX5_starting_33 rfl (by decide) rfl ?_
        refine sk_bipush (x := 14) F dX5_starting_34 (by decide) ?_
        refine sk_iload_n F dX5_starting_36 rfl 2 rfl ?_
        refine sk_imul F dX5_starting_37 ?_
        refine sk_iconst (x := 2) F dX5_starting_38 (by decide) ?_
        refine sk_iadd F dX5_starting_39 ?_
        refine sk_aload_n F dX5_starting_40 rfl 1 rfl ?_
        refine sk_get (ref := "TunnelWatchModel") F hK (Lr_mem (by decide)) (shR_0 _) rfl iX5_starting_5 5 (by decide) (by decide +kernel) (fun _ h9 => h9) rfl dX5_starting_41 ?_
        refine sk_iload_n F dX5_starting_44 rfl 2 rfl ?_
        refine sk_iald F hK (Lr_mem (by decide)) (shR_5 _) 0 rfl dX5_starting_45 (fun h11 => ?_)
        refine sk_iadd F dX5_starting_46 ?_
        refine sk_iconst (x := 1) F dX5_starting_47 (by decide) ?_
        refine sk_isub F dX5_starting_48 ?_
        refine sk_istore F dX5_starting_49 (by decide) rfl ?_
        exact sk_lv [2, 3, 4, 1, 0] rfl (kX5_starting_51 ⟨F, hK, hA, hZ, hr, hlocks⟩ ih 1000 v7 l2 (-1) ((((14 * p1) + 2) + (v7 5 p1.toNatClampNeg)) - 1))
def fX5_starting (p1 : Int32) (v : Mem) : Option (Int32 × Mem) := gd (inb p1 2) (fX5_starting_7 p1 1000 v (v 30 p1.toNatClampNeg))
set_option maxRecDepth 100000 in
set_option maxHeartbeats 4000000 in
theorem kX5_starting_0 {p : Program} {l : Launch} {e : Env} {s : State} {m : MethodId} {args : Array Value} {below : List Frame} {meth : Method} {c : Code} {D : va_G} {A : Nat → Prop} {cI cS cF cZ cJ : ClassId} {ad : Nat → Nat} {X : va_W} {p1 : Int32} (G : cx p s m args meth c cX5_starting 6 wsX5_starting RX5 D (ty5 cI cS cF cZ cJ) A (some .boolean)) (v : Mem) : sk p l e rmX5_starting s m args below meth c D A 6 0 0 (fun res => MQ below (qi D A (ty5 cI cS cF cZ cJ) (Wr cI cZ ad X) res) args s 0 0 A) (Wr cI cZ ad X v) 0 [(0, .ref (ad 0)), (1, .int p1)] [] (fX5_starting p1 v) := by
  obtain ⟨F, hK, hA, hZ, hr, hlocks⟩ := G
  refine sk_eq (K' := gd (inb p1 2) (fX5_starting_7 p1 1000 v (v 30 p1.toNatClampNeg))) rfl ?_
  refine sk_aload_n F dX5_starting_0 rfl 0 rfl ?_
  refine sk_get (ref := "TunnelWatchModel") F hK (Lr_mem (by decide)) (shR_0 _) rfl iX5_starting_5 30 (by decide) (by decide +kernel) (fun _ h9 => h9) rfl dX5_starting_1 ?_
  refine sk_iload_n F dX5_starting_4 rfl 1 rfl ?_
  refine sk_iald F hK (Lr_mem (by decide)) (shR_30 _) 0 rfl dX5_starting_5 (fun h1 => ?_)
  refine sk_istore_n F dX5_starting_6 rfl (by decide) rfl ?_
  exact sk_lv [1, 2, 0] rfl (kX5_starting_7 ⟨F, hK, hA, hZ, hr, hlocks⟩ 1000 v (v 30 p1.toNatClampNeg))
theorem tX5_starting {l : Launch} {D : va_G} {A : Nat → Prop} {cI cS cF cZ cJ : ClassId} {ad : Nat → Nat} {X : va_W} {p1 : Int32} (v : Mem) : CI l yX5_starting wsX5_starting rmX5_starting D A (ty5 cI cS cF cZ cJ) (Wr cI cZ ad X) [.ref (ad 0), .int p1] v (fX5_starting p1 v) :=
  CI_of (cc := cX5_starting) (maxL := 6) (ret := (some .boolean)) (by decide) rfl (Nat.le_of_ble_eq_true rfl) (fun p e s m below meth c G => kX5_starting_0 G v)
def rmX5_look : Room := { frames := 1, cells := 0, slots := 0, locals := 24 }
theorem iX5_look_5 : ∀ w ∈ wsX50, w ∈ wsX5_look := by decide +kernel
def fX5_look_115 (kb37 : Mem → Int32 → Option (Mem)) (v : Mem) (l1 : Int32) : Option (Mem) := kb37 (up2 v 0 34 0) (l1 + 1)
set_option maxRecDepth 100000 in
set_option maxHeartbeats 4000000 in
theorem kX5_look_115 {p : Program} {l : Launch} {e : Env} {s : State} {m : MethodId} {args : Array Value} {below : List Frame} {meth : Method} {c : Code} {D : va_G} {A : Nat → Prop} {cI cS cF cZ cJ : ClassId} {ad : Nat → Nat} {X : va_W} {kb37 : Mem → Int32 → Option (Mem)} (G : cx p s m args meth c cX5_look 2 wsX5_look RX5 D (ty5 cI cS cF cZ cJ) A none) (hkb37 : ∀ (v : Mem) (l1 : Int32), sk p l e rmX5_look s m args below meth c D A 2 0 0 (fun res => MQ below (qv D A (ty5 cI cS cF cZ cJ) (Wr cI cZ ad X) res) args s 0 0 A) (Wr cI cZ ad X v) 37 [(0, .ref (ad 0)), (1, .int l1)] [] (kb37 v l1)) (v : Mem) (l1 : Int32) : sk p l e rmX5_look s m args below meth c D A 2 0 0 (fun res => MQ below (qv D A (ty5 cI cS cF cZ cJ) (Wr cI cZ ad X) res) args s 0 0 A) (Wr cI cZ ad X v) 115 [(0, .ref (ad 0)), (1, .int l1)] [.ref (ad 0)] (fX5_look_115 kb37 v l1) := by
  obtain ⟨F, hK, hA, hZ, hr, hlocks⟩ := G
  refine sk_eq (K' := kb37 (up2 v 0 34 0) (l1 + 1)) rfl ?_
  refine sk_iconst (x := 0) F dX5_look_115 (by decide) ?_
  refine sk_put (ref := "TunnelWatchModel") (fs := fun r => fs5 ad r) (ty := .boolean) F hK Lr_nd (Lr_mem (by decide)) shR_0 rfl iX5_look_5 tyX5 tyX5_ok nmX5 34 (by decide) (by decide +kernel) (fun _ h9 => h9) rfl (by decide +kernel) rfl rfl (Nat.le_of_ble_eq_true rfl) rfl dX5_look_116 ?_
  refine sk_iinc (y := l1 + 1) F dX5_look_119 1 rfl rfl (by decide) rfl ?_
  refine sk_goto F 37 dX5_look_122 (by decide) ?_
  exact sk_lv [1, 0] rfl (hkb37 (up2 v 0 34 0) (l1 + 1))
def fX5_look_73 (kb37 : Mem → Int32 → Option (Mem)) (v : Mem) (l1 : Int32) (s0 : Int32) : Option (Mem) := gd (bo s0) (if ((up2 v 0 34 s0) 0 34) = 0 then gd (inb ((14 * l1) + 1) 28) (if ((up2 v 0 34 s0) 7 ((14 * l1) + 1).toNatClampNeg) = 1 then gd (inb (14 * l1) 28) (if ((up2 v 0 34 s0) 7 (14 * l1).toNatClampNeg) = 0 then kb37 (up2 (up2 v 0 34 s0) 0 34 1) (l1 + 1) else fX5_look_115 kb37 (up2 v 0 34 s0) l1) else fX5_look_115 kb37 (up2 v 0 34 s0) l1) else kb37 (up2 (up2 v 0 34 s0) 0 34 1) (l1 + 1))
set_option maxRecDepth 100000 in
set_option maxHeartbeats 4000000 in
theorem kX5_look_73 {p : Program} {l : Launch} {e : Env} {s : State} {m : MethodId} {args : Array Value} {below : List Frame} {meth : Method} {c : Code} {D : va_G} {A : Nat → Prop} {cI cS cF cZ cJ : ClassId} {ad : Nat → Nat} {X : va_W} {kb37 : Mem → Int32 → Option (Mem)} (G : cx p s m args meth c cX5_look 2 wsX5_look RX5 D (ty5 cI cS cF cZ cJ) A none) (hkb37 : ∀ (v : Mem) (l1 : Int32), sk p l e rmX5_look s m args below meth c D A 2 0 0 (fun res => MQ below (qv D A (ty5 cI cS cF cZ cJ) (Wr cI cZ ad X) res) args s 0 0 A) (Wr cI cZ ad X v) 37 [(0, .ref (ad 0)), (1, .int l1)] [] (kb37 v l1)) (v : Mem) (l1 : Int32) (s0 : Int32) : sk p l e rmX5_look s m args below meth c D A 2 0 0 (fun res => MQ below (qv D A (ty5 cI cS cF cZ cJ) (Wr cI cZ ad X) res) args s 0 0 A) (Wr cI cZ ad X v) 73 [(0, .ref (ad 0)), (1, .int l1)] [.int s0, .ref (ad 0)] (fX5_look_73 kb37 v l1 s0) := by
  obtain ⟨F, hK, hA, hZ, hr, hlocks⟩ := G
  refine sk_eq (K' := gd (bo s0) (if ((up2 v 0 34 s0) 0 34) = 0 then gd (inb ((14 * l1) + 1) 28) (if ((up2 v 0 34 s0) 7 ((14 * l1) + 1).toNatClampNeg) = 1 then gd (inb (14 * l1) 28) (if ((up2 v 0 34 s0) 7 (14 * l1).toNatClampNeg) = 0 then kb37 (up2 (up2 v 0 34 s0) 0 34 1) (l1 + 1) else fX5_look_115 kb37 (up2 v 0 34 s0) l1) else fX5_look_115 kb37 (up2 v 0 34 s0) l1) else kb37 (up2 (up2 v 0 34 s0) 0 34 1) (l1 + 1))) rfl ?_
  refine sk_gd (fun h22 => ?_)
  refine sk_put (ref := "TunnelWatchModel") (fs := fun r => fs5 ad r) (ty := .boolean) F hK Lr_nd (Lr_mem (by decide)) shR_0 rfl iX5_look_5 tyX5 tyX5_ok nmX5 34 (by decide) (by decide +kernel) (fun _ h9 => h9) rfl (by decide +kernel) (bo_n h22) (bo_f h22) (Nat.le_of_ble_eq_true rfl) rfl dX5_look_73 ?_
  refine sk_aload_n F dX5_look_76 rfl 0 rfl ?_
  refine sk_aload_n F dX5_look_77 rfl 0 rfl ?_
  refine sk_get (ref := "TunnelWatchModel") F hK (Lr_mem (by decide)) (shR_0 _) rfl iX5_look_5 34 (by decide) (by decide +kernel) (fun _ h9 => h9) rfl dX5_look_78 ?_
  refine sk_if_ne F 111 dX5_look_81 (by decide) (fun h23 => ?_) (fun h23 => ?_)
  · refine sk_iconst (x := 1) F dX5_look_111 (by decide) ?_
    refine sk_goto F 116 dX5_look_112 (by decide) ?_
    refine sk_put (ref := "TunnelWatchModel") (fs := fun r => fs5 ad r) (ty := .boolean) F hK Lr_nd (Lr_mem (by decide)) shR_0 rfl iX5_look_5 tyX5 tyX5_ok nmX5 34 (by decide) (by decide +kernel) (fun _ h9 => h9) rfl (by decide +kernel) rfl rfl (Nat.le_of_ble_eq_true rfl) rfl dX5_look_116 ?_
    refine sk_iinc (y := l1 + 1) F dX5_look_119 1 rfl rfl (by decide) rfl ?_
    refine sk_goto F 37 dX5_look_122 (by decide) ?_
    exact sk_lv [1, 0] rfl (hkb37 (up2 (up2 v 0 34 s0) 0 34 1) (l1 + 1))
  · refine sk_aload_n F dX5_look_84 rfl 0 rfl ?_
    refine sk_get (ref := "TunnelWatchModel") F hK (Lr_mem (by decide)) (shR_0 _) rfl iX5_look_5 7 (by decide) (by decide +kernel) (fun _ h9 => h9) rfl dX5_look_85 ?_
    refine sk_bipush (x := 14) F dX5_look_88 (by decide) ?_
    refine sk_iload_n F dX5_look_90 rfl 1 rfl ?_
    refine sk_imul F dX5_look_91 ?_
    refine sk_iconst (x := 1) F dX5_look_92 (by decide) ?_
    refine sk_iadd F dX5_look_93 ?_
    refine sk_iald F hK (Lr_mem (by decide)) (shR_7 _) 0 rfl dX5_look_94 (fun h24 => ?_)
    refine sk_iconst (x := 1) F dX5_look_95 (by decide) ?_
    refine sk_icmp_ne F 115 dX5_look_96 (by decide) (fun h25 => ?_) (fun h25 => ?_)
    · exact kX5_look_115 ⟨F, hK, hA, hZ, hr, hlocks⟩ hkb37 (up2 v 0 34 s0) l1
    · refine sk_aload_n F dX5_look_99 rfl 0 rfl ?_
      refine sk_get (ref := "TunnelWatchModel") F hK (Lr_mem (by decide)) (shR_0 _) rfl iX5_look_5 7 (by decide) (by decide +kernel) (fun _ h9 => h9) rfl dX5_look_100 ?_
      refine sk_bipush (x := 14) F dX5_look_103 (by decide) ?_
      refine sk_iload_n F dX5_look_105 rfl 1 rfl ?_
      refine sk_imul F dX5_look_106 ?_
      refine sk_iald F hK (Lr_mem (by decide)) (shR_7 _) 0 rfl dX5_look_107 (fun h26 => ?_)
      refine sk_if_ne F 115 dX5_look_108 (by decide) (fun h27 => ?_) (fun h27 => ?_)
      · exact kX5_look_115 ⟨F, hK, hA, hZ, hr, hlocks⟩ hkb37 (up2 v 0 34 s0) l1
      · refine sk_iconst (x := 1) F dX5_look_111 (by decide) ?_
        refine sk_goto F 116 dX5_look_112 (by decide) ?_
        refine sk_put (ref := "TunnelWatchModel") (fs := fun r => fs5 ad r) (ty := .boolean) F hK Lr_nd (Lr_mem (by decide)) shR_0 rfl iX5_look_5 tyX5 tyX5_ok nmX5 34 (by decide) (by decide +kernel) (fun _ h9 => h9) rfl (by decide +kernel) rfl rfl (Nat.le_of_ble_eq_true rfl) rfl dX5_look_116 ?_
        refine sk_iinc (y := l1 + 1) F dX5_look_119 1 rfl rfl (by decide) rfl ?_
        refine sk_goto F 37 dX5_look_122 (by decide) ?_
        exact sk_lv [1, 0] rfl (hkb37 (up2 (up2 v 0 34 s0) 0 34 1) (l1 + 1))
def fX5_look_72 (kb37 : Mem → Int32 → Option (Mem)) (v : Mem) (l1 : Int32) : Option (Mem) := fX5_look_73 kb37 v l1 0
set_option maxRecDepth 100000 in
set_option maxHeartbeats 4000000 in
theorem kX5_look_72 {p : Program} {l : Launch} {e : Env} {s : State} {m : MethodId} {args : Array Value} {below : List Frame} {meth : Method} {c : Code} {D : va_G} {A : Nat → Prop} {cI cS cF cZ cJ : ClassId} {ad : Nat → Nat} {X : va_W} {kb37 : Mem → Int32 → Option (Mem)} (G : cx p s m args meth c cX5_look 2 wsX5_look RX5 D (ty5 cI cS cF cZ cJ) A none) (hkb37 : ∀ (v : Mem) (l1 : Int32), sk p l e rmX5_look s m args below meth c D A 2 0 0 (fun res => MQ below (qv D A (ty5 cI cS cF cZ cJ) (Wr cI cZ ad X) res) args s 0 0 A) (Wr cI cZ ad X v) 37 [(0, .ref (ad 0)), (1, .int l1)] [] (kb37 v l1)) (v : Mem) (l1 : Int32) : sk p l e rmX5_look s m args below meth c D A 2 0 0 (fun res => MQ below (qv D A (ty5 cI cS cF cZ cJ) (Wr cI cZ ad X) res) args s 0 0 A) (Wr cI cZ ad X v) 72 [(0, .ref (ad 0)), (1, .int l1)] [.ref (ad 0)] (fX5_look_72 kb37 v l1) := by
  obtain ⟨F, hK, hA, hZ, hr, hlocks⟩ := G
  refine sk_eq (K' := fX5_look_73 kb37 v l1 0) rfl ?_
  refine sk_iconst (x := 0) F dX5_look_72 (by decide) ?_
  exact kX5_look_73 ⟨F, hK, hA, hZ, hr, hlocks⟩ hkb37 v l1 0
def fX5_look_37 : Nat → Mem → Int32 → Option (Mem)
  | 0, _, _ => none
  | fuel + 1, v, l1 => if 2 ≤ l1 then if (v 0 34) = 0 then some (up2 v 0 33 ((v 0 33) + 0)) else some (up2 v 0 33 ((v 0 33) + 1)) else if (v 0 34) = 0 then bd (fX5_blowing l1 1 v) fun x16 v15 => if x16 ≤ 0 then fX5_look_72 (fun v l1 => fX5_look_37 fuel v l1) v15 l1 else bd (fX5_blowing l1 (-1) v15) fun x20 v19 => if x20 ≤ 0 then fX5_look_72 (fun v l1 => fX5_look_37 fuel v l1) v19 l1 else fX5_look_73 (fun v l1 => fX5_look_37 fuel v l1) v19 l1 1 else fX5_look_73 (fun v l1 => fX5_look_37 fuel v l1) v l1 1
set_option maxRecDepth 100000 in
set_option maxHeartbeats 4000000 in
theorem kX5_look_37 {p : Program} {l : Launch} {e : Env} {s : State} {m : MethodId} {args : Array Value} {below : List Frame} {meth : Method} {c : Code} {D : va_G} {A : Nat → Prop} {cI cS cF cZ cJ : ClassId} {ad : Nat → Nat} {X : va_W} (G : cx p s m args meth c cX5_look 2 wsX5_look RX5 D (ty5 cI cS cF cZ cJ) A none) : ∀ (fuel : Nat) (v : Mem) (l1 : Int32), sk p l e rmX5_look s m args below meth c D A 2 0 0 (fun res => MQ below (qv D A (ty5 cI cS cF cZ cJ) (Wr cI cZ ad X) res) args s 0 0 A) (Wr cI cZ ad X v) 37 [(0, .ref (ad 0)), (1, .int l1)] [] (fX5_look_37 fuel v l1) := by
  obtain ⟨F, hK, hA, hZ, hr, hlocks⟩ := G
  intro fuel
  induction fuel with
  | zero => intro v l1; exact sk_none
  | succ fuel ih =>
    intro v l1
    refine sk_eq (K' := if 2 ≤ l1 then if (v 0 34) = 0 then some (up2 v 0 33 ((v 0 33) + 0)) else some (up2 v 0 33 ((v 0 33) + 1)) else if (v 0 34) = 0 then bd (fX5_blowing l1 1 v) fun x16 v15 => if x16 ≤ 0 then fX5_look_72 (fun v l1 => fX5_look_37 fuel v l1) v15 l1 else bd (fX5_blowing l1 (-1) v15) fun x20 v19 => if x20 ≤ 0 then fX5_look_72 (fun v l1 => fX5_look_37 fuel v l1) v19 l1 else fX5_look_73 (fun v l1 => fX5_look_37 fuel v l1) v19 l1 1 else fX5_look_73 (fun v l1 => fX5_look_37 fuel v l1) v l1 1) rfl ?_
    refine sk_iload_n F dX5_look_37 rfl 1 rfl ?_
    refine sk_iconst (x := 2) F dX5_look_38 (by decide) ?_
    refine sk_icmp_ge F 125 dX5_look_39 (by decide) (fun h11 => ?_) (fun h11 => ?_)
    · refine sk_aload_n F dX5_look_125 rfl 0 rfl ?_
      refine sk_dup F dX5_look_126 rfl ?_
      refine sk_get (ref := "TunnelWatchModel") F hK (Lr_mem (by decide)) (shR_0 _) rfl iX5_look_5 33 (by decide) (by decide +kernel) (fun _ h9 => h9) rfl dX5_look_127 ?_
      refine sk_aload_n F dX5_look_130 rfl 0 rfl ?_
      refine sk_get (ref := "TunnelWatchModel") F hK (Lr_mem (by decide)) (shR_0 _) rfl iX5_look_5 34 (by decide) (by decide +kernel) (fun _ h9 => h9) rfl dX5_look_131 ?_
      refine sk_if_eq F 141 dX5_look_134 (by decide) (fun h12 => ?_) (fun h12 => ?_)
      · refine sk_iconst (x := 0) F dX5_look_141 (by decide) ?_
        refine sk_iadd F dX5_look_142 ?_
        refine sk_put (ref := "TunnelWatchModel") (fs := fun r => fs5 ad r) (ty := .int) F hK Lr_nd (Lr_mem (by decide)) shR_0 rfl iX5_look_5 tyX5 tyX5_ok nmX5 33 (by decide) (by decide +kernel) (fun _ h9 => h9) rfl (by decide +kernel) rfl rfl (Nat.le_of_ble_eq_true rfl) rfl dX5_look_143 ?_
        exact sk_vret F hK hr hlocks dX5_look_146
      · refine sk_iconst (x := 1) F dX5_look_137 (by decide) ?_
        refine sk_goto F 142 dX5_look_138 (by decide) ?_
        refine sk_iadd F dX5_look_142 ?_
        refine sk_put (ref := "TunnelWatchModel") (fs := fun r => fs5 ad r) (ty := .int) F hK Lr_nd (Lr_mem (by decide)) shR_0 rfl iX5_look_5 tyX5 tyX5_ok nmX5 33 (by decide) (by decide +kernel) (fun _ h9 => h9) rfl (by decide +kernel) rfl rfl (Nat.le_of_ble_eq_true rfl) rfl dX5_look_143 ?_
        exact sk_vret F hK hr hlocks dX5_look_146
    · refine sk_aload_n F dX5_look_42 rfl 0 rfl ?_
      refine sk_aload_n F dX5_look_43 rfl 0 rfl ?_
      refine sk_get (ref := "TunnelWatchModel") F hK (Lr_mem (by decide)) (shR_0 _) rfl iX5_look_5 34 (by decide) (by decide +kernel) (fun _ h9 => h9) rfl dX5_look_44 ?_
      refine sk_if_ne F 68 dX5_look_47 (by decide) (fun h13 => ?_) (fun h13 => ?_)
      · refine sk_iconst (x := 1) F dX5_look_68 (by decide) ?_
        refine sk_goto F 73 dX5_look_69 (by decide) ?_
        exact kX5_look_73 ⟨F, hK, hA, hZ, hr, hlocks⟩ ih v l1 1
      · refine sk_aload_n F dX5_look_50 rfl 0 rfl ?_
        refine sk_iload_n F dX5_look_51 rfl 1 rfl ?_
        refine sk_iconst (x := 1) F dX5_look_52 (by decide) ?_
        refine sk_callVi (As := [.int l1, .int 1]) (rest := [.ref (ad 0)]) F hK hA hZ _ (tX5_blowing _) (cwV 2 F.2.2.2.2 gX5_look_X5_blowing rfl rfl rfl (by decide +kernel) ⟨Nat.le_of_ble_eq_true rfl, Nat.le_of_ble_eq_true rfl⟩) (rc5 hK) rfl rfl (Nat.le_of_ble_eq_true rfl) (by decide) dX5_look_53 (fun x16 v15 c14 => ?_)
        refine sk_if_le F 72 dX5_look_56 (by decide) (fun h17 => ?_) (fun h17 => ?_)
        · exact kX5_look_72 ⟨F, hK, hA, hZ, hr, hlocks⟩ ih v15 l1
        · refine sk_aload_n F dX5_look_59 rfl 0 rfl ?_
          refine sk_iload_n F dX5_look_60 rfl 1 rfl ?_
          refine sk_iconst (x := (-1)) F dX5_look_61 (by decide) ?_
          refine sk_callVi (As := [.int l1, .int (-1)]) (rest := [.ref (ad 0)]) F hK hA hZ _ (tX5_blowing _) (cwV 2 F.2.2.2.2 gX5_look_X5_blowing rfl rfl rfl (by decide +kernel) ⟨Nat.le_of_ble_eq_true rfl, Nat.le_of_ble_eq_true rfl⟩) (rc5 hK) rfl rfl (Nat.le_of_ble_eq_true rfl) (by decide) dX5_look_62 (fun x20 v19 c18 => ?_)
          refine sk_if_le F 72 dX5_look_65 (by decide) (fun h21 => ?_) (fun h21 => ?_)
          · exact kX5_look_72 ⟨F, hK, hA, hZ, hr, hlocks⟩ ih v19 l1
          · refine sk_iconst (x := 1) F dX5_look_68 (by decide) ?_
            refine sk_goto F 73 dX5_look_69 (by decide) ?_
            exact kX5_look_73 ⟨F, hK, hA, hZ, hr, hlocks⟩ ih v19 l1 1
def fX5_look_32 (v : Mem) (s0 : Int32) : Option (Mem) := gd (bo s0) (fX5_look_37 1000 (up2 v 0 34 s0) 0)
set_option maxRecDepth 100000 in
set_option maxHeartbeats 4000000 in
theorem kX5_look_32 {p : Program} {l : Launch} {e : Env} {s : State} {m : MethodId} {args : Array Value} {below : List Frame} {meth : Method} {c : Code} {D : va_G} {A : Nat → Prop} {cI cS cF cZ cJ : ClassId} {ad : Nat → Nat} {X : va_W} (G : cx p s m args meth c cX5_look 2 wsX5_look RX5 D (ty5 cI cS cF cZ cJ) A none) (v : Mem) (s0 : Int32) : sk p l e rmX5_look s m args below meth c D A 2 0 0 (fun res => MQ below (qv D A (ty5 cI cS cF cZ cJ) (Wr cI cZ ad X) res) args s 0 0 A) (Wr cI cZ ad X v) 32 [(0, .ref (ad 0))] [.int s0, .ref (ad 0)] (fX5_look_32 v s0) := by
  obtain ⟨F, hK, hA, hZ, hr, hlocks⟩ := G
  refine sk_eq (K' := gd (bo s0) (fX5_look_37 1000 (up2 v 0 34 s0) 0)) rfl ?_
  refine sk_gd (fun h10 => ?_)
  refine sk_put (ref := "TunnelWatchModel") (fs := fun r => fs5 ad r) (ty := .boolean) F hK Lr_nd (Lr_mem (by decide)) shR_0 rfl iX5_look_5 tyX5 tyX5_ok nmX5 34 (by decide) (by decide +kernel) (fun _ h9 => h9) rfl (by decide +kernel) (bo_n h10) (bo_f h10) (Nat.le_of_ble_eq_true rfl) rfl dX5_look_32 ?_
  refine sk_iconst (x := 0) F dX5_look_35 (by decide) ?_
  refine sk_istore_n F dX5_look_36 rfl (by decide) rfl ?_
  exact sk_lv [1, 0] rfl (kX5_look_37 ⟨F, hK, hA, hZ, hr, hlocks⟩ 1000 (up2 v 0 34 s0) 0)
def fX5_look (v : Mem) : Option (Mem) := if (v 0 34) = 0 then bd (fX5_loadOf v) fun x4 v3 => if (v3 0 3) < x4 then fX5_look_32 v3 1 else bd (fX5_startsOf v3) fun x8 v7 => if x8 ≤ 3 then fX5_look_32 v7 0 else fX5_look_32 v7 1 else fX5_look_32 v 1
set_option maxRecDepth 100000 in
set_option maxHeartbeats 4000000 in
theorem kX5_look_0 {p : Program} {l : Launch} {e : Env} {s : State} {m : MethodId} {args : Array Value} {below : List Frame} {meth : Method} {c : Code} {D : va_G} {A : Nat → Prop} {cI cS cF cZ cJ : ClassId} {ad : Nat → Nat} {X : va_W} (G : cx p s m args meth c cX5_look 2 wsX5_look RX5 D (ty5 cI cS cF cZ cJ) A none) (v : Mem) : sk p l e rmX5_look s m args below meth c D A 2 0 0 (fun res => MQ below (qv D A (ty5 cI cS cF cZ cJ) (Wr cI cZ ad X) res) args s 0 0 A) (Wr cI cZ ad X v) 0 [(0, .ref (ad 0))] [] (fX5_look v) := by
  obtain ⟨F, hK, hA, hZ, hr, hlocks⟩ := G
  refine sk_eq (K' := if (v 0 34) = 0 then bd (fX5_loadOf v) fun x4 v3 => if (v3 0 3) < x4 then fX5_look_32 v3 1 else bd (fX5_startsOf v3) fun x8 v7 => if x8 ≤ 3 then fX5_look_32 v7 0 else fX5_look_32 v7 1 else fX5_look_32 v 1) rfl ?_
  refine sk_aload_n F dX5_look_0 rfl 0 rfl ?_
  refine sk_aload_n F dX5_look_1 rfl 0 rfl ?_
  refine sk_get (ref := "TunnelWatchModel") F hK (Lr_mem (by decide)) (shR_0 _) rfl iX5_look_5 34 (by decide) (by decide +kernel) (fun _ h9 => h9) rfl dX5_look_2 ?_
  refine sk_if_ne F 27 dX5_look_5 (by decide) (fun h1 => ?_) (fun h1 => ?_)
  · refine sk_iconst (x := 1) F dX5_look_27 (by decide) ?_
    refine sk_goto F 32 dX5_look_28 (by decide) ?_
    exact kX5_look_32 ⟨F, hK, hA, hZ, hr, hlocks⟩ v 1
  · refine sk_aload_n F dX5_look_8 rfl 0 rfl ?_
    refine sk_callVi (As := []) (rest := [.ref (ad 0)]) F hK hA hZ _ (tX5_loadOf _) (cwV 0 F.2.2.2.2 gX5_look_X5_loadOf rfl rfl rfl (by decide +kernel) ⟨Nat.le_of_ble_eq_true rfl, Nat.le_of_ble_eq_true rfl⟩) (rc5 hK) rfl rfl (Nat.le_of_ble_eq_true rfl) (by decide) dX5_look_9 (fun x4 v3 c2 => ?_)
    refine sk_aload_n F dX5_look_12 rfl 0 rfl ?_
    refine sk_get (ref := "TunnelWatchModel") F hK (Lr_mem (by decide)) (shR_0 _) rfl iX5_look_5 3 (by decide) (by decide +kernel) (fun _ h9 => h9) rfl dX5_look_13 ?_
    refine sk_icmp_gt F 27 dX5_look_16 (by decide) (fun h5 => ?_) (fun h5 => ?_)
    · refine sk_iconst (x := 1) F dX5_look_27 (by decide) ?_
      refine sk_goto F 32 dX5_look_28 (by decide) ?_
      exact kX5_look_32 ⟨F, hK, hA, hZ, hr, hlocks⟩ v3 1
    · refine sk_aload_n F dX5_look_19 rfl 0 rfl ?_
      refine sk_callVi (As := []) (rest := [.ref (ad 0)]) F hK hA hZ _ (tX5_startsOf _) (cwV 0 F.2.2.2.2 gX5_look_X5_startsOf rfl rfl rfl (by decide +kernel) ⟨Nat.le_of_ble_eq_true rfl, Nat.le_of_ble_eq_true rfl⟩) (rc5 hK) rfl rfl (Nat.le_of_ble_eq_true rfl) (by decide) dX5_look_20 (fun x8 v7 c6 => ?_)
      refine sk_iconst (x := 3) F dX5_look_23 (by decide) ?_
      refine sk_icmp_le F 31 dX5_look_24 (by decide) (fun h9 => ?_) (fun h9 => ?_)
      · refine sk_iconst (x := 0) F dX5_look_31 (by decide) ?_
        exact kX5_look_32 ⟨F, hK, hA, hZ, hr, hlocks⟩ v7 0
      · refine sk_iconst (x := 1) F dX5_look_27 (by decide) ?_
        refine sk_goto F 32 dX5_look_28 (by decide) ?_
        exact kX5_look_32 ⟨F, hK, hA, hZ, hr, hlocks⟩ v7 1
theorem tX5_look {l : Launch} {D : va_G} {A : Nat → Prop} {cI cS cF cZ cJ : ClassId} {ad : Nat → Nat} {X : va_W} (v : Mem) : CV l yX5_look wsX5_look rmX5_look D A (ty5 cI cS cF cZ cJ) (Wr cI cZ ad X) [.ref (ad 0)] v (fX5_look v) :=
  CV_of (cc := cX5_look) (maxL := 2) (ret := none) (by decide) rfl (Nat.le_of_ble_eq_true rfl) (fun p e s m below meth c G => kX5_look_0 G v)
def rmX5_tick : Room := { frames := 3, cells := 0, slots := 0, locals := 72 }
theorem iX5_tick_5 : ∀ w ∈ wsX50, w ∈ wsX5_tick := by decide +kernel
def fX5_tick_78 (kb54 : Mem → Int32 → Int32 → Option (Mem)) (v : Mem) (l1 : Int32) (l2 : Int32) (s0 : Int32) (s1 : Int32) : Option (Mem) := (fX5_calm s1 s0 v).bind fun v32 => kb54 v32 l1 (l2 + 1)
set_option maxRecDepth 100000 in
set_option maxHeartbeats 4000000 in
theorem kX5_tick_78 {p : Program} {l : Launch} {e : Env} {s : State} {m : MethodId} {args : Array Value} {below : List Frame} {meth : Method} {c : Code} {D : va_G} {A : Nat → Prop} {cI cS cF cZ cJ : ClassId} {ad : Nat → Nat} {X : va_W} {kb54 : Mem → Int32 → Int32 → Option (Mem)} (G : cx p s m args meth c cX5_tick 4 wsX5_tick RX5 D (ty5 cI cS cF cZ cJ) A none) (hkb54 : ∀ (v : Mem) (l1 : Int32) (l2 : Int32), sk p l e rmX5_tick s m args below meth c D A 4 0 0 (fun res => MQ below (qv D A (ty5 cI cS cF cZ cJ) (Wr cI cZ ad X) res) args s 0 0 A) (Wr cI cZ ad X v) 54 [(0, .ref (ad 0)), (1, .int l1), (2, .int l2)] [] (kb54 v l1 l2)) (v : Mem) (l1 : Int32) (l2 : Int32) (s0 : Int32) (s1 : Int32) : sk p l e rmX5_tick s m args below meth c D A 4 0 0 (fun res => MQ below (qv D A (ty5 cI cS cF cZ cJ) (Wr cI cZ ad X) res) args s 0 0 A) (Wr cI cZ ad X v) 78 [(0, .ref (ad 0)), (1, .int l1), (2, .int l2)] [.int s0, .int s1, .ref (ad 0)] (fX5_tick_78 kb54 v l1 l2 s0 s1) := by
  obtain ⟨F, hK, hA, hZ, hr, hlocks⟩ := G
  refine sk_eq (K' := (fX5_calm s1 s0 v).bind fun v32 => kb54 v32 l1 (l2 + 1)) rfl ?_
  refine sk_callVv (As := [.int s1, .int s0]) (rest := []) F hK hA hZ _ (tX5_calm _) (cwV 2 F.2.2.2.2 gX5_tick_X5_calm rfl rfl rfl (by decide +kernel) ⟨Nat.le_of_ble_eq_true rfl, Nat.le_of_ble_eq_true rfl⟩) (rc5 hK) rfl rfl (Nat.le_of_ble_eq_true rfl) (by decide) dX5_tick_78 (fun v32 c31 => ?_)
  refine sk_iinc (y := l2 + 1) F dX5_tick_81 2 rfl rfl (by decide) rfl ?_
  refine sk_goto F 54 dX5_tick_84 (by decide) ?_
  exact sk_lv [1, 2, 0] rfl (hkb54 v32 l1 (l2 + 1))
def fX5_tick_164 (kb130 : Mem → Int32 → Option (Mem)) (v : Mem) (l3 : Int32) (s0 : Int32) (s1 : Int32) : Option (Mem) := gd (inb s1 28) (kb130 (up2 v 13 s1.toNatClampNeg (s0 + 0)) (l3 + 1))
set_option maxRecDepth 100000 in
set_option maxHeartbeats 4000000 in
theorem kX5_tick_164 {p : Program} {l : Launch} {e : Env} {s : State} {m : MethodId} {args : Array Value} {below : List Frame} {meth : Method} {c : Code} {D : va_G} {A : Nat → Prop} {cI cS cF cZ cJ : ClassId} {ad : Nat → Nat} {X : va_W} {kb130 : Mem → Int32 → Option (Mem)} (G : cx p s m args meth c cX5_tick 4 wsX5_tick RX5 D (ty5 cI cS cF cZ cJ) A none) (hkb130 : ∀ (v : Mem) (l3 : Int32), sk p l e rmX5_tick s m args below meth c D A 4 0 0 (fun res => MQ below (qv D A (ty5 cI cS cF cZ cJ) (Wr cI cZ ad X) res) args s 0 0 A) (Wr cI cZ ad X v) 130 [(0, .ref (ad 0)), (3, .int l3)] [] (kb130 v l3)) (v : Mem) (l3 : Int32) (s0 : Int32) (s1 : Int32) : sk p l e rmX5_tick s m args below meth c D A 4 0 0 (fun res => MQ below (qv D A (ty5 cI cS cF cZ cJ) (Wr cI cZ ad X) res) args s 0 0 A) (Wr cI cZ ad X v) 164 [(0, .ref (ad 0)), (3, .int l3)] [.int s0, .int s1, .ref (ad 13)] (fX5_tick_164 kb130 v l3 s0 s1) := by
  obtain ⟨F, hK, hA, hZ, hr, hlocks⟩ := G
  refine sk_eq (K' := gd (inb s1 28) (kb130 (up2 v 13 s1.toNatClampNeg (s0 + 0)) (l3 + 1))) rfl ?_
  refine sk_iconst (x := 0) F dX5_tick_164 (by decide) ?_
  refine sk_iadd F dX5_tick_165 ?_
  refine sk_iast F hK Lr_nd (Lr_mem (by decide)) shR_13 0 rfl dX5_tick_166 (fun h50 => ?_)
  refine sk_iinc (y := l3 + 1) F dX5_tick_167 1 rfl rfl (by decide) rfl ?_
  refine sk_goto F 130 dX5_tick_170 (by decide) ?_
  exact sk_lv [1, 0] rfl (hkb130 (up2 v 13 s1.toNatClampNeg (s0 + 0)) (l3 + 1))
def fX5_tick_130 : Nat → Mem → Int32 → Option (Mem)
  | 0, _, _ => none
  | fuel + 1, v, l3 => if 28 ≤ l3 then (fX5_look v).bind fun v43 => some v43 else gd (inb l3 28) (if (l3 - l3 / 14 * 14) ≤ 1 then fX5_tick_164 (fun v l3 => fX5_tick_130 fuel v l3) v l3 (v 13 l3.toNatClampNeg) l3 else gd (inb l3 28) (if (v 7 l3.toNatClampNeg) = 0 then fX5_tick_164 (fun v l3 => fX5_tick_130 fuel v l3) v l3 (v 13 l3.toNatClampNeg) l3 else gd (inb l3 28) (fX5_tick_130 fuel (up2 v 13 l3.toNatClampNeg ((v 13 l3.toNatClampNeg) + 1)) (l3 + 1))))
set_option maxRecDepth 100000 in
set_option maxHeartbeats 4000000 in
theorem kX5_tick_130 {p : Program} {l : Launch} {e : Env} {s : State} {m : MethodId} {args : Array Value} {below : List Frame} {meth : Method} {c : Code} {D : va_G} {A : Nat → Prop} {cI cS cF cZ cJ : ClassId} {ad : Nat → Nat} {X : va_W} (G : cx p s m args meth c cX5_tick 4 wsX5_tick RX5 D (ty5 cI cS cF cZ cJ) A none) : ∀ (fuel : Nat) (v : Mem) (l3 : Int32), sk p l e rmX5_tick s m args below meth c D A 4 0 0 (fun res => MQ below (qv D A (ty5 cI cS cF cZ cJ) (Wr cI cZ ad X) res) args s 0 0 A) (Wr cI cZ ad X v) 130 [(0, .ref (ad 0)), (3, .int l3)] [] (fX5_tick_130 fuel v l3) := by
  obtain ⟨F, hK, hA, hZ, hr, hlocks⟩ := G
  intro fuel
  induction fuel with
  | zero => intro v l3; exact sk_none
  | succ fuel ih =>
    intro v l3
    refine sk_eq (K' := if 28 ≤ l3 then (fX5_look v).bind fun v43 => some v43 else gd (inb l3 28) (if (l3 - l3 / 14 * 14) ≤ 1 then fX5_tick_164 (fun v l3 => fX5_tick_130 fuel v l3) v l3 (v 13 l3.toNatClampNeg) l3 else gd (inb l3 28) (if (v 7 l3.toNatClampNeg) = 0 then fX5_tick_164 (fun v l3 => fX5_tick_130 fuel v l3) v l3 (v 13 l3.toNatClampNeg) l3 else gd (inb l3 28) (fX5_tick_130 fuel (up2 v 13 l3.toNatClampNeg ((v 13 l3.toNatClampNeg) + 1)) (l3 + 1))))) rfl ?_
    refine sk_iload_n F dX5_tick_130 rfl 1 rfl ?_
    refine sk_bipush (x := 28) F dX5_tick_131 (by decide) ?_
    refine sk_icmp_ge F 173 dX5_tick_133 (by decide) (fun h41 => ?_) (fun h41 => ?_)
    · refine sk_aload_n F dX5_tick_173 rfl 0 rfl ?_
      refine sk_callVv (As := []) (rest := []) F hK hA hZ _ (tX5_look _) (cwV 0 F.2.2.2.2 gX5_tick_X5_look rfl rfl rfl (by decide +kernel) ⟨Nat.le_of_ble_eq_true rfl, Nat.le_of_ble_eq_true rfl⟩) (rc5 hK) rfl rfl (Nat.le_of_ble_eq_true rfl) (by decide) dX5_tick_174 (fun v43 c42 => ?_)
      exact sk_vret F hK hr hlocks dX5_tick_177
    · refine sk_aload_n F dX5_tick_136 rfl 0 rfl ?_
      refine sk_get (ref := "TunnelWatchModel") F hK (Lr_mem (by decide)) (shR_0 _) rfl iX5_tick_5 13 (by decide) (by decide +kernel) (fun _ h9 => h9) rfl dX5_tick_137 ?_
      refine sk_iload_n F dX5_tick_140 rfl 1 rfl ?_
      refine sk_dup2 F dX5_tick_141 rfl rfl ?_
      refine sk_iald F hK (Lr_mem (by decide)) (shR_13 _) 0 rfl dX5_tick_142 (fun h45 => ?_)
      refine sk_iload_n F dX5_tick_143 rfl 1 rfl ?_
      refine sk_bipush (x := 14) F dX5_tick_144 (by decide) ?_
      refine sk_irem F dX5_tick_146 (by decide) ?_
      refine sk_iconst (x := 1) F dX5_tick_147 (by decide) ?_
      refine sk_icmp_le F 164 dX5_tick_148 (by decide) (fun h46 => ?_) (fun h46 => ?_)
      · exact kX5_tick_164 ⟨F, hK, hA, hZ, hr, hlocks⟩ ih v l3 (v 13 l3.toNatClampNeg) l3
      · refine sk_aload_n F dX5_tick_151 rfl 0 rfl ?_
        refine sk_get (ref := "TunnelWatchModel") F hK (Lr_mem (by decide)) (shR_0 _) rfl iX5_tick_5 7 (by decide) (by decide +kernel) (fun _ h9 => h9) rfl dX5_tick_152 ?_
        refine sk_iload_n F dX5_tick_155 rfl 1 rfl ?_
        refine sk_iald F hK (Lr_mem (by decide)) (shR_7 _) 0 rfl dX5_tick_156 (fun h47 => ?_)
        refine sk_if_eq F 164 dX5_tick_157 (by decide) (fun h48 => ?_) (fun h48 => ?_)
        · exact kX5_tick_164 ⟨F, hK, hA, hZ, hr, hlocks⟩ ih v l3 (v 13 l3.toNatClampNeg) l3
        · refine sk_iconst (x := 1) F dX5_tick_160 (by decide) ?_
          refine sk_goto F 165 dX5_tick_161 (by decide) ?_
          refine sk_iadd F dX5_tick_165 ?_
          refine sk_iast F hK Lr_nd (Lr_mem (by decide)) shR_13 0 rfl dX5_tick_166 (fun h49 => ?_)
          refine sk_iinc (y := l3 + 1) F dX5_tick_167 1 rfl rfl (by decide) rfl ?_
          refine sk_goto F 130 dX5_tick_170 (by decide) ?_
          exact sk_lv [1, 0] rfl (ih (up2 v 13 l3.toNatClampNeg ((v 13 l3.toNatClampNeg) + 1)) (l3 + 1))
def fX5_tick_128 (v : Mem) : Option (Mem) := fX5_tick_130 1000 v 0
set_option maxRecDepth 100000 in
set_option maxHeartbeats 4000000 in
theorem kX5_tick_128 {p : Program} {l : Launch} {e : Env} {s : State} {m : MethodId} {args : Array Value} {below : List Frame} {meth : Method} {c : Code} {D : va_G} {A : Nat → Prop} {cI cS cF cZ cJ : ClassId} {ad : Nat → Nat} {X : va_W} (G : cx p s m args meth c cX5_tick 4 wsX5_tick RX5 D (ty5 cI cS cF cZ cJ) A none) (v : Mem) : sk p l e rmX5_tick s m args below meth c D A 4 0 0 (fun res => MQ below (qv D A (ty5 cI cS cF cZ cJ) (Wr cI cZ ad X) res) args s 0 0 A) (Wr cI cZ ad X v) 128 [(0, .ref (ad 0))] [] (fX5_tick_128 v) := by
  obtain ⟨F, hK, hA, hZ, hr, hlocks⟩ := G
  refine sk_eq (K' := fX5_tick_130 1000 v 0) rfl ?_
  refine sk_iconst (x := 0) F dX5_tick_128 (by decide) ?_
  refine sk_istore_n F dX5_tick_129 rfl (by decide) rfl ?_
  exact sk_lv [1, 0] rfl (kX5_tick_130 ⟨F, hK, hA, hZ, hr, hlocks⟩ 1000 v 0)
def fX5_tick_111 (v : Mem) (s0 : Int32) : Option (Mem) := bd (fX5_starting s0 v) fun x36 v35 => if x36 = 0 then fX5_tick_128 v35 else bd (fX5_starting (1 - s0) v35) fun x40 v39 => fX5_tick_128 v39
set_option maxRecDepth 100000 in
set_option maxHeartbeats 4000000 in
theorem kX5_tick_111 {p : Program} {l : Launch} {e : Env} {s : State} {m : MethodId} {args : Array Value} {below : List Frame} {meth : Method} {c : Code} {D : va_G} {A : Nat → Prop} {cI cS cF cZ cJ : ClassId} {ad : Nat → Nat} {X : va_W} (G : cx p s m args meth c cX5_tick 4 wsX5_tick RX5 D (ty5 cI cS cF cZ cJ) A none) (v : Mem) (s0 : Int32) : sk p l e rmX5_tick s m args below meth c D A 4 0 0 (fun res => MQ below (qv D A (ty5 cI cS cF cZ cJ) (Wr cI cZ ad X) res) args s 0 0 A) (Wr cI cZ ad X v) 111 [(0, .ref (ad 0))] [.int s0] (fX5_tick_111 v s0) := by
  obtain ⟨F, hK, hA, hZ, hr, hlocks⟩ := G
  refine sk_eq (K' := bd (fX5_starting s0 v) fun x36 v35 => if x36 = 0 then fX5_tick_128 v35 else bd (fX5_starting (1 - s0) v35) fun x40 v39 => fX5_tick_128 v39) rfl ?_
  refine sk_istore_n F dX5_tick_111 rfl (by decide) rfl ?_
  refine sk_aload_n F dX5_tick_112 rfl 1 rfl ?_
  refine sk_iload_n F dX5_tick_113 rfl 0 rfl ?_
  refine sk_callVi (As := [.int s0]) (rest := []) F hK hA hZ _ (tX5_starting _) (cwV 1 F.2.2.2.2 gX5_tick_X5_starting rfl rfl rfl (by decide +kernel) ⟨Nat.le_of_ble_eq_true rfl, Nat.le_of_ble_eq_true rfl⟩) (rc5 hK) rfl rfl (Nat.le_of_ble_eq_true rfl) (by decide) dX5_tick_114 (fun x36 v35 c34 => ?_)
  refine sk_if_eq F 128 dX5_tick_117 (by decide) (fun h37 => ?_) (fun h37 => ?_)
  · exact sk_lv [1] rfl (kX5_tick_128 ⟨F, hK, hA, hZ, hr, hlocks⟩ v35)
  · refine sk_aload_n F dX5_tick_120 rfl 1 rfl ?_
    refine sk_iconst (x := 1) F dX5_tick_121 (by decide) ?_
    refine sk_iload_n F dX5_tick_122 rfl 0 rfl ?_
    refine sk_isub F dX5_tick_123 ?_
    refine sk_callVi (As := [.int (1 - s0)]) (rest := []) F hK hA hZ _ (tX5_starting _) (cwV 1 F.2.2.2.2 gX5_tick_X5_starting rfl rfl rfl (by decide +kernel) ⟨Nat.le_of_ble_eq_true rfl, Nat.le_of_ble_eq_true rfl⟩) (rc5 hK) rfl rfl (Nat.le_of_ble_eq_true rfl) (by decide) dX5_tick_124 (fun x40 v39 c38 => ?_)
    refine sk_istore_n F dX5_tick_127 rfl (by decide) rfl ?_
    exact sk_lv [2] rfl (kX5_tick_128 ⟨F, hK, hA, hZ, hr, hlocks⟩ v39)
def fX5_tick_99 (v : Mem) (l1 : Int32) (s0 : Int32) : Option (Mem) := (fX5_relieve s0 v).bind fun v28 => if 0 ≤ l1 then fX5_tick_111 v28 l1 else fX5_tick_111 v28 0
set_option maxRecDepth 100000 in
set_option maxHeartbeats 4000000 in
theorem kX5_tick_99 {p : Program} {l : Launch} {e : Env} {s : State} {m : MethodId} {args : Array Value} {below : List Frame} {meth : Method} {c : Code} {D : va_G} {A : Nat → Prop} {cI cS cF cZ cJ : ClassId} {ad : Nat → Nat} {X : va_W} (G : cx p s m args meth c cX5_tick 4 wsX5_tick RX5 D (ty5 cI cS cF cZ cJ) A none) (v : Mem) (l1 : Int32) (s0 : Int32) : sk p l e rmX5_tick s m args below meth c D A 4 0 0 (fun res => MQ below (qv D A (ty5 cI cS cF cZ cJ) (Wr cI cZ ad X) res) args s 0 0 A) (Wr cI cZ ad X v) 99 [(0, .ref (ad 0)), (1, .int l1)] [.int s0, .ref (ad 0)] (fX5_tick_99 v l1 s0) := by
  obtain ⟨F, hK, hA, hZ, hr, hlocks⟩ := G
  refine sk_eq (K' := (fX5_relieve s0 v).bind fun v28 => if 0 ≤ l1 then fX5_tick_111 v28 l1 else fX5_tick_111 v28 0) rfl ?_
  refine sk_callVv (As := [.int s0]) (rest := []) F hK hA hZ _ (tX5_relieve _) (cwV 1 F.2.2.2.2 gX5_tick_X5_relieve rfl rfl rfl (by decide +kernel) ⟨Nat.le_of_ble_eq_true rfl, Nat.le_of_ble_eq_true rfl⟩) (rc5 hK) rfl rfl (Nat.le_of_ble_eq_true rfl) (by decide) dX5_tick_99 (fun v28 c27 => ?_)
  refine sk_iload_n F dX5_tick_102 rfl 1 rfl ?_
  refine sk_if_ge F 110 dX5_tick_103 (by decide) (fun h30 => ?_) (fun h30 => ?_)
  · refine sk_iload_n F dX5_tick_110 rfl 1 rfl ?_
    exact sk_lv [0] rfl (kX5_tick_111 ⟨F, hK, hA, hZ, hr, hlocks⟩ v28 l1)
  · refine sk_iconst (x := 0) F dX5_tick_106 (by decide) ?_
    refine sk_goto F 111 dX5_tick_107 (by decide) ?_
    exact sk_lv [0] rfl (kX5_tick_111 ⟨F, hK, hA, hZ, hr, hlocks⟩ v28 0)
def fX5_tick_54 : Nat → Mem → Int32 → Int32 → Option (Mem)
  | 0, _, _, _ => none
  | fuel + 1, v, l1, l2 => if 2 ≤ l2 then if 0 ≤ l1 then fX5_tick_99 v l1 (1 - l1) else fX5_tick_99 v l1 1 else if l1 < 0 then fX5_tick_78 (fun v l1 l2 => fX5_tick_54 fuel v l1 l2) v l1 l2 1 l2 else bd (fX5_isHalted l2 v) fun x25 v24 => if x25 = 0 then fX5_tick_78 (fun v l1 l2 => fX5_tick_54 fuel v l1 l2) v24 l1 l2 0 l2 else fX5_tick_78 (fun v l1 l2 => fX5_tick_54 fuel v l1 l2) v24 l1 l2 1 l2
set_option maxRecDepth 100000 in
set_option maxHeartbeats 4000000 in
theorem kX5_tick_54 {p : Program} {l : Launch} {e : Env} {s : State} {m : MethodId} {args : Array Value} {below : List Frame} {meth : Method} {c : Code} {D : va_G} {A : Nat → Prop} {cI cS cF cZ cJ : ClassId} {ad : Nat → Nat} {X : va_W} (G : cx p s m args meth c cX5_tick 4 wsX5_tick RX5 D (ty5 cI cS cF cZ cJ) A none) : ∀ (fuel : Nat) (v : Mem) (l1 : Int32) (l2 : Int32), sk p l e rmX5_tick s m args below meth c D A 4 0 0 (fun res => MQ below (qv D A (ty5 cI cS cF cZ cJ) (Wr cI cZ ad X) res) args s 0 0 A) (Wr cI cZ ad X v) 54 [(0, .ref (ad 0)), (1, .int l1), (2, .int l2)] [] (fX5_tick_54 fuel v l1 l2) := by
  obtain ⟨F, hK, hA, hZ, hr, hlocks⟩ := G
  intro fuel
  induction fuel with
  | zero => intro v l1 l2; exact sk_none
  | succ fuel ih =>
    intro v l1 l2
    refine sk_eq (K' := if 2 ≤ l2 then if 0 ≤ l1 then fX5_tick_99 v l1 (1 - l1) else fX5_tick_99 v l1 1 else if l1 < 0 then fX5_tick_78 (fun v l1 l2 => fX5_tick_54 fuel v l1 l2) v l1 l2 1 l2 else bd (fX5_isHalted l2 v) fun x25 v24 => if x25 = 0 then fX5_tick_78 (fun v l1 l2 => fX5_tick_54 fuel v l1 l2) v24 l1 l2 0 l2 else fX5_tick_78 (fun v l1 l2 => fX5_tick_54 fuel v l1 l2) v24 l1 l2 1 l2) rfl ?_
    refine sk_iload_n F dX5_tick_54 rfl 2 rfl ?_
    refine sk_iconst (x := 2) F dX5_tick_55 (by decide) ?_
    refine sk_icmp_ge F 87 dX5_tick_56 (by decide) (fun h20 => ?_) (fun h20 => ?_)
    · refine sk_aload_n F dX5_tick_87 rfl 0 rfl ?_
      refine sk_iload_n F dX5_tick_88 rfl 1 rfl ?_
      refine sk_if_ge F 96 dX5_tick_89 (by decide) (fun h21 => ?_) (fun h21 => ?_)
      · refine sk_iconst (x := 1) F dX5_tick_96 (by decide) ?_
        refine sk_iload_n F dX5_tick_97 rfl 1 rfl ?_
        refine sk_isub F dX5_tick_98 ?_
        exact sk_lv [0, 1] rfl (kX5_tick_99 ⟨F, hK, hA, hZ, hr, hlocks⟩ v l1 (1 - l1))
      · refine sk_iconst (x := 1) F dX5_tick_92 (by decide) ?_
        refine sk_goto F 99 dX5_tick_93 (by decide) ?_
        exact sk_lv [0, 1] rfl (kX5_tick_99 ⟨F, hK, hA, hZ, hr, hlocks⟩ v l1 1)
    · refine sk_aload_n F dX5_tick_59 rfl 0 rfl ?_
      refine sk_iload_n F dX5_tick_60 rfl 2 rfl ?_
      refine sk_iload_n F dX5_tick_61 rfl 1 rfl ?_
      refine sk_if_lt F 73 dX5_tick_62 (by decide) (fun h22 => ?_) (fun h22 => ?_)
      · refine sk_iconst (x := 1) F dX5_tick_73 (by decide) ?_
        refine sk_goto F 78 dX5_tick_74 (by decide) ?_
        exact kX5_tick_78 ⟨F, hK, hA, hZ, hr, hlocks⟩ ih v l1 l2 1 l2
      · refine sk_aload_n F dX5_tick_65 rfl 0 rfl ?_
        refine sk_iload_n F dX5_tick_66 rfl 2 rfl ?_
        refine sk_callVi (As := [.int l2]) (rest := [.int l2, .ref (ad 0)]) F hK hA hZ _ (tX5_isHalted _) (cwV 1 F.2.2.2.2 gX5_tick_X5_isHalted rfl rfl rfl (by decide +kernel) ⟨Nat.le_of_ble_eq_true rfl, Nat.le_of_ble_eq_true rfl⟩) (rc5 hK) rfl rfl (Nat.le_of_ble_eq_true rfl) (by decide) dX5_tick_67 (fun x25 v24 c23 => ?_)
        refine sk_if_eq F 77 dX5_tick_70 (by decide) (fun h26 => ?_) (fun h26 => ?_)
        · refine sk_iconst (x := 0) F dX5_tick_77 (by decide) ?_
          exact kX5_tick_78 ⟨F, hK, hA, hZ, hr, hlocks⟩ ih v24 l1 l2 0 l2
        · refine sk_iconst (x := 1) F dX5_tick_73 (by decide) ?_
          refine sk_goto F 78 dX5_tick_74 (by decide) ?_
          exact kX5_tick_78 ⟨F, hK, hA, hZ, hr, hlocks⟩ ih v24 l1 l2 1 l2
def fX5_tick_49 (v : Mem) (l1 : Int32) (s0 : Int32) : Option (Mem) := (fX5_traffic s0 v).bind fun v18 => fX5_tick_54 1000 v18 l1 0
set_option maxRecDepth 100000 in
set_option maxHeartbeats 4000000 in
theorem kX5_tick_49 {p : Program} {l : Launch} {e : Env} {s : State} {m : MethodId} {args : Array Value} {below : List Frame} {meth : Method} {c : Code} {D : va_G} {A : Nat → Prop} {cI cS cF cZ cJ : ClassId} {ad : Nat → Nat} {X : va_W} (G : cx p s m args meth c cX5_tick 4 wsX5_tick RX5 D (ty5 cI cS cF cZ cJ) A none) (v : Mem) (l1 : Int32) (s0 : Int32) : sk p l e rmX5_tick s m args below meth c D A 4 0 0 (fun res => MQ below (qv D A (ty5 cI cS cF cZ cJ) (Wr cI cZ ad X) res) args s 0 0 A) (Wr cI cZ ad X v) 49 [(0, .ref (ad 0)), (1, .int l1)] [.int s0, .ref (ad 0)] (fX5_tick_49 v l1 s0) := by
  obtain ⟨F, hK, hA, hZ, hr, hlocks⟩ := G
  refine sk_eq (K' := (fX5_traffic s0 v).bind fun v18 => fX5_tick_54 1000 v18 l1 0) rfl ?_
  refine sk_callVv (As := [.int s0]) (rest := []) F hK hA hZ _ (tX5_traffic _) (cwV 1 F.2.2.2.2 gX5_tick_X5_traffic rfl rfl rfl (by decide +kernel) ⟨Nat.le_of_ble_eq_true rfl, Nat.le_of_ble_eq_true rfl⟩) (rc5 hK) rfl rfl (Nat.le_of_ble_eq_true rfl) (by decide) dX5_tick_49 (fun v18 c17 => ?_)
  refine sk_iconst (x := 0) F dX5_tick_52 (by decide) ?_
  refine sk_istore_n F dX5_tick_53 rfl (by decide) rfl ?_
  exact sk_lv [1, 2, 0] rfl (kX5_tick_54 ⟨F, hK, hA, hZ, hr, hlocks⟩ 1000 v18 l1 0)
def fX5_tick (v : Mem) : Option (Mem) := (fX5_act (up2 (up2 v 0 4 ((v 0 4) + 1)) 0 34 0)).bind fun v2 => (fX5_judge 0 v2).bind fun v5 => (fX5_judge 1 v5).bind fun v8 => bd (fX5_burning v8) fun x12 v11 => (fX5_want x12 v11).bind fun v14 => if x12 < 0 then fX5_tick_49 v14 x12 0 else fX5_tick_49 v14 x12 1
set_option maxRecDepth 100000 in
set_option maxHeartbeats 4000000 in
theorem kX5_tick_0 {p : Program} {l : Launch} {e : Env} {s : State} {m : MethodId} {args : Array Value} {below : List Frame} {meth : Method} {c : Code} {D : va_G} {A : Nat → Prop} {cI cS cF cZ cJ : ClassId} {ad : Nat → Nat} {X : va_W} (G : cx p s m args meth c cX5_tick 4 wsX5_tick RX5 D (ty5 cI cS cF cZ cJ) A none) (v : Mem) : sk p l e rmX5_tick s m args below meth c D A 4 0 0 (fun res => MQ below (qv D A (ty5 cI cS cF cZ cJ) (Wr cI cZ ad X) res) args s 0 0 A) (Wr cI cZ ad X v) 0 [(0, .ref (ad 0))] [] (fX5_tick v) := by
  obtain ⟨F, hK, hA, hZ, hr, hlocks⟩ := G
  refine sk_eq (K' := (fX5_act (up2 (up2 v 0 4 ((v 0 4) + 1)) 0 34 0)).bind fun v2 => (fX5_judge 0 v2).bind fun v5 => (fX5_judge 1 v5).bind fun v8 => bd (fX5_burning v8) fun x12 v11 => (fX5_want x12 v11).bind fun v14 => if x12 < 0 then fX5_tick_49 v14 x12 0 else fX5_tick_49 v14 x12 1) rfl ?_
  refine sk_aload_n F dX5_tick_0 rfl 0 rfl ?_
  refine sk_dup F dX5_tick_1 rfl ?_
  refine sk_get (ref := "TunnelWatchModel") F hK (Lr_mem (by decide)) (shR_0 _) rfl iX5_tick_5 4 (by decide) (by decide +kernel) (fun _ h9 => h9) rfl dX5_tick_2 ?_
  refine sk_iconst (x := 1) F dX5_tick_5 (by decide) ?_
  refine sk_iadd F dX5_tick_6 ?_
  refine sk_put (ref := "TunnelWatchModel") (fs := fun r => fs5 ad r) (ty := .int) F hK Lr_nd (Lr_mem (by decide)) shR_0 rfl iX5_tick_5 tyX5 tyX5_ok nmX5 4 (by decide) (by decide +kernel) (fun _ h9 => h9) rfl (by decide +kernel) rfl rfl (Nat.le_of_ble_eq_true rfl) rfl dX5_tick_7 ?_
  refine sk_aload_n F dX5_tick_10 rfl 0 rfl ?_
  refine sk_iconst (x := 0) F dX5_tick_11 (by decide) ?_
  refine sk_put (ref := "TunnelWatchModel") (fs := fun r => fs5 ad r) (ty := .boolean) F hK Lr_nd (Lr_mem (by decide)) shR_0 rfl iX5_tick_5 tyX5 tyX5_ok nmX5 34 (by decide) (by decide +kernel) (fun _ h9 => h9) rfl (by decide +kernel) rfl rfl (Nat.le_of_ble_eq_true rfl) rfl dX5_tick_12 ?_
  refine sk_aload_n F dX5_tick_15 rfl 0 rfl ?_
  refine sk_callVv (As := []) (rest := []) F hK hA hZ _ (tX5_act _) (cwV 0 F.2.2.2.2 gX5_tick_X5_act rfl rfl rfl (by decide +kernel) ⟨Nat.le_of_ble_eq_true rfl, Nat.le_of_ble_eq_true rfl⟩) (rc5 hK) rfl rfl (Nat.le_of_ble_eq_true rfl) (by decide) dX5_tick_16 (fun v2 c1 => ?_)
  refine sk_aload_n F dX5_tick_19 rfl 0 rfl ?_
  refine sk_iconst (x := 0) F dX5_tick_20 (by decide) ?_
  refine sk_callVv (As := [.int 0]) (rest := []) F hK hA hZ _ (tX5_judge _) (cwV 1 F.2.2.2.2 gX5_tick_X5_judge rfl rfl rfl (by decide +kernel) ⟨Nat.le_of_ble_eq_true rfl, Nat.le_of_ble_eq_true rfl⟩) (rc5 hK) rfl rfl (Nat.le_of_ble_eq_true rfl) (by decide) dX5_tick_21 (fun v5 c4 => ?_)
  refine sk_aload_n F dX5_tick_24 rfl 0 rfl ?_
  refine sk_iconst (x := 1) F dX5_tick_25 (by decide) ?_
  refine sk_callVv (As := [.int 1]) (rest := []) F hK hA hZ _ (tX5_judge _) (cwV 1 F.2.2.2.2 gX5_tick_X5_judge rfl rfl rfl (by decide +kernel) ⟨Nat.le_of_ble_eq_true rfl, Nat.le_of_ble_eq_true rfl⟩) (rc5 hK) rfl rfl (Nat.le_of_ble_eq_true rfl) (by decide) dX5_tick_26 (fun v8 c7 => ?_)
  refine sk_aload_n F dX5_tick_29 rfl 0 rfl ?_
  refine sk_callVi (As := []) (rest := []) F hK hA hZ _ (tX5_burning _) (cwV 0 F.2.2.2.2 gX5_tick_X5_burning rfl rfl rfl (by decide +kernel) ⟨Nat.le_of_ble_eq_true rfl, Nat.le_of_ble_eq_true rfl⟩) (rc5 hK) rfl rfl (Nat.le_of_ble_eq_true rfl) (by decide) dX5_tick_30 (fun x12 v11 c10 => ?_)
  refine sk_istore_n F dX5_tick_33 rfl (by decide) rfl ?_
  refine sk_aload_n F dX5_tick_34 rfl 1 rfl ?_
  refine sk_iload_n F dX5_tick_35 rfl 0 rfl ?_
  refine sk_callVv (As := [.int x12]) (rest := []) F hK hA hZ _ (tX5_want _) (cwV 1 F.2.2.2.2 gX5_tick_X5_want rfl rfl rfl (by decide +kernel) ⟨Nat.le_of_ble_eq_true rfl, Nat.le_of_ble_eq_true rfl⟩) (rc5 hK) rfl rfl (Nat.le_of_ble_eq_true rfl) (by decide) dX5_tick_36 (fun v14 c13 => ?_)
  refine sk_aload_n F dX5_tick_39 rfl 1 rfl ?_
  refine sk_iload_n F dX5_tick_40 rfl 0 rfl ?_
  refine sk_if_lt F 48 dX5_tick_41 (by decide) (fun h16 => ?_) (fun h16 => ?_)
  · refine sk_iconst (x := 0) F dX5_tick_48 (by decide) ?_
    exact sk_lv [1, 0] rfl (kX5_tick_49 ⟨F, hK, hA, hZ, hr, hlocks⟩ v14 x12 0)
  · refine sk_iconst (x := 1) F dX5_tick_44 (by decide) ?_
    refine sk_goto F 49 dX5_tick_45 (by decide) ?_
    exact sk_lv [1, 0] rfl (kX5_tick_49 ⟨F, hK, hA, hZ, hr, hlocks⟩ v14 x12 1)
theorem tX5_tick {l : Launch} {D : va_G} {A : Nat → Prop} {cI cS cF cZ cJ : ClassId} {ad : Nat → Nat} {X : va_W} (v : Mem) : CV l yX5_tick wsX5_tick rmX5_tick D A (ty5 cI cS cF cZ cJ) (Wr cI cZ ad X) [.ref (ad 0)] v (fX5_tick v) :=
  CV_of (cc := cX5_tick) (maxL := 4) (ret := none) (by decide) rfl (Nat.le_of_ble_eq_true rfl) (fun p e s m below meth c G => kX5_tick_0 G v)
def rmX5_ticks : Room := { frames := 4, cells := 0, slots := 0, locals := 95 }
theorem iX5_ticks_5 : ∀ w ∈ wsX50, w ∈ wsX5_ticks := by decide +kernel
def fX5_ticks_45 (p1 : Int32) : Nat → Mem → Int32 → Option (Int32 × Mem)
  | 0, _, _ => none
  | fuel + 1, v, l2 => if p1 ≤ l2 then some (v 0 4, v) else (fX5_tick v).bind fun v10 => fX5_ticks_45 p1 fuel v10 (l2 + 1)
set_option maxRecDepth 100000 in
set_option maxHeartbeats 4000000 in
theorem kX5_ticks_45 {p : Program} {l : Launch} {e : Env} {s : State} {m : MethodId} {args : Array Value} {below : List Frame} {meth : Method} {c : Code} {D : va_G} {A : Nat → Prop} {cI cS cF cZ cJ : ClassId} {ad : Nat → Nat} {X : va_W} {p1 : Int32} (G : cx p s m args meth c cX5_ticks 3 wsX5_ticks RX5 D (ty5 cI cS cF cZ cJ) A (some .int)) : ∀ (fuel : Nat) (v : Mem) (l2 : Int32), sk p l e rmX5_ticks s m args below meth c D A 3 0 0 (fun res => MQ below (qi D A (ty5 cI cS cF cZ cJ) (Wr cI cZ ad X) res) args s 0 0 A) (Wr cI cZ ad X v) 45 [(0, .ref (ad 0)), (1, .int p1), (2, .int l2)] [] (fX5_ticks_45 p1 fuel v l2) := by
  obtain ⟨F, hK, hA, hZ, hr, hlocks⟩ := G
  intro fuel
  induction fuel with
  | zero => intro v l2; exact sk_none
  | succ fuel ih =>
    intro v l2
    refine sk_eq (K' := if p1 ≤ l2 then some (v 0 4, v) else (fX5_tick v).bind fun v10 => fX5_ticks_45 p1 fuel v10 (l2 + 1)) rfl ?_
    refine sk_iload_n F dX5_ticks_45 rfl 2 rfl ?_
    refine sk_iload_n F dX5_ticks_46 rfl 1 rfl ?_
    refine sk_icmp_ge F 60 dX5_ticks_47 (by decide) (fun h8 => ?_) (fun h8 => ?_)
    · refine sk_aload_n F dX5_ticks_60 rfl 0 rfl ?_
      refine sk_get (ref := "TunnelWatchModel") F hK (Lr_mem (by decide)) (shR_0 _) rfl iX5_ticks_5 4 (by decide) (by decide +kernel) (fun _ h9 => h9) rfl dX5_ticks_61 ?_
      exact sk_iret F hK hr hlocks dX5_ticks_64
    · refine sk_aload_n F dX5_ticks_50 rfl 0 rfl ?_
      refine sk_callVv (As := []) (rest := []) F hK hA hZ _ (tX5_tick _) (cwV 0 F.2.2.2.2 gX5_ticks_X5_tick rfl rfl rfl (by decide +kernel) ⟨Nat.le_of_ble_eq_true rfl, Nat.le_of_ble_eq_true rfl⟩) (rc5 hK) rfl rfl (Nat.le_of_ble_eq_true rfl) (by decide) dX5_ticks_51 (fun v10 c9 => ?_)
      refine sk_iinc (y := l2 + 1) F dX5_ticks_54 2 rfl rfl (by decide) rfl ?_
      refine sk_goto F 45 dX5_ticks_57 (by decide) ?_
      exact sk_lv [1, 2, 0] rfl (ih v10 (l2 + 1))
def fX5_ticks_35 (p1 : Int32) (v : Mem) (s0 : Int32) (s1 : Int32) : Option (Int32 × Mem) := bd (fX5_goes s1 s0 v) fun x6 v5 => if x6 = 0 then some (0, v5) else fX5_ticks_45 p1 1000 v5 0
set_option maxRecDepth 100000 in
set_option maxHeartbeats 4000000 in
theorem kX5_ticks_35 {p : Program} {l : Launch} {e : Env} {s : State} {m : MethodId} {args : Array Value} {below : List Frame} {meth : Method} {c : Code} {D : va_G} {A : Nat → Prop} {cI cS cF cZ cJ : ClassId} {ad : Nat → Nat} {X : va_W} {p1 : Int32} (G : cx p s m args meth c cX5_ticks 3 wsX5_ticks RX5 D (ty5 cI cS cF cZ cJ) A (some .int)) (v : Mem) (s0 : Int32) (s1 : Int32) : sk p l e rmX5_ticks s m args below meth c D A 3 0 0 (fun res => MQ below (qi D A (ty5 cI cS cF cZ cJ) (Wr cI cZ ad X) res) args s 0 0 A) (Wr cI cZ ad X v) 35 [(0, .ref (ad 0)), (1, .int p1)] [.int s0, .int s1, .ref (ad 0)] (fX5_ticks_35 p1 v s0 s1) := by
  obtain ⟨F, hK, hA, hZ, hr, hlocks⟩ := G
  refine sk_eq (K' := bd (fX5_goes s1 s0 v) fun x6 v5 => if x6 = 0 then some (0, v5) else fX5_ticks_45 p1 1000 v5 0) rfl ?_
  refine sk_callVi (As := [.int s1, .int s0]) (rest := []) F hK hA hZ _ (tX5_goes _) (cwV 2 F.2.2.2.2 gX5_ticks_X5_goes rfl rfl rfl (by decide +kernel) ⟨Nat.le_of_ble_eq_true rfl, Nat.le_of_ble_eq_true rfl⟩) (rc5 hK) rfl rfl (Nat.le_of_ble_eq_true rfl) (by decide) dX5_ticks_35 (fun x6 v5 c4 => ?_)
  refine sk_if_ne F 43 dX5_ticks_38 (by decide) (fun h7 => ?_) (fun h7 => ?_)
  · refine sk_iconst (x := 0) F dX5_ticks_43 (by decide) ?_
    refine sk_istore_n F dX5_ticks_44 rfl (by decide) rfl ?_
    exact sk_lv [1, 2, 0] rfl (kX5_ticks_45 ⟨F, hK, hA, hZ, hr, hlocks⟩ 1000 v5 0)
  · refine sk_iconst (x := 0) F dX5_ticks_41 (by decide) ?_
    exact sk_iret F hK hr hlocks dX5_ticks_42
def fX5_ticks_18 (p1 : Int32) (v : Mem) (s0 : Int32) : Option (Int32 × Mem) := if 20000 < ((v 0 4) + p1) then fX5_ticks_35 p1 v 0 s0 else fX5_ticks_35 p1 v 1 s0
set_option maxRecDepth 100000 in
set_option maxHeartbeats 4000000 in
theorem kX5_ticks_18 {p : Program} {l : Launch} {e : Env} {s : State} {m : MethodId} {args : Array Value} {below : List Frame} {meth : Method} {c : Code} {D : va_G} {A : Nat → Prop} {cI cS cF cZ cJ : ClassId} {ad : Nat → Nat} {X : va_W} {p1 : Int32} (G : cx p s m args meth c cX5_ticks 3 wsX5_ticks RX5 D (ty5 cI cS cF cZ cJ) A (some .int)) (v : Mem) (s0 : Int32) : sk p l e rmX5_ticks s m args below meth c D A 3 0 0 (fun res => MQ below (qi D A (ty5 cI cS cF cZ cJ) (Wr cI cZ ad X) res) args s 0 0 A) (Wr cI cZ ad X v) 18 [(0, .ref (ad 0)), (1, .int p1)] [.int s0, .ref (ad 0)] (fX5_ticks_18 p1 v s0) := by
  obtain ⟨F, hK, hA, hZ, hr, hlocks⟩ := G
  refine sk_eq (K' := if 20000 < ((v 0 4) + p1) then fX5_ticks_35 p1 v 0 s0 else fX5_ticks_35 p1 v 1 s0) rfl ?_
  refine sk_aload_n F dX5_ticks_18 rfl 0 rfl ?_
  refine sk_get (ref := "TunnelWatchModel") F hK (Lr_mem (by decide)) (shR_0 _) rfl iX5_ticks_5 4 (by decide) (by decide +kernel) (fun _ h9 => h9) rfl dX5_ticks_19 ?_
  refine sk_iload_n F dX5_ticks_22 rfl 1 rfl ?_
  refine sk_iadd F dX5_ticks_23 ?_
  refine sk_sipush (x := 20000) F dX5_ticks_24 (by decide) ?_
  refine sk_icmp_gt F 34 dX5_ticks_27 (by decide) (fun h3 => ?_) (fun h3 => ?_)
  · refine sk_iconst (x := 0) F dX5_ticks_34 (by decide) ?_
    exact kX5_ticks_35 ⟨F, hK, hA, hZ, hr, hlocks⟩ v 0 s0
  · refine sk_iconst (x := 1) F dX5_ticks_30 (by decide) ?_
    refine sk_goto F 35 dX5_ticks_31 (by decide) ?_
    exact kX5_ticks_35 ⟨F, hK, hA, hZ, hr, hlocks⟩ v 1 s0
def fX5_ticks_17 (p1 : Int32) (v : Mem) : Option (Int32 × Mem) := fX5_ticks_18 p1 v 0
set_option maxRecDepth 100000 in
set_option maxHeartbeats 4000000 in
theorem kX5_ticks_17 {p : Program} {l : Launch} {e : Env} {s : State} {m : MethodId} {args : Array Value} {below : List Frame} {meth : Method} {c : Code} {D : va_G} {A : Nat → Prop} {cI cS cF cZ cJ : ClassId} {ad : Nat → Nat} {X : va_W} {p1 : Int32} (G : cx p s m args meth c cX5_ticks 3 wsX5_ticks RX5 D (ty5 cI cS cF cZ cJ) A (some .int)) (v : Mem) : sk p l e rmX5_ticks s m args below meth c D A 3 0 0 (fun res => MQ below (qi D A (ty5 cI cS cF cZ cJ) (Wr cI cZ ad X) res) args s 0 0 A) (Wr cI cZ ad X v) 17 [(0, .ref (ad 0)), (1, .int p1)] [.ref (ad 0)] (fX5_ticks_17 p1 v) := by
  obtain ⟨F, hK, hA, hZ, hr, hlocks⟩ := G
  refine sk_eq (K' := fX5_ticks_18 p1 v 0) rfl ?_
  refine sk_iconst (x := 0) F dX5_ticks_17 (by decide) ?_
  exact kX5_ticks_18 ⟨F, hK, hA, hZ, hr, hlocks⟩ v 0
def fX5_ticks (p1 : Int32) (v : Mem) : Option (Int32 × Mem) := if p1 < 1 then fX5_ticks_17 p1 v else if 200 < p1 then fX5_ticks_17 p1 v else fX5_ticks_18 p1 v 1
set_option maxRecDepth 100000 in
set_option maxHeartbeats 4000000 in
theorem kX5_ticks_0 {p : Program} {l : Launch} {e : Env} {s : State} {m : MethodId} {args : Array Value} {below : List Frame} {meth : Method} {c : Code} {D : va_G} {A : Nat → Prop} {cI cS cF cZ cJ : ClassId} {ad : Nat → Nat} {X : va_W} {p1 : Int32} (G : cx p s m args meth c cX5_ticks 3 wsX5_ticks RX5 D (ty5 cI cS cF cZ cJ) A (some .int)) (v : Mem) : sk p l e rmX5_ticks s m args below meth c D A 3 0 0 (fun res => MQ below (qi D A (ty5 cI cS cF cZ cJ) (Wr cI cZ ad X) res) args s 0 0 A) (Wr cI cZ ad X v) 0 [(0, .ref (ad 0)), (1, .int p1)] [] (fX5_ticks p1 v) := by
  obtain ⟨F, hK, hA, hZ, hr, hlocks⟩ := G
  refine sk_eq (K' := if p1 < 1 then fX5_ticks_17 p1 v else if 200 < p1 then fX5_ticks_17 p1 v else fX5_ticks_18 p1 v 1) rfl ?_
  refine sk_aload_n F dX5_ticks_0 rfl 0 rfl ?_
  refine sk_iload_n F dX5_ticks_1 rfl 1 rfl ?_
  refine sk_iconst (x := 1) F dX5_ticks_2 (by decide) ?_
  refine sk_icmp_lt F 17 dX5_ticks_3 (by decide) (fun h1 => ?_) (fun h1 => ?_)
  · exact kX5_ticks_17 ⟨F, hK, hA, hZ, hr, hlocks⟩ v
  · refine sk_iload_n F dX5_ticks_6 rfl 1 rfl ?_
    refine sk_sipush (x := 200) F dX5_ticks_7 (by decide) ?_
    refine sk_icmp_gt F 17 dX5_ticks_10 (by decide) (fun h2 => ?_) (fun h2 => ?_)
    · exact kX5_ticks_17 ⟨F, hK, hA, hZ, hr, hlocks⟩ v
    · refine sk_iconst (x := 1) F dX5_ticks_13 (by decide) ?_
      refine sk_goto F 18 dX5_ticks_14 (by decide) ?_
      exact kX5_ticks_18 ⟨F, hK, hA, hZ, hr, hlocks⟩ v 1
theorem tX5_ticks {l : Launch} {D : va_G} {A : Nat → Prop} {cI cS cF cZ cJ : ClassId} {ad : Nat → Nat} {X : va_W} {p1 : Int32} (v : Mem) : CI l yX5_ticks wsX5_ticks rmX5_ticks D A (ty5 cI cS cF cZ cJ) (Wr cI cZ ad X) [.ref (ad 0), .int p1] v (fX5_ticks p1 v) :=
  CI_of (cc := cX5_ticks) (maxL := 3) (ret := (some .int)) (by decide) rfl (Nat.le_of_ble_eq_true rfl) (fun p e s m below meth c G => kX5_ticks_0 G v)
def rmX5_tube : Room := { frames := 1, cells := 0, slots := 0, locals := 24 }
theorem iX5_tube_5 : ∀ w ∈ wsX50, w ∈ wsX5_tube := by decide +kernel
def fX5_tube_22 (p1 : Int32) (p2 : Int32) (v : Mem) (s0 : Int32) : Option (Int32 × Mem) := if ((up2 v 0 0 s0) 0 0) ≤ 0 then if p2 = 0 then gd (inb p1 2) (some ((up2 v 0 0 s0) 25 p1.toNatClampNeg, up2 v 0 0 s0)) else if p2 = 1 then gd (inb p1 2) (some ((up2 v 0 0 s0) 26 p1.toNatClampNeg, up2 v 0 0 s0)) else if p2 = 2 then gd (inb p1 2) (some ((up2 v 0 0 s0) 30 p1.toNatClampNeg, up2 v 0 0 s0)) else if p2 = 3 then gd (inb p1 2) (some ((up2 v 0 0 s0) 31 p1.toNatClampNeg, up2 v 0 0 s0)) else gd (inb p1 2) (bd (fX5_blowing p1 ((up2 v 0 0 s0) 30 p1.toNatClampNeg) (up2 v 0 0 s0)) fun x19 v18 => some (x19, v18)) else some (0, up2 v 0 0 s0)
set_option maxRecDepth 100000 in
set_option maxHeartbeats 4000000 in
theorem kX5_tube_22 {p : Program} {l : Launch} {e : Env} {s : State} {m : MethodId} {args : Array Value} {below : List Frame} {meth : Method} {c : Code} {D : va_G} {A : Nat → Prop} {cI cS cF cZ cJ : ClassId} {ad : Nat → Nat} {X : va_W} {p1 : Int32} {p2 : Int32} (G : cx p s m args meth c cX5_tube 3 wsX5_tube RX5 D (ty5 cI cS cF cZ cJ) A (some .int)) (v : Mem) (s0 : Int32) : sk p l e rmX5_tube s m args below meth c D A 3 0 0 (fun res => MQ below (qi D A (ty5 cI cS cF cZ cJ) (Wr cI cZ ad X) res) args s 0 0 A) (Wr cI cZ ad X v) 22 [(0, .ref (ad 0)), (1, .int p1), (2, .int p2)] [.int s0, .ref (ad 0)] (fX5_tube_22 p1 p2 v s0) := by
  obtain ⟨F, hK, hA, hZ, hr, hlocks⟩ := G
  refine sk_eq (K' := if ((up2 v 0 0 s0) 0 0) ≤ 0 then if p2 = 0 then gd (inb p1 2) (some ((up2 v 0 0 s0) 25 p1.toNatClampNeg, up2 v 0 0 s0)) else if p2 = 1 then gd (inb p1 2) (some ((up2 v 0 0 s0) 26 p1.toNatClampNeg, up2 v 0 0 s0)) else if p2 = 2 then gd (inb p1 2) (some ((up2 v 0 0 s0) 30 p1.toNatClampNeg, up2 v 0 0 s0)) else if p2 = 3 then gd (inb p1 2) (some ((up2 v 0 0 s0) 31 p1.toNatClampNeg, up2 v 0 0 s0)) else gd (inb p1 2) (bd (fX5_blowing p1 ((up2 v 0 0 s0) 30 p1.toNatClampNeg) (up2 v 0 0 s0)) fun x19 v18 => some (x19, v18)) else some (0, up2 v 0 0 s0)) rfl ?_
  refine sk_put (ref := "TunnelWatchModel") (fs := fun r => fs5 ad r) (ty := .int) F hK Lr_nd (Lr_mem (by decide)) shR_0 rfl iX5_tube_5 tyX5 tyX5_ok nmX5 0 (by decide) (by decide +kernel) (fun _ h9 => h9) rfl (by decide +kernel) rfl rfl (Nat.le_of_ble_eq_true rfl) rfl dX5_tube_22 ?_
  refine sk_aload_n F dX5_tube_25 rfl 0 rfl ?_
  refine sk_get (ref := "TunnelWatchModel") F hK (Lr_mem (by decide)) (shR_0 _) rfl iX5_tube_5 0 (by decide) (by decide +kernel) (fun _ h9 => h9) rfl dX5_tube_26 ?_
  refine sk_if_le F 34 dX5_tube_29 (by decide) (fun h7 => ?_) (fun h7 => ?_)
  · refine sk_iload_n F dX5_tube_34 rfl 2 rfl ?_
    refine sk_tcase F 0 64 dX5_tube_35 (by decide) (by decide) rfl (by decide) (fun h8 => ?_) (fun h8 => ?_)
    · refine sk_aload_n F dX5_tube_64 rfl 0 rfl ?_
      refine sk_get (ref := "TunnelWatchModel") F hK (Lr_mem (by decide)) (shR_0 _) rfl iX5_tube_5 25 (by decide) (by decide +kernel) (fun _ h9 => h9) rfl dX5_tube_65 ?_
      refine sk_iload_n F dX5_tube_68 rfl 1 rfl ?_
      refine sk_iald F hK (Lr_mem (by decide)) (shR_25 _) 0 rfl dX5_tube_69 (fun h9 => ?_)
      exact sk_iret F hK hr hlocks dX5_tube_70
    · refine sk_tcase F 1 71 dX5_tube_35 (by decide) (by decide) rfl (by decide) (fun h10 => ?_) (fun h10 => ?_)
      · refine sk_aload_n F dX5_tube_71 rfl 0 rfl ?_
        refine sk_get (ref := "TunnelWatchModel") F hK (Lr_mem (by decide)) (shR_0 _) rfl iX5_tube_5 26 (by decide) (by decide +kernel) (fun _ h9 => h9) rfl dX5_tube_72 ?_
        refine sk_iload_n F dX5_tube_75 rfl 1 rfl ?_
        refine sk_iald F hK (Lr_mem (by decide)) (shR_26 _) 0 rfl dX5_tube_76 (fun h11 => ?_)
        exact sk_iret F hK hr hlocks dX5_tube_77
      · refine sk_tcase F 2 78 dX5_tube_35 (by decide) (by decide) rfl (by decide) (fun h12 => ?_) (fun h12 => ?_)
        · refine sk_aload_n F dX5_tube_78 rfl 0 rfl ?_
          refine sk_get (ref := "TunnelWatchModel") F hK (Lr_mem (by decide)) (shR_0 _) rfl iX5_tube_5 30 (by decide) (by decide +kernel) (fun _ h9 => h9) rfl dX5_tube_79 ?_
          refine sk_iload_n F dX5_tube_82 rfl 1 rfl ?_
          refine sk_iald F hK (Lr_mem (by decide)) (shR_30 _) 0 rfl dX5_tube_83 (fun h13 => ?_)
          exact sk_iret F hK hr hlocks dX5_tube_84
        · refine sk_tcase F 3 85 dX5_tube_35 (by decide) (by decide) rfl (by decide) (fun h14 => ?_) (fun h14 => ?_)
          · refine sk_aload_n F dX5_tube_85 rfl 0 rfl ?_
            refine sk_get (ref := "TunnelWatchModel") F hK (Lr_mem (by decide)) (shR_0 _) rfl iX5_tube_5 31 (by decide) (by decide +kernel) (fun _ h9 => h9) rfl dX5_tube_86 ?_
            refine sk_iload_n F dX5_tube_89 rfl 1 rfl ?_
            refine sk_iald F hK (Lr_mem (by decide)) (shR_31 _) 0 rfl dX5_tube_90 (fun h15 => ?_)
            exact sk_iret F hK hr hlocks dX5_tube_91
          · refine sk_tdef F 92 dX5_tube_35 (ts_out (m := 3) (by decide) (fun j hj => match j, hj with | 0, _ => h8 | 1, _ => h10 | 2, _ => h12 | 3, _ => h14 | k + 4, hj => absurd hj (by omega))) (by decide) ?_
            refine sk_aload_n F dX5_tube_92 rfl 0 rfl ?_
            refine sk_iload_n F dX5_tube_93 rfl 1 rfl ?_
            refine sk_aload_n F dX5_tube_94 rfl 0 rfl ?_
            refine sk_get (ref := "TunnelWatchModel") F hK (Lr_mem (by decide)) (shR_0 _) rfl iX5_tube_5 30 (by decide) (by decide +kernel) (fun _ h9 => h9) rfl dX5_tube_95 ?_
            refine sk_iload_n F dX5_tube_98 rfl 1 rfl ?_
            refine sk_iald F hK (Lr_mem (by decide)) (shR_30 _) 0 rfl dX5_tube_99 (fun h16 => ?_)
            refine sk_callVi (As := [.int p1, .int ((up2 v 0 0 s0) 30 p1.toNatClampNeg)]) (rest := []) F hK hA hZ _ (tX5_blowing _) (cwV 2 F.2.2.2.2 gX5_tube_X5_blowing rfl rfl rfl (by decide +kernel) ⟨Nat.le_of_ble_eq_true rfl, Nat.le_of_ble_eq_true rfl⟩) (rc5 hK) rfl rfl (Nat.le_of_ble_eq_true rfl) (by decide) dX5_tube_100 (fun x19 v18 c17 => ?_)
            exact sk_iret F hK hr hlocks dX5_tube_103
  · refine sk_iconst (x := 0) F dX5_tube_32 (by decide) ?_
    exact sk_iret F hK hr hlocks dX5_tube_33
def fX5_tube_21 (p1 : Int32) (p2 : Int32) (v : Mem) : Option (Int32 × Mem) := fX5_tube_22 p1 p2 v 1
set_option maxRecDepth 100000 in
set_option maxHeartbeats 4000000 in
theorem kX5_tube_21 {p : Program} {l : Launch} {e : Env} {s : State} {m : MethodId} {args : Array Value} {below : List Frame} {meth : Method} {c : Code} {D : va_G} {A : Nat → Prop} {cI cS cF cZ cJ : ClassId} {ad : Nat → Nat} {X : va_W} {p1 : Int32} {p2 : Int32} (G : cx p s m args meth c cX5_tube 3 wsX5_tube RX5 D (ty5 cI cS cF cZ cJ) A (some .int)) (v : Mem) : sk p l e rmX5_tube s m args below meth c D A 3 0 0 (fun res => MQ below (qi D A (ty5 cI cS cF cZ cJ) (Wr cI cZ ad X) res) args s 0 0 A) (Wr cI cZ ad X v) 21 [(0, .ref (ad 0)), (1, .int p1), (2, .int p2)] [.ref (ad 0)] (fX5_tube_21 p1 p2 v) := by
  obtain ⟨F, hK, hA, hZ, hr, hlocks⟩ := G
  refine sk_eq (K' := fX5_tube_22 p1 p2 v 1) rfl ?_
  refine sk_iconst (x := 1) F dX5_tube_21 (by decide) ?_
  exact kX5_tube_22 ⟨F, hK, hA, hZ, hr, hlocks⟩ v 1
def fX5_tube (p1 : Int32) (p2 : Int32) (v : Mem) : Option (Int32 × Mem) := bd (fX5_isTube p1 v) fun x3 v2 => if x3 = 0 then fX5_tube_21 p1 p2 v2 else if p2 < 0 then fX5_tube_21 p1 p2 v2 else if 4 < p2 then fX5_tube_21 p1 p2 v2 else fX5_tube_22 p1 p2 v2 0
set_option maxRecDepth 100000 in
set_option maxHeartbeats 4000000 in
theorem kX5_tube_0 {p : Program} {l : Launch} {e : Env} {s : State} {m : MethodId} {args : Array Value} {below : List Frame} {meth : Method} {c : Code} {D : va_G} {A : Nat → Prop} {cI cS cF cZ cJ : ClassId} {ad : Nat → Nat} {X : va_W} {p1 : Int32} {p2 : Int32} (G : cx p s m args meth c cX5_tube 3 wsX5_tube RX5 D (ty5 cI cS cF cZ cJ) A (some .int)) (v : Mem) : sk p l e rmX5_tube s m args below meth c D A 3 0 0 (fun res => MQ below (qi D A (ty5 cI cS cF cZ cJ) (Wr cI cZ ad X) res) args s 0 0 A) (Wr cI cZ ad X v) 0 [(0, .ref (ad 0)), (1, .int p1), (2, .int p2)] [] (fX5_tube p1 p2 v) := by
  obtain ⟨F, hK, hA, hZ, hr, hlocks⟩ := G
  refine sk_eq (K' := bd (fX5_isTube p1 v) fun x3 v2 => if x3 = 0 then fX5_tube_21 p1 p2 v2 else if p2 < 0 then fX5_tube_21 p1 p2 v2 else if 4 < p2 then fX5_tube_21 p1 p2 v2 else fX5_tube_22 p1 p2 v2 0) rfl ?_
  refine sk_aload_n F dX5_tube_0 rfl 0 rfl ?_
  refine sk_iload_n F dX5_tube_1 rfl 1 rfl ?_
  refine sk_callSi (As := [.int p1]) (rest := [.ref (ad 0)]) F hK hA hZ _ (tX5_isTube _) (va_cwS 1 F.2.2.2.2 gX5_tube_X5_isTube rfl rfl rfl (by decide +kernel) ⟨Nat.le_of_ble_eq_true rfl, Nat.le_of_ble_eq_true rfl⟩) rfl rfl (Nat.le_of_ble_eq_true rfl) (by decide) dX5_tube_2 (fun x3 v2 c1 => ?_)
  refine sk_if_eq F 21 dX5_tube_5 (by decide) (fun h4 => ?_) (fun h4 => ?_)
  · exact kX5_tube_21 ⟨F, hK, hA, hZ, hr, hlocks⟩ v2
  · refine sk_iload_n F dX5_tube_8 rfl 2 rfl ?_
    refine sk_if_lt F 21 dX5_tube_9 (by decide) (fun h5 => ?_) (fun h5 => ?_)
    · exact kX5_tube_21 ⟨F, hK, hA, hZ, hr, hlocks⟩ v2
    · refine sk_iload_n F dX5_tube_12 rfl 2 rfl ?_
      refine sk_iconst (x := 4) F dX5_tube_13 (by decide) ?_
      refine sk_icmp_gt F 21 dX5_tube_14 (by decide) (fun h6 => ?_) (fun h6 => ?_)
      · exact kX5_tube_21 ⟨F, hK, hA, hZ, hr, hlocks⟩ v2
      · refine sk_iconst (x := 0) F dX5_tube_17 (by decide) ?_
        refine sk_goto F 22 dX5_tube_18 (by decide) ?_
        exact kX5_tube_22 ⟨F, hK, hA, hZ, hr, hlocks⟩ v2 0
theorem tX5_tube {l : Launch} {D : va_G} {A : Nat → Prop} {cI cS cF cZ cJ : ClassId} {ad : Nat → Nat} {X : va_W} {p1 : Int32} {p2 : Int32} (v : Mem) : CI l yX5_tube wsX5_tube rmX5_tube D A (ty5 cI cS cF cZ cJ) (Wr cI cZ ad X) [.ref (ad 0), .int p1, .int p2] v (fX5_tube p1 p2 v) :=
  CI_of (cc := cX5_tube) (maxL := 3) (ret := (some .int)) (by decide) rfl (Nat.le_of_ble_eq_true rfl) (fun p e s m below meth c G => kX5_tube_0 G v)
def rmX5_device : Room := { frames := 2, cells := 0, slots := 0, locals := 42 }
theorem iX5_device_5 : ∀ w ∈ wsX50, w ∈ wsX5_device := by decide +kernel
def fX5_device_119 (p1 : Int32) (p2 : Int32) (p3 : Int32) (v : Mem) (l4 : Int32) (s0 : Int32) : Option (Int32 × Mem) := gd (inb l4 28) (if (v 11 l4.toNatClampNeg) = 0 then some (s0 + 0, v) else some (s0 + 2, v))
set_option maxRecDepth 100000 in
set_option maxHeartbeats 4000000 in
theorem kX5_device_119 {p : Program} {l : Launch} {e : Env} {s : State} {m : MethodId} {args : Array Value} {below : List Frame} {meth : Method} {c : Code} {D : va_G} {A : Nat → Prop} {cI cS cF cZ cJ : ClassId} {ad : Nat → Nat} {X : va_W} {p1 : Int32} {p2 : Int32} {p3 : Int32} (G : cx p s m args meth c cX5_device 6 wsX5_device RX5 D (ty5 cI cS cF cZ cJ) A (some .int)) (v : Mem) (l4 : Int32) (s0 : Int32) : sk p l e rmX5_device s m args below meth c D A 6 0 0 (fun res => MQ below (qi D A (ty5 cI cS cF cZ cJ) (Wr cI cZ ad X) res) args s 0 0 A) (Wr cI cZ ad X v) 119 [(0, .ref (ad 0)), (4, .int l4)] [.int s0] (fX5_device_119 p1 p2 p3 v l4 s0) := by
  obtain ⟨F, hK, hA, hZ, hr, hlocks⟩ := G
  refine sk_eq (K' := gd (inb l4 28) (if (v 11 l4.toNatClampNeg) = 0 then some (s0 + 0, v) else some (s0 + 2, v))) rfl ?_
  refine sk_aload_n F dX5_device_119 rfl 0 rfl ?_
  refine sk_get (ref := "TunnelWatchModel") F hK (Lr_mem (by decide)) (shR_0 _) rfl iX5_device_5 11 (by decide) (by decide +kernel) (fun _ h9 => h9) rfl dX5_device_120 ?_
  refine sk_iload F dX5_device_123 1 rfl ?_
  refine sk_zald F hK (Lr_mem (by decide)) (shR_11 _) 3 rfl dX5_device_125 (fun h26 => ?_)
  refine sk_if_eq F 133 dX5_device_126 (by decide) (fun h27 => ?_) (fun h27 => ?_)
  · refine sk_iconst (x := 0) F dX5_device_133 (by decide) ?_
    refine sk_iadd F dX5_device_134 ?_
    exact sk_iret F hK hr hlocks dX5_device_135
  · refine sk_iconst (x := 2) F dX5_device_129 (by decide) ?_
    refine sk_goto F 134 dX5_device_130 (by decide) ?_
    refine sk_iadd F dX5_device_134 ?_
    exact sk_iret F hK hr hlocks dX5_device_135
def fX5_device_168 (p1 : Int32) (p2 : Int32) (p3 : Int32) (v : Mem) : Option (Int32 × Mem) := if 2 ≤ p2 then some (0, v) else some ((-1), v)
set_option maxRecDepth 100000 in
set_option maxHeartbeats 4000000 in
theorem kX5_device_168 {p : Program} {l : Launch} {e : Env} {s : State} {m : MethodId} {args : Array Value} {below : List Frame} {meth : Method} {c : Code} {D : va_G} {A : Nat → Prop} {cI cS cF cZ cJ : ClassId} {ad : Nat → Nat} {X : va_W} {p1 : Int32} {p2 : Int32} {p3 : Int32} (G : cx p s m args meth c cX5_device 6 wsX5_device RX5 D (ty5 cI cS cF cZ cJ) A (some .int)) (v : Mem) : sk p l e rmX5_device s m args below meth c D A 6 0 0 (fun res => MQ below (qi D A (ty5 cI cS cF cZ cJ) (Wr cI cZ ad X) res) args s 0 0 A) (Wr cI cZ ad X v) 168 [(2, .int p2)] [] (fX5_device_168 p1 p2 p3 v) := by
  obtain ⟨F, hK, hA, hZ, hr, hlocks⟩ := G
  refine sk_eq (K' := if 2 ≤ p2 then some (0, v) else some ((-1), v)) rfl ?_
  refine sk_iload_n F dX5_device_168 rfl 0 rfl ?_
  refine sk_iconst (x := 2) F dX5_device_169 (by decide) ?_
  refine sk_icmp_ge F 177 dX5_device_170 (by decide) (fun h28 => ?_) (fun h28 => ?_)
  · refine sk_iconst (x := 0) F dX5_device_177 (by decide) ?_
    exact sk_iret F hK hr hlocks dX5_device_178
  · refine sk_iconst (x := (-1)) F dX5_device_173 (by decide) ?_
    refine sk_goto F 178 dX5_device_174 (by decide) ?_
    exact sk_iret F hK hr hlocks dX5_device_178
def fX5_device_213 (p1 : Int32) (p2 : Int32) (p3 : Int32) (v : Mem) (s0 : Int32) : Option (Int32 × Mem) := if 0 ≤ s0 then some (s0, v) else some (0, v)
set_option maxRecDepth 100000 in
set_option maxHeartbeats 4000000 in
theorem kX5_device_213 {p : Program} {l : Launch} {e : Env} {s : State} {m : MethodId} {args : Array Value} {below : List Frame} {meth : Method} {c : Code} {D : va_G} {A : Nat → Prop} {cI cS cF cZ cJ : ClassId} {ad : Nat → Nat} {X : va_W} {p1 : Int32} {p2 : Int32} {p3 : Int32} (G : cx p s m args meth c cX5_device 6 wsX5_device RX5 D (ty5 cI cS cF cZ cJ) A (some .int)) (v : Mem) (s0 : Int32) : sk p l e rmX5_device s m args below meth c D A 6 0 0 (fun res => MQ below (qi D A (ty5 cI cS cF cZ cJ) (Wr cI cZ ad X) res) args s 0 0 A) (Wr cI cZ ad X v) 213 [] [.int s0] (fX5_device_213 p1 p2 p3 v s0) := by
  obtain ⟨F, hK, hA, hZ, hr, hlocks⟩ := G
  refine sk_eq (K' := if 0 ≤ s0 then some (s0, v) else some (0, v)) rfl ?_
  refine sk_istore F dX5_device_213 (by decide) rfl ?_
  refine sk_iload F dX5_device_215 0 rfl ?_
  refine sk_if_ge F 224 dX5_device_217 (by decide) (fun h29 => ?_) (fun h29 => ?_)
  · refine sk_iload F dX5_device_224 0 rfl ?_
    exact sk_iret F hK hr hlocks dX5_device_226
  · refine sk_iconst (x := 0) F dX5_device_220 (by decide) ?_
    refine sk_goto F 226 dX5_device_221 (by decide) ?_
    exact sk_iret F hK hr hlocks dX5_device_226
def fX5_device_24 (p1 : Int32) (p2 : Int32) (p3 : Int32) (v : Mem) (s0 : Int32) : Option (Int32 × Mem) := if ((up2 v 0 0 s0) 0 0) ≤ 0 then if p3 = 0 then gd (inb ((14 * p1) + p2) 28) (some ((up2 v 0 0 s0) 7 ((14 * p1) + p2).toNatClampNeg, up2 v 0 0 s0)) else if p3 = 1 then gd (inb ((14 * p1) + p2) 28) (some ((up2 v 0 0 s0) 8 ((14 * p1) + p2).toNatClampNeg, up2 v 0 0 s0)) else if p3 = 2 then gd (inb ((14 * p1) + p2) 28) (some ((up2 v 0 0 s0) 9 ((14 * p1) + p2).toNatClampNeg, up2 v 0 0 s0)) else if p3 = 3 then gd (inb ((14 * p1) + p2) 28) (if ((up2 v 0 0 s0) 10 ((14 * p1) + p2).toNatClampNeg) = 0 then fX5_device_119 p1 p2 p3 (up2 v 0 0 s0) ((14 * p1) + p2) 0 else fX5_device_119 p1 p2 p3 (up2 v 0 0 s0) ((14 * p1) + p2) 1) else if p3 = 4 then if 2 ≤ p2 then gd (inb ((14 * p1) + p2) 28) (some ((up2 v 0 0 s0) 13 ((14 * p1) + p2).toNatClampNeg, up2 v 0 0 s0)) else some ((-1), up2 v 0 0 s0) else if p2 < 2 then fX5_device_168 p1 p2 p3 (up2 v 0 0 s0) else gd (inb ((14 * p1) + p2) 28) (if ((up2 v 0 0 s0) 14 ((14 * p1) + p2).toNatClampNeg) = 0 then fX5_device_168 p1 p2 p3 (up2 v 0 0 s0) else gd (inb ((14 * p1) + p2) 28) (if ((up2 v 0 0 s0) 7 ((14 * p1) + p2).toNatClampNeg) = 0 then gd (inb ((14 * p1) + p2) 28) (fX5_device_213 p1 p2 p3 (up2 v 0 0 s0) ((((up2 v 0 0 s0) 15 ((14 * p1) + p2).toNatClampNeg) + ((up2 v 0 0 s0) 0 2)) - ((up2 v 0 0 s0) 0 4))) else fX5_device_213 p1 p2 p3 (up2 v 0 0 s0) ((up2 v 0 0 s0) 0 2))) else some (0, up2 v 0 0 s0)
set_option maxRecDepth 100000 in
set_option maxHeartbeats 4000000 in
theorem kX5_device_24 {p : Program} {l : Launch} {e : Env} {s : State} {m : MethodId} {args : Array Value} {below : List Frame} {meth : Method} {c : Code} {D : va_G} {A : Nat → Prop} {cI cS cF cZ cJ : ClassId} {ad : Nat → Nat} {X : va_W} {p1 : Int32} {p2 : Int32} {p3 : Int32} (G : cx p s m args meth c cX5_device 6 wsX5_device RX5 D (ty5 cI cS cF cZ cJ) A (some .int)) (v : Mem) (s0 : Int32) : sk p l e rmX5_device s m args below meth c D A 6 0 0 (fun res => MQ below (qi D A (ty5 cI cS cF cZ cJ) (Wr cI cZ ad X) res) args s 0 0 A) (Wr cI cZ ad X v) 24 [(0, .ref (ad 0)), (1, .int p1), (2, .int p2), (3, .int p3)] [.int s0, .ref (ad 0)] (fX5_device_24 p1 p2 p3 v s0) := by
  obtain ⟨F, hK, hA, hZ, hr, hlocks⟩ := G
  refine sk_eq (K' := if ((up2 v 0 0 s0) 0 0) ≤ 0 then if p3 = 0 then gd (inb ((14 * p1) + p2) 28) (some ((up2 v 0 0 s0) 7 ((14 * p1) + p2).toNatClampNeg, up2 v 0 0 s0)) else if p3 = 1 then gd (inb ((14 * p1) + p2) 28) (some ((up2 v 0 0 s0) 8 ((14 * p1) + p2).toNatClampNeg, up2 v 0 0 s0)) else if p3 = 2 then gd (inb ((14 * p1) + p2) 28) (some ((up2 v 0 0 s0) 9 ((14 * p1) + p2).toNatClampNeg, up2 v 0 0 s0)) else if p3 = 3 then gd (inb ((14 * p1) + p2) 28) (if ((up2 v 0 0 s0) 10 ((14 * p1) + p2).toNatClampNeg) = 0 then fX5_device_119 p1 p2 p3 (up2 v 0 0 s0) ((14 * p1) + p2) 0 else fX5_device_119 p1 p2 p3 (up2 v 0 0 s0) ((14 * p1) + p2) 1) else if p3 = 4 then if 2 ≤ p2 then gd (inb ((14 * p1) + p2) 28) (some ((up2 v 0 0 s0) 13 ((14 * p1) + p2).toNatClampNeg, up2 v 0 0 s0)) else some ((-1), up2 v 0 0 s0) else if p2 < 2 then fX5_device_168 p1 p2 p3 (up2 v 0 0 s0) else gd (inb ((14 * p1) + p2) 28) (if ((up2 v 0 0 s0) 14 ((14 * p1) + p2).toNatClampNeg) = 0 then fX5_device_168 p1 p2 p3 (up2 v 0 0 s0) else gd (inb ((14 * p1) + p2) 28) (if ((up2 v 0 0 s0) 7 ((14 * p1) + p2).toNatClampNeg) = 0 then gd (inb ((14 * p1) + p2) 28) (fX5_device_213 p1 p2 p3 (up2 v 0 0 s0) ((((up2 v 0 0 s0) 15 ((14 * p1) + p2).toNatClampNeg) + ((up2 v 0 0 s0) 0 2)) - ((up2 v 0 0 s0) 0 4))) else fX5_device_213 p1 p2 p3 (up2 v 0 0 s0) ((up2 v 0 0 s0) 0 2))) else some (0, up2 v 0 0 s0)) rfl ?_
  refine sk_put (ref := "TunnelWatchModel") (fs := fun r => fs5 ad r) (ty := .int) F hK Lr_nd (Lr_mem (by decide)) shR_0 rfl iX5_device_5 tyX5 tyX5_ok nmX5 0 (by decide) (by decide +kernel) (fun _ h9 => h9) rfl (by decide +kernel) rfl rfl (Nat.le_of_ble_eq_true rfl) rfl dX5_device_24 ?_
  refine sk_aload_n F dX5_device_27 rfl 0 rfl ?_
  refine sk_get (ref := "TunnelWatchModel") F hK (Lr_mem (by decide)) (shR_0 _) rfl iX5_device_5 0 (by decide) (by decide +kernel) (fun _ h9 => h9) rfl dX5_device_28 ?_
  refine sk_if_le F 36 dX5_device_31 (by decide) (fun h7 => ?_) (fun h7 => ?_)
  · refine sk_bipush (x := 14) F dX5_device_36 (by decide) ?_
    refine sk_iload_n F dX5_device_38 rfl 1 rfl ?_
    refine sk_imul F dX5_device_39 ?_
    refine sk_iload_n F dX5_device_40 rfl 2 rfl ?_
    refine sk_iadd F dX5_device_41 ?_
    refine sk_istore F dX5_device_42 (by decide) rfl ?_
    refine sk_iload_n F dX5_device_44 rfl 4 rfl ?_
    refine sk_tcase F 0 80 dX5_device_45 (by decide) (by decide) rfl (by decide) (fun h8 => ?_) (fun h8 => ?_)
    · refine sk_aload_n F dX5_device_80 rfl 1 rfl ?_
      refine sk_get (ref := "TunnelWatchModel") F hK (Lr_mem (by decide)) (shR_0 _) rfl iX5_device_5 7 (by decide) (by decide +kernel) (fun _ h9 => h9) rfl dX5_device_81 ?_
      refine sk_iload F dX5_device_84 0 rfl ?_
      refine sk_iald F hK (Lr_mem (by decide)) (shR_7 _) 0 rfl dX5_device_86 (fun h9 => ?_)
      exact sk_iret F hK hr hlocks dX5_device_87
    · refine sk_tcase F 1 88 dX5_device_45 (by decide) (by decide) rfl (by decide) (fun h10 => ?_) (fun h10 => ?_)
      · refine sk_aload_n F dX5_device_88 rfl 1 rfl ?_
        refine sk_get (ref := "TunnelWatchModel") F hK (Lr_mem (by decide)) (shR_0 _) rfl iX5_device_5 8 (by decide) (by decide +kernel) (fun _ h9 => h9) rfl dX5_device_89 ?_
        refine sk_iload F dX5_device_92 0 rfl ?_
        refine sk_iald F hK (Lr_mem (by decide)) (shR_8 _) 0 rfl dX5_device_94 (fun h11 => ?_)
        exact sk_iret F hK hr hlocks dX5_device_95
      · refine sk_tcase F 2 96 dX5_device_45 (by decide) (by decide) rfl (by decide) (fun h12 => ?_) (fun h12 => ?_)
        · refine sk_aload_n F dX5_device_96 rfl 1 rfl ?_
          refine sk_get (ref := "TunnelWatchModel") F hK (Lr_mem (by decide)) (shR_0 _) rfl iX5_device_5 9 (by decide) (by decide +kernel) (fun _ h9 => h9) rfl dX5_device_97 ?_
          refine sk_iload F dX5_device_100 0 rfl ?_
          refine sk_iald F hK (Lr_mem (by decide)) (shR_9 _) 0 rfl dX5_device_102 (fun h13 => ?_)
          exact sk_iret F hK hr hlocks dX5_device_103
        · refine sk_tcase F 3 104 dX5_device_45 (by decide) (by decide) rfl (by decide) (fun h14 => ?_) (fun h14 => ?_)
          · refine sk_aload_n F dX5_device_104 rfl 1 rfl ?_
            refine sk_get (ref := "TunnelWatchModel") F hK (Lr_mem (by decide)) (shR_0 _) rfl iX5_device_5 10 (by decide) (by decide +kernel) (fun _ h9 => h9) rfl dX5_device_105 ?_
            refine sk_iload F dX5_device_108 0 rfl ?_
            refine sk_zald F hK (Lr_mem (by decide)) (shR_10 _) 3 rfl dX5_device_110 (fun h15 => ?_)
            refine sk_if_eq F 118 dX5_device_111 (by decide) (fun h16 => ?_) (fun h16 => ?_)
            · refine sk_iconst (x := 0) F dX5_device_118 (by decide) ?_
              exact sk_lv [1, 0] rfl (kX5_device_119 ⟨F, hK, hA, hZ, hr, hlocks⟩ (up2 v 0 0 s0) ((14 * p1) + p2) 0)
            · refine sk_iconst (x := 1) F dX5_device_114 (by decide) ?_
              refine sk_goto F 119 dX5_device_115 (by decide) ?_
              exact sk_lv [1, 0] rfl (kX5_device_119 ⟨F, hK, hA, hZ, hr, hlocks⟩ (up2 v 0 0 s0) ((14 * p1) + p2) 1)
          · refine sk_tcase F 4 136 dX5_device_45 (by decide) (by decide) rfl (by decide) (fun h17 => ?_) (fun h17 => ?_)
            · refine sk_iload_n F dX5_device_136 rfl 3 rfl ?_
              refine sk_iconst (x := 2) F dX5_device_137 (by decide) ?_
              refine sk_icmp_ge F 145 dX5_device_138 (by decide) (fun h18 => ?_) (fun h18 => ?_)
              · refine sk_aload_n F dX5_device_145 rfl 1 rfl ?_
                refine sk_get (ref := "TunnelWatchModel") F hK (Lr_mem (by decide)) (shR_0 _) rfl iX5_device_5 13 (by decide) (by decide +kernel) (fun _ h9 => h9) rfl dX5_device_146 ?_
                refine sk_iload F dX5_device_149 0 rfl ?_
                refine sk_iald F hK (Lr_mem (by decide)) (shR_13 _) 0 rfl dX5_device_151 (fun h19 => ?_)
                exact sk_iret F hK hr hlocks dX5_device_152
              · refine sk_iconst (x := (-1)) F dX5_device_141 (by decide) ?_
                refine sk_goto F 152 dX5_device_142 (by decide) ?_
                exact sk_iret F hK hr hlocks dX5_device_152
            · refine sk_tdef F 153 dX5_device_45 (ts_out (m := 4) (by decide) (fun j hj => match j, hj with | 0, _ => h8 | 1, _ => h10 | 2, _ => h12 | 3, _ => h14 | 4, _ => h17 | k + 5, hj => absurd hj (by omega))) (by decide) ?_
              refine sk_iload_n F dX5_device_153 rfl 3 rfl ?_
              refine sk_iconst (x := 2) F dX5_device_154 (by decide) ?_
              refine sk_icmp_lt F 168 dX5_device_155 (by decide) (fun h20 => ?_) (fun h20 => ?_)
              · exact sk_lv [3] rfl (kX5_device_168 ⟨F, hK, hA, hZ, hr, hlocks⟩ (up2 v 0 0 s0))
              · refine sk_aload_n F dX5_device_158 rfl 1 rfl ?_
                refine sk_get (ref := "TunnelWatchModel") F hK (Lr_mem (by decide)) (shR_0 _) rfl iX5_device_5 14 (by decide) (by decide +kernel) (fun _ h9 => h9) rfl dX5_device_159 ?_
                refine sk_iload F dX5_device_162 0 rfl ?_
                refine sk_iald F hK (Lr_mem (by decide)) (shR_14 _) 0 rfl dX5_device_164 (fun h21 => ?_)
                refine sk_if_ne F 179 dX5_device_165 (by decide) (fun h22 => ?_) (fun h22 => ?_)
                · refine sk_aload_n F dX5_device_179 rfl 1 rfl ?_
                  refine sk_get (ref := "TunnelWatchModel") F hK (Lr_mem (by decide)) (shR_0 _) rfl iX5_device_5 7 (by decide) (by decide +kernel) (fun _ h9 => h9) rfl dX5_device_180 ?_
                  refine sk_iload F dX5_device_183 0 rfl ?_
                  refine sk_iald F hK (Lr_mem (by decide)) (shR_7 _) 0 rfl dX5_device_185 (fun h23 => ?_)
                  refine sk_if_eq F 196 dX5_device_186 (by decide) (fun h24 => ?_) (fun h24 => ?_)
                  · refine sk_aload_n F dX5_device_196 rfl 1 rfl ?_
                    refine sk_get (ref := "TunnelWatchModel") F hK (Lr_mem (by decide)) (shR_0 _) rfl iX5_device_5 15 (by decide) (by decide +kernel) (fun _ h9 => h9) rfl dX5_device_197 ?_
                    refine sk_iload F dX5_device_200 0 rfl ?_
                    refine sk_iald F hK (Lr_mem (by decide)) (shR_15 _) 0 rfl dX5_device_202 (fun h25 => ?_)
                    refine sk_aload_n F dX5_device_203 rfl 1 rfl ?_
                    refine sk_get (ref := "TunnelWatchModel") F hK (Lr_mem (by decide)) (shR_0 _) rfl iX5_device_5 2 (by decide) (by decide +kernel) (fun _ h9 => h9) rfl dX5_device_204 ?_
                    refine sk_iadd F dX5_device_207 ?_
                    refine sk_aload_n F dX5_device_208 rfl 1 rfl ?_
                    refine sk_get (ref := "TunnelWatchModel") F hK (Lr_mem (by decide)) (shR_0 _) rfl iX5_device_5 4 (by decide) (by decide +kernel) (fun _ h9 => h9) rfl dX5_device_209 ?_
                    refine sk_isub F dX5_device_212 ?_
                    exact sk_lv [] rfl (kX5_device_213 ⟨F, hK, hA, hZ, hr, hlocks⟩ (up2 v 0 0 s0) ((((up2 v 0 0 s0) 15 ((14 * p1) + p2).toNatClampNeg) + ((up2 v 0 0 s0) 0 2)) - ((up2 v 0 0 s0) 0 4)))
                  · refine sk_aload_n F dX5_device_189 rfl 1 rfl ?_
                    refine sk_get (ref := "TunnelWatchModel") F hK (Lr_mem (by decide)) (shR_0 _) rfl iX5_device_5 2 (by decide) (by decide +kernel) (fun _ h9 => h9) rfl dX5_device_190 ?_
                    refine sk_goto F 213 dX5_device_193 (by decide) ?_
                    exact sk_lv [] rfl (kX5_device_213 ⟨F, hK, hA, hZ, hr, hlocks⟩ (up2 v 0 0 s0) ((up2 v 0 0 s0) 0 2))
                · exact sk_lv [3] rfl (kX5_device_168 ⟨F, hK, hA, hZ, hr, hlocks⟩ (up2 v 0 0 s0))
  · refine sk_iconst (x := 0) F dX5_device_34 (by decide) ?_
    exact sk_iret F hK hr hlocks dX5_device_35
def fX5_device_23 (p1 : Int32) (p2 : Int32) (p3 : Int32) (v : Mem) : Option (Int32 × Mem) := fX5_device_24 p1 p2 p3 v 1
set_option maxRecDepth 100000 in
set_option maxHeartbeats 4000000 in
theorem kX5_device_23 {p : Program} {l : Launch} {e : Env} {s : State} {m : MethodId} {args : Array Value} {below : List Frame} {meth : Method} {c : Code} {D : va_G} {A : Nat → Prop} {cI cS cF cZ cJ : ClassId} {ad : Nat → Nat} {X : va_W} {p1 : Int32} {p2 : Int32} {p3 : Int32} (G : cx p s m args meth c cX5_device 6 wsX5_device RX5 D (ty5 cI cS cF cZ cJ) A (some .int)) (v : Mem) : sk p l e rmX5_device s m args below meth c D A 6 0 0 (fun res => MQ below (qi D A (ty5 cI cS cF cZ cJ) (Wr cI cZ ad X) res) args s 0 0 A) (Wr cI cZ ad X v) 23 [(0, .ref (ad 0)), (1, .int p1), (2, .int p2), (3, .int p3)] [.ref (ad 0)] (fX5_device_23 p1 p2 p3 v) := by
  obtain ⟨F, hK, hA, hZ, hr, hlocks⟩ := G
  refine sk_eq (K' := fX5_device_24 p1 p2 p3 v 1) rfl ?_
  refine sk_iconst (x := 1) F dX5_device_23 (by decide) ?_
  exact kX5_device_24 ⟨F, hK, hA, hZ, hr, hlocks⟩ v 1
def fX5_device (p1 : Int32) (p2 : Int32) (p3 : Int32) (v : Mem) : Option (Int32 × Mem) := bd (fX5_isDevice p1 p2 v) fun x3 v2 => if x3 = 0 then fX5_device_23 p1 p2 p3 v2 else if p3 < 0 then fX5_device_23 p1 p2 p3 v2 else if 5 < p3 then fX5_device_23 p1 p2 p3 v2 else fX5_device_24 p1 p2 p3 v2 0
set_option maxRecDepth 100000 in
set_option maxHeartbeats 4000000 in
theorem kX5_device_0 {p : Program} {l : Launch} {e : Env} {s : State} {m : MethodId} {args : Array Value} {below : List Frame} {meth : Method} {c : Code} {D : va_G} {A : Nat → Prop} {cI cS cF cZ cJ : ClassId} {ad : Nat → Nat} {X : va_W} {p1 : Int32} {p2 : Int32} {p3 : Int32} (G : cx p s m args meth c cX5_device 6 wsX5_device RX5 D (ty5 cI cS cF cZ cJ) A (some .int)) (v : Mem) : sk p l e rmX5_device s m args below meth c D A 6 0 0 (fun res => MQ below (qi D A (ty5 cI cS cF cZ cJ) (Wr cI cZ ad X) res) args s 0 0 A) (Wr cI cZ ad X v) 0 [(0, .ref (ad 0)), (1, .int p1), (2, .int p2), (3, .int p3)] [] (fX5_device p1 p2 p3 v) := by
  obtain ⟨F, hK, hA, hZ, hr, hlocks⟩ := G
  refine sk_eq (K' := bd (fX5_isDevice p1 p2 v) fun x3 v2 => if x3 = 0 then fX5_device_23 p1 p2 p3 v2 else if p3 < 0 then fX5_device_23 p1 p2 p3 v2 else if 5 < p3 then fX5_device_23 p1 p2 p3 v2 else fX5_device_24 p1 p2 p3 v2 0) rfl ?_
  refine sk_aload_n F dX5_device_0 rfl 0 rfl ?_
  refine sk_aload_n F dX5_device_1 rfl 0 rfl ?_
  refine sk_iload_n F dX5_device_2 rfl 1 rfl ?_
  refine sk_iload_n F dX5_device_3 rfl 2 rfl ?_
  refine sk_callVi (As := [.int p1, .int p2]) (rest := [.ref (ad 0)]) F hK hA hZ _ (tX5_isDevice _) (cwV 2 F.2.2.2.2 gX5_device_X5_isDevice rfl rfl rfl (by decide +kernel) ⟨Nat.le_of_ble_eq_true rfl, Nat.le_of_ble_eq_true rfl⟩) (rc5 hK) rfl rfl (Nat.le_of_ble_eq_true rfl) (by decide) dX5_device_4 (fun x3 v2 c1 => ?_)
  refine sk_if_eq F 23 dX5_device_7 (by decide) (fun h4 => ?_) (fun h4 => ?_)
  · exact kX5_device_23 ⟨F, hK, hA, hZ, hr, hlocks⟩ v2
  · refine sk_iload_n F dX5_device_10 rfl 3 rfl ?_
    refine sk_if_lt F 23 dX5_device_11 (by decide) (fun h5 => ?_) (fun h5 => ?_)
    · exact kX5_device_23 ⟨F, hK, hA, hZ, hr, hlocks⟩ v2
    · refine sk_iload_n F dX5_device_14 rfl 3 rfl ?_
      refine sk_iconst (x := 5) F dX5_device_15 (by decide) ?_
      refine sk_icmp_gt F 23 dX5_device_16 (by decide) (fun h6 => ?_) (fun h6 => ?_)
      · exact kX5_device_23 ⟨F, hK, hA, hZ, hr, hlocks⟩ v2
      · refine sk_iconst (x := 0) F dX5_device_19 (by decide) ?_
        refine sk_goto F 24 dX5_device_20 (by decide) ?_
        exact kX5_device_24 ⟨F, hK, hA, hZ, hr, hlocks⟩ v2 0
theorem tX5_device {l : Launch} {D : va_G} {A : Nat → Prop} {cI cS cF cZ cJ : ClassId} {ad : Nat → Nat} {X : va_W} {p1 : Int32} {p2 : Int32} {p3 : Int32} (v : Mem) : CI l yX5_device wsX5_device rmX5_device D A (ty5 cI cS cF cZ cJ) (Wr cI cZ ad X) [.ref (ad 0), .int p1, .int p2, .int p3] v (fX5_device p1 p2 p3 v) :=
  CI_of (cc := cX5_device) (maxL := 6) (ret := (some .int)) (by decide) rfl (Nat.le_of_ble_eq_true rfl) (fun p e s m below meth c G => kX5_device_0 G v)
def rmX5_load : Room := { frames := 1, cells := 0, slots := 0, locals := 23 }
theorem iX5_load_5 : ∀ w ∈ wsX50, w ∈ wsX5_load := by decide +kernel
def fX5_load (v : Mem) : Option (Int32 × Mem) := bd (fX5_loadOf (up2 v 0 0 0)) fun x3 v2 => some (x3, v2)
set_option maxRecDepth 100000 in
set_option maxHeartbeats 4000000 in
theorem kX5_load_0 {p : Program} {l : Launch} {e : Env} {s : State} {m : MethodId} {args : Array Value} {below : List Frame} {meth : Method} {c : Code} {D : va_G} {A : Nat → Prop} {cI cS cF cZ cJ : ClassId} {ad : Nat → Nat} {X : va_W} (G : cx p s m args meth c cX5_load 1 wsX5_load RX5 D (ty5 cI cS cF cZ cJ) A (some .int)) (v : Mem) : sk p l e rmX5_load s m args below meth c D A 1 0 0 (fun res => MQ below (qi D A (ty5 cI cS cF cZ cJ) (Wr cI cZ ad X) res) args s 0 0 A) (Wr cI cZ ad X v) 0 [(0, .ref (ad 0))] [] (fX5_load v) := by
  obtain ⟨F, hK, hA, hZ, hr, hlocks⟩ := G
  refine sk_eq (K' := bd (fX5_loadOf (up2 v 0 0 0)) fun x3 v2 => some (x3, v2)) rfl ?_
  refine sk_aload_n F dX5_load_0 rfl 0 rfl ?_
  refine sk_iconst (x := 0) F dX5_load_1 (by decide) ?_
  refine sk_put (ref := "TunnelWatchModel") (fs := fun r => fs5 ad r) (ty := .int) F hK Lr_nd (Lr_mem (by decide)) shR_0 rfl iX5_load_5 tyX5 tyX5_ok nmX5 0 (by decide) (by decide +kernel) (fun _ h9 => h9) rfl (by decide +kernel) rfl rfl (Nat.le_of_ble_eq_true rfl) rfl dX5_load_2 ?_
  refine sk_aload_n F dX5_load_5 rfl 0 rfl ?_
  refine sk_callVi (As := []) (rest := []) F hK hA hZ _ (tX5_loadOf _) (cwV 0 F.2.2.2.2 gX5_load_X5_loadOf rfl rfl rfl (by decide +kernel) ⟨Nat.le_of_ble_eq_true rfl, Nat.le_of_ble_eq_true rfl⟩) (rc5 hK) rfl rfl (Nat.le_of_ble_eq_true rfl) (by decide) dX5_load_6 (fun x3 v2 c1 => ?_)
  exact sk_iret F hK hr hlocks dX5_load_9
theorem tX5_load {l : Launch} {D : va_G} {A : Nat → Prop} {cI cS cF cZ cJ : ClassId} {ad : Nat → Nat} {X : va_W} (v : Mem) : CI l yX5_load wsX5_load rmX5_load D A (ty5 cI cS cF cZ cJ) (Wr cI cZ ad X) [.ref (ad 0)] v (fX5_load v) :=
  CI_of (cc := cX5_load) (maxL := 1) (ret := (some .int)) (by decide) rfl (Nat.le_of_ble_eq_true rfl) (fun p e s m below meth c G => kX5_load_0 G v)
def rmX5_starts : Room := { frames := 1, cells := 0, slots := 0, locals := 22 }
theorem iX5_starts_5 : ∀ w ∈ wsX50, w ∈ wsX5_starts := by decide +kernel
def fX5_starts (v : Mem) : Option (Int32 × Mem) := bd (fX5_startsOf (up2 v 0 0 0)) fun x3 v2 => some (x3, v2)
set_option maxRecDepth 100000 in
set_option maxHeartbeats 4000000 in
theorem kX5_starts_0 {p : Program} {l : Launch} {e : Env} {s : State} {m : MethodId} {args : Array Value} {below : List Frame} {meth : Method} {c : Code} {D : va_G} {A : Nat → Prop} {cI cS cF cZ cJ : ClassId} {ad : Nat → Nat} {X : va_W} (G : cx p s m args meth c cX5_starts 1 wsX5_starts RX5 D (ty5 cI cS cF cZ cJ) A (some .int)) (v : Mem) : sk p l e rmX5_starts s m args below meth c D A 1 0 0 (fun res => MQ below (qi D A (ty5 cI cS cF cZ cJ) (Wr cI cZ ad X) res) args s 0 0 A) (Wr cI cZ ad X v) 0 [(0, .ref (ad 0))] [] (fX5_starts v) := by
  obtain ⟨F, hK, hA, hZ, hr, hlocks⟩ := G
  refine sk_eq (K' := bd (fX5_startsOf (up2 v 0 0 0)) fun x3 v2 => some (x3, v2)) rfl ?_
  refine sk_aload_n F dX5_starts_0 rfl 0 rfl ?_
  refine sk_iconst (x := 0) F dX5_starts_1 (by decide) ?_
  refine sk_put (ref := "TunnelWatchModel") (fs := fun r => fs5 ad r) (ty := .int) F hK Lr_nd (Lr_mem (by decide)) shR_0 rfl iX5_starts_5 tyX5 tyX5_ok nmX5 0 (by decide) (by decide +kernel) (fun _ h9 => h9) rfl (by decide +kernel) rfl rfl (Nat.le_of_ble_eq_true rfl) rfl dX5_starts_2 ?_
  refine sk_aload_n F dX5_starts_5 rfl 0 rfl ?_
  refine sk_callVi (As := []) (rest := []) F hK hA hZ _ (tX5_startsOf _) (cwV 0 F.2.2.2.2 gX5_starts_X5_startsOf rfl rfl rfl (by decide +kernel) ⟨Nat.le_of_ble_eq_true rfl, Nat.le_of_ble_eq_true rfl⟩) (rc5 hK) rfl rfl (Nat.le_of_ble_eq_true rfl) (by decide) dX5_starts_6 (fun x3 v2 c1 => ?_)
  exact sk_iret F hK hr hlocks dX5_starts_9
theorem tX5_starts {l : Launch} {D : va_G} {A : Nat → Prop} {cI cS cF cZ cJ : ClassId} {ad : Nat → Nat} {X : va_W} (v : Mem) : CI l yX5_starts wsX5_starts rmX5_starts D A (ty5 cI cS cF cZ cJ) (Wr cI cZ ad X) [.ref (ad 0)] v (fX5_starts v) :=
  CI_of (cc := cX5_starts) (maxL := 1) (ret := (some .int)) (by decide) rfl (Nat.le_of_ble_eq_true rfl) (fun p e s m below meth c G => kX5_starts_0 G v)
def rmX5_broken : Room := { frames := 0, cells := 0, slots := 0, locals := 0 }
theorem iX5_broken_5 : ∀ w ∈ wsX50, w ∈ wsX5_broken := by decide +kernel
def fX5_broken (v : Mem) : Option (Int32 × Mem) := some ((up2 v 0 0 0) 0 33, up2 v 0 0 0)
set_option maxRecDepth 100000 in
set_option maxHeartbeats 4000000 in
theorem kX5_broken_0 {p : Program} {l : Launch} {e : Env} {s : State} {m : MethodId} {args : Array Value} {below : List Frame} {meth : Method} {c : Code} {D : va_G} {A : Nat → Prop} {cI cS cF cZ cJ : ClassId} {ad : Nat → Nat} {X : va_W} (G : cx p s m args meth c cX5_broken 1 wsX5_broken RX5 D (ty5 cI cS cF cZ cJ) A (some .int)) (v : Mem) : sk p l e rmX5_broken s m args below meth c D A 1 0 0 (fun res => MQ below (qi D A (ty5 cI cS cF cZ cJ) (Wr cI cZ ad X) res) args s 0 0 A) (Wr cI cZ ad X v) 0 [(0, .ref (ad 0))] [] (fX5_broken v) := by
  obtain ⟨F, hK, hA, hZ, hr, hlocks⟩ := G
  refine sk_eq (K' := some ((up2 v 0 0 0) 0 33, up2 v 0 0 0)) rfl ?_
  refine sk_aload_n F dX5_broken_0 rfl 0 rfl ?_
  refine sk_iconst (x := 0) F dX5_broken_1 (by decide) ?_
  refine sk_put (ref := "TunnelWatchModel") (fs := fun r => fs5 ad r) (ty := .int) F hK Lr_nd (Lr_mem (by decide)) shR_0 rfl iX5_broken_5 tyX5 tyX5_ok nmX5 0 (by decide) (by decide +kernel) (fun _ h9 => h9) rfl (by decide +kernel) rfl rfl (Nat.le_of_ble_eq_true rfl) rfl dX5_broken_2 ?_
  refine sk_aload_n F dX5_broken_5 rfl 0 rfl ?_
  refine sk_get (ref := "TunnelWatchModel") F hK (Lr_mem (by decide)) (shR_0 _) rfl iX5_broken_5 33 (by decide) (by decide +kernel) (fun _ h9 => h9) rfl dX5_broken_6 ?_
  exact sk_iret F hK hr hlocks dX5_broken_9
theorem tX5_broken {l : Launch} {D : va_G} {A : Nat → Prop} {cI cS cF cZ cJ : ClassId} {ad : Nat → Nat} {X : va_W} (v : Mem) : CI l yX5_broken wsX5_broken rmX5_broken D A (ty5 cI cS cF cZ cJ) (Wr cI cZ ad X) [.ref (ad 0)] v (fX5_broken v) :=
  CI_of (cc := cX5_broken) (maxL := 1) (ret := (some .int)) (by decide) rfl (Nat.le_of_ble_eq_true rfl) (fun p e s m below meth c G => kX5_broken_0 G v)
