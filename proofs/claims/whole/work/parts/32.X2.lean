def rmX2_isOn : Room := { frames := 0, cells := 0, slots := 0, locals := 0 }
theorem iX2_isOn_2 : ∀ w ∈ wsX20, w ∈ wsX2_isOn := by decide +kernel
def fX2_isOn_20 (o : Nat) (v : Mem) : Option (Int32 × Mem) := some (0, v)
set_option maxRecDepth 100000 in
set_option maxHeartbeats 4000000 in
theorem kX2_isOn_20 {p : Program} {l : Launch} {e : Env} {s : State} {m : MethodId} {args : Array Value} {below : List Frame} {meth : Method} {c : Code} {D : va_G} {A : Nat → Prop} {cI cS cF cZ cJ : ClassId} {ad : Nat → Nat} {X : va_W} {n : Nat} {o : Nat} (G : cx p s m args meth c cX2_isOn 1 wsX2_isOn RX2 D (ty5 cI cS cF cZ cJ) A (some .boolean)) (hn : n ≤ 24) (ho : kC n o = 2) (v : Mem) : sk p l e rmX2_isOn s m args below meth c D A 1 0 0 (fun res => MQ below (qi D A (ty5 cI cS cF cZ cJ) (Wc cI cS cF ad n X) res) args s 0 0 A) (Wc cI cS cF ad n X v) 20 [] [] (fX2_isOn_20 o v) := by
  obtain ⟨F, hK, hA, hZ, hr, hlocks⟩ := G
  refine sk_eq (K' := some (0, v)) rfl ?_
  refine sk_iconst (x := 0) F dX2_isOn_20 (by decide) ?_
  exact sk_zretc F hK hr hlocks (by decide) dX2_isOn_21
def fX2_isOn (o : Nat) (v : Mem) : Option (Int32 × Mem) := if (v o 0) < 50 then fX2_isOn_20 o v else if (v o 1) = 0 then some (1, v) else fX2_isOn_20 o v
set_option maxRecDepth 100000 in
set_option maxHeartbeats 4000000 in
theorem kX2_isOn_0 {p : Program} {l : Launch} {e : Env} {s : State} {m : MethodId} {args : Array Value} {below : List Frame} {meth : Method} {c : Code} {D : va_G} {A : Nat → Prop} {cI cS cF cZ cJ : ClassId} {ad : Nat → Nat} {X : va_W} {n : Nat} {o : Nat} (G : cx p s m args meth c cX2_isOn 1 wsX2_isOn RX2 D (ty5 cI cS cF cZ cJ) A (some .boolean)) (hn : n ≤ 24) (ho : kC n o = 2) (v : Mem) : sk p l e rmX2_isOn s m args below meth c D A 1 0 0 (fun res => MQ below (qi D A (ty5 cI cS cF cZ cJ) (Wc cI cS cF ad n X) res) args s 0 0 A) (Wc cI cS cF ad n X v) 0 [(0, .ref (ad o))] [] (fX2_isOn o v) := by
  obtain ⟨F, hK, hA, hZ, hr, hlocks⟩ := G
  refine sk_eq (K' := if (v o 0) < 50 then fX2_isOn_20 o v else if (v o 1) = 0 then some (1, v) else fX2_isOn_20 o v) rfl ?_
  refine sk_aload_n F dX2_isOn_0 rfl 0 rfl ?_
  refine sk_g2 (ref := "TunnelWatch$Section") F hK ho iX2_isOn_2 0 (by decide) (by decide +kernel) (fun _ h9 => h9) rfl dX2_isOn_1 ?_
  refine sk_bipush (x := 50) F dX2_isOn_4 (by decide) ?_
  refine sk_icmp_lt F 20 dX2_isOn_6 (by decide) (fun h1 => ?_) (fun h1 => ?_)
  · exact sk_lv [] rfl (kX2_isOn_20 ⟨F, hK, hA, hZ, hr, hlocks⟩ hn ho v)
  · refine sk_aload_n F dX2_isOn_9 rfl 0 rfl ?_
    refine sk_g2 (ref := "TunnelWatch$Section") F hK ho iX2_isOn_2 1 (by decide) (by decide +kernel) (fun _ h9 => h9) rfl dX2_isOn_10 ?_
    refine sk_if_ne F 20 dX2_isOn_13 (by decide) (fun h2 => ?_) (fun h2 => ?_)
    · exact sk_lv [] rfl (kX2_isOn_20 ⟨F, hK, hA, hZ, hr, hlocks⟩ hn ho v)
    · refine sk_iconst (x := 1) F dX2_isOn_16 (by decide) ?_
      refine sk_goto F 21 dX2_isOn_17 (by decide) ?_
      exact sk_zretc F hK hr hlocks (by decide) dX2_isOn_21
theorem tX2_isOn {l : Launch} {D : va_G} {A : Nat → Prop} {cI cS cF cZ cJ : ClassId} {ad : Nat → Nat} {X : va_W} {n : Nat} (hn : n ≤ 24) {o : Nat} (ho : kC n o = 2) (v : Mem) : CI l yX2_isOn wsX2_isOn rmX2_isOn D A (ty5 cI cS cF cZ cJ) (Wc cI cS cF ad n X) [.ref (ad o)] v (fX2_isOn o v) :=
  CI_of (cc := cX2_isOn) (maxL := 1) (ret := (some .boolean)) (by decide) rfl (Nat.le_of_ble_eq_true rfl) (fun p e s m below meth c G => kX2_isOn_0 G hn ho v)
