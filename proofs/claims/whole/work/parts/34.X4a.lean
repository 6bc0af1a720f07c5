def rmX4_clamp : Room := { frames := 1, cells := 0, slots := 0, locals := 21 }
def fX4_clamp (p0 : Int32) (p1 : Int32) (p2 : Int32) (v : Mem) : Option (Int32 × Mem) := some ((if p1 < (if p0 < p2 then p0 else p2) then (if p0 < p2 then p0 else p2) else p1), v)
set_option maxRecDepth 100000 in
set_option maxHeartbeats 4000000 in
theorem kX4_clamp_0 {p : Program} {l : Launch} {e : Env} {s : State} {m : MethodId} {args : Array Value} {below : List Frame} {meth : Method} {c : Code} {D : va_G} {A : Nat → Prop} {cI cS cF cZ cJ : ClassId} {ad : Nat → Nat} {X : va_W} {n : Nat} {p0 : Int32} {p1 : Int32} {p2 : Int32} (G : cx p s m args meth c cX4_clamp 3 wsX4_clamp RX4 D (ty5 cI cS cF cZ cJ) A (some .int)) (hn : n ≤ 24) (v : Mem) : sk p l e rmX4_clamp s m args below meth c D A 3 0 0 (fun res => MQ below (qi D A (ty5 cI cS cF cZ cJ) (Wc cI cS cF ad n X) res) args s 0 0 A) (Wc cI cS cF ad n X v) 0 [(0, .int p0), (1, .int p1), (2, .int p2)] [] (fX4_clamp p0 p1 p2 v) := by
  obtain ⟨F, hK, hA, hZ, hr, hlocks⟩ := G
  refine sk_eq (K' := some ((if p1 < (if p0 < p2 then p0 else p2) then (if p0 < p2 then p0 else p2) else p1), v)) rfl ?_
  refine sk_iload_n F dX4_clamp_0 rfl 1 rfl ?_
  refine sk_iload_n F dX4_clamp_1 rfl 2 rfl ?_
  refine sk_iload_n F dX4_clamp_2 rfl 0 rfl ?_
  refine sk_mmin F (by decide +kernel) (by decide +kernel) (by decide +kernel) (by decide +kernel) (by decide) (Nat.le_of_ble_eq_true rfl) (by decide) (by decide) dX4_clamp_3 ?_
  refine sk_mmax F (by decide +kernel) (by decide +kernel) (by decide +kernel) (by decide +kernel) (by decide) (Nat.le_of_ble_eq_true rfl) (by decide) (by decide) dX4_clamp_6 ?_
  exact sk_iret F hK hr hlocks dX4_clamp_9
theorem tX4_clamp {l : Launch} {D : va_G} {A : Nat → Prop} {cI cS cF cZ cJ : ClassId} {ad : Nat → Nat} {X : va_W} {n : Nat} (hn : n ≤ 24) {p0 : Int32} {p1 : Int32} {p2 : Int32} (v : Mem) : CI l yX4_clamp wsX4_clamp rmX4_clamp D A (ty5 cI cS cF cZ cJ) (Wc cI cS cF ad n X) [.int p0, .int p1, .int p2] v (fX4_clamp p0 p1 p2 v) :=
  CI_of (cc := cX4_clamp) (maxL := 3) (ret := (some .int)) (by decide) rfl (Nat.le_of_ble_eq_true rfl) (fun p e s m below meth c G => kX4_clamp_0 G hn v)
def rmX4_isWithin : Room := { frames := 0, cells := 0, slots := 0, locals := 0 }
def fX4_isWithin_14 (p0 : Int32) (p1 : Int32) (p2 : Int32) (v : Mem) : Option (Int32 × Mem) := some (0, v)
set_option maxRecDepth 100000 in
set_option maxHeartbeats 4000000 in
theorem kX4_isWithin_14 {p : Program} {l : Launch} {e : Env} {s : State} {m : MethodId} {args : Array Value} {below : List Frame} {meth : Method} {c : Code} {D : va_G} {A : Nat → Prop} {cI cS cF cZ cJ : ClassId} {ad : Nat → Nat} {X : va_W} {n : Nat} {p0 : Int32} {p1 : Int32} {p2 : Int32} (G : cx p s m args meth c cX4_isWithin 3 wsX4_isWithin RX4 D (ty5 cI cS cF cZ cJ) A (some .boolean)) (hn : n ≤ 24) (v : Mem) : sk p l e rmX4_isWithin s m args below meth c D A 3 0 0 (fun res => MQ below (qi D A (ty5 cI cS cF cZ cJ) (Wc cI cS cF ad n X) res) args s 0 0 A) (Wc cI cS cF ad n X v) 14 [] [] (fX4_isWithin_14 p0 p1 p2 v) := by
  obtain ⟨F, hK, hA, hZ, hr, hlocks⟩ := G
  refine sk_eq (K' := some (0, v)) rfl ?_
  refine sk_iconst (x := 0) F dX4_isWithin_14 (by decide) ?_
  exact sk_zretc F hK hr hlocks (by decide) dX4_isWithin_15
def fX4_isWithin (p0 : Int32) (p1 : Int32) (p2 : Int32) (v : Mem) : Option (Int32 × Mem) := if p0 < p1 then fX4_isWithin_14 p0 p1 p2 v else if p2 < p0 then fX4_isWithin_14 p0 p1 p2 v else some (1, v)
set_option maxRecDepth 100000 in
set_option maxHeartbeats 4000000 in
theorem kX4_isWithin_0 {p : Program} {l : Launch} {e : Env} {s : State} {m : MethodId} {args : Array Value} {below : List Frame} {meth : Method} {c : Code} {D : va_G} {A : Nat → Prop} {cI cS cF cZ cJ : ClassId} {ad : Nat → Nat} {X : va_W} {n : Nat} {p0 : Int32} {p1 : Int32} {p2 : Int32} (G : cx p s m args meth c cX4_isWithin 3 wsX4_isWithin RX4 D (ty5 cI cS cF cZ cJ) A (some .boolean)) (hn : n ≤ 24) (v : Mem) : sk p l e rmX4_isWithin s m args below meth c D A 3 0 0 (fun res => MQ below (qi D A (ty5 cI cS cF cZ cJ) (Wc cI cS cF ad n X) res) args s 0 0 A) (Wc cI cS cF ad n X v) 0 [(0, .int p0), (1, .int p1), (2, .int p2)] [] (fX4_isWithin p0 p1 p2 v) := by
  obtain ⟨F, hK, hA, hZ, hr, hlocks⟩ := G
  refine sk_eq (K' := if p0 < p1 then fX4_isWithin_14 p0 p1 p2 v else if p2 < p0 then fX4_isWithin_14 p0 p1 p2 v else some (1, v)) rfl ?_
  refine sk_iload_n F dX4_isWithin_0 rfl 0 rfl ?_
  refine sk_iload_n F dX4_isWithin_1 rfl 1 rfl ?_
  refine sk_icmp_lt F 14 dX4_isWithin_2 (by decide) (fun h1 => ?_) (fun h1 => ?_)
  · exact sk_lv [] rfl (kX4_isWithin_14 ⟨F, hK, hA, hZ, hr, hlocks⟩ hn v)
  · refine sk_iload_n F dX4_isWithin_5 rfl 0 rfl ?_
    refine sk_iload_n F dX4_isWithin_6 rfl 2 rfl ?_
    refine sk_icmp_gt F 14 dX4_isWithin_7 (by decide) (fun h2 => ?_) (fun h2 => ?_)
    · exact sk_lv [] rfl (kX4_isWithin_14 ⟨F, hK, hA, hZ, hr, hlocks⟩ hn v)
    · refine sk_iconst (x := 1) F dX4_isWithin_10 (by decide) ?_
      refine sk_goto F 15 dX4_isWithin_11 (by decide) ?_
      exact sk_zretc F hK hr hlocks (by decide) dX4_isWithin_15
theorem tX4_isWithin {l : Launch} {D : va_G} {A : Nat → Prop} {cI cS cF cZ cJ : ClassId} {ad : Nat → Nat} {X : va_W} {n : Nat} (hn : n ≤ 24) {p0 : Int32} {p1 : Int32} {p2 : Int32} (v : Mem) : CI l yX4_isWithin wsX4_isWithin rmX4_isWithin D A (ty5 cI cS cF cZ cJ) (Wc cI cS cF ad n X) [.int p0, .int p1, .int p2] v (fX4_isWithin p0 p1 p2 v) :=
  CI_of (cc := cX4_isWithin) (maxL := 3) (ret := (some .boolean)) (by decide) rfl (Nat.le_of_ble_eq_true rfl) (fun p e s m below meth c G => kX4_isWithin_0 G hn v)
def rmX4_directionOf : Room := { frames := 0, cells := 0, slots := 0, locals := 0 }
def fX4_directionOf (p0 : Int32) (v : Mem) : Option (Int32 × Mem) := if 0 ≤ p0 then some (1, v) else some ((-1), v)
set_option maxRecDepth 100000 in
set_option maxHeartbeats 4000000 in
theorem kX4_directionOf_0 {p : Program} {l : Launch} {e : Env} {s : State} {m : MethodId} {args : Array Value} {below : List Frame} {meth : Method} {c : Code} {D : va_G} {A : Nat → Prop} {cI cS cF cZ cJ : ClassId} {ad : Nat → Nat} {X : va_W} {n : Nat} {p0 : Int32} (G : cx p s m args meth c cX4_directionOf 1 wsX4_directionOf RX4 D (ty5 cI cS cF cZ cJ) A (some .int)) (hn : n ≤ 24) (v : Mem) : sk p l e rmX4_directionOf s m args below meth c D A 1 0 0 (fun res => MQ below (qi D A (ty5 cI cS cF cZ cJ) (Wc cI cS cF ad n X) res) args s 0 0 A) (Wc cI cS cF ad n X v) 0 [(0, .int p0)] [] (fX4_directionOf p0 v) := by
  obtain ⟨F, hK, hA, hZ, hr, hlocks⟩ := G
  refine sk_eq (K' := if 0 ≤ p0 then some (1, v) else some ((-1), v)) rfl ?_
  refine sk_iload_n F dX4_directionOf_0 rfl 0 rfl ?_
  refine sk_if_ge F 8 dX4_directionOf_1 (by decide) (fun h1 => ?_) (fun h1 => ?_)
  · refine sk_iconst (x := 1) F dX4_directionOf_8 (by decide) ?_
    exact sk_iret F hK hr hlocks dX4_directionOf_9
  · refine sk_iconst (x := (-1)) F dX4_directionOf_4 (by decide) ?_
    refine sk_goto F 9 dX4_directionOf_5 (by decide) ?_
    exact sk_iret F hK hr hlocks dX4_directionOf_9
theorem tX4_directionOf {l : Launch} {D : va_G} {A : Nat → Prop} {cI cS cF cZ cJ : ClassId} {ad : Nat → Nat} {X : va_W} {n : Nat} (hn : n ≤ 24) {p0 : Int32} (v : Mem) : CI l yX4_directionOf wsX4_directionOf rmX4_directionOf D A (ty5 cI cS cF cZ cJ) (Wc cI cS cF ad n X) [.int p0] v (fX4_directionOf p0 v) :=
  CI_of (cc := cX4_directionOf) (maxL := 1) (ret := (some .int)) (by decide) rfl (Nat.le_of_ble_eq_true rfl) (fun p e s m below meth c G => kX4_directionOf_0 G hn v)
def rmX4_tubeAt : Room := { frames := 0, cells := 0, slots := 0, locals := 0 }
theorem iX4_tubeAt_4 : ∀ w ∈ wsX40, w ∈ wsX4_tubeAt := by decide +kernel
def fX4_tubeAt (p1 : Int32) (v : Mem) : Option (Nat × Mem) := if p1 = 0 then some (2, v) else some (43, v)
set_option maxRecDepth 100000 in
set_option maxHeartbeats 4000000 in
theorem kX4_tubeAt_0 {p : Program} {l : Launch} {e : Env} {s : State} {m : MethodId} {args : Array Value} {below : List Frame} {meth : Method} {c : Code} {D : va_G} {A : Nat → Prop} {cI cS cF cZ cJ : ClassId} {ad : Nat → Nat} {X : va_W} {n : Nat} {p1 : Int32} (G : cx p s m args meth c cX4_tubeAt 2 wsX4_tubeAt RX4 D (ty5 cI cS cF cZ cJ) A (some (.object "TunnelWatch$Tube"))) (hn : n ≤ 24) (v : Mem) : sk p l e rmX4_tubeAt s m args below meth c D A 2 0 0 (fun res => MQ below (qr D A (ty5 cI cS cF cZ cJ) ad (Wc cI cS cF ad n X) res) args s 0 0 A) (Wc cI cS cF ad n X v) 0 [(0, .ref (ad 0)), (1, .int p1)] [] (fX4_tubeAt p1 v) := by
  obtain ⟨F, hK, hA, hZ, hr, hlocks⟩ := G
  refine sk_eq (K' := if p1 = 0 then some (2, v) else some (43, v)) rfl ?_
  refine sk_iload_n F dX4_tubeAt_0 rfl 1 rfl ?_
  refine sk_if_ne F 11 dX4_tubeAt_1 (by decide) (fun h1 => ?_) (fun h1 => ?_)
  · refine sk_aload_n F dX4_tubeAt_11 rfl 0 rfl ?_
    refine sk_g4 (ref := "TunnelWatch") F hK (kC_0 n) iX4_tubeAt_4 3 (by decide) (by decide +kernel) (fun _ h9 => h9) rfl dX4_tubeAt_12 ?_
    exact sk_aret F hK hr (Or.inl ⟨_, rfl⟩) hlocks dX4_tubeAt_15
  · refine sk_aload_n F dX4_tubeAt_4 rfl 0 rfl ?_
    refine sk_g4 (ref := "TunnelWatch") F hK (kC_0 n) iX4_tubeAt_4 2 (by decide) (by decide +kernel) (fun _ h9 => h9) rfl dX4_tubeAt_5 ?_
    refine sk_goto F 15 dX4_tubeAt_8 (by decide) ?_
    exact sk_aret F hK hr (Or.inl ⟨_, rfl⟩) hlocks dX4_tubeAt_15
theorem tX4_tubeAt {l : Launch} {D : va_G} {A : Nat → Prop} {cI cS cF cZ cJ : ClassId} {ad : Nat → Nat} {X : va_W} {n : Nat} (hn : n ≤ 24) {p1 : Int32} (v : Mem) : CR l yX4_tubeAt wsX4_tubeAt rmX4_tubeAt D A (ty5 cI cS cF cZ cJ) ad (Wc cI cS cF ad n X) [.ref (ad 0), .int p1] v (fX4_tubeAt p1 v) :=
  CR_of (cc := cX4_tubeAt) (maxL := 2) (ret := (some (.object "TunnelWatch$Tube"))) (by decide) rfl (Nat.le_of_ble_eq_true rfl) (fun p e s m below meth c G => kX4_tubeAt_0 G hn v)
theorem aX4_tubeAt {n : Nat} {p1 : Int32} {v v' : Mem} {r : Nat} (h : fX4_tubeAt p1 v = some (r, v')) : kC n r = 3 := by
  unfold fX4_tubeAt at h
  split at h <;> cases h <;> rfl
theorem aX3_deviceAt {n o : Nat} (ho : kC n o = 3) {p1 : Int32} {v v' : Mem} {r : Nat} (h : fX3_deviceAt o p1 v = some (r, v')) : kC n r = 0 ∨ kC n r = 1 := by
  unfold fX3_deviceAt at h
  split at h
  · cases h; exact Or.inl (kC_sig ho)
  · split at h
    · cases h; exact Or.inl (kC_bar ho)
    · obtain ⟨h1, h2⟩ := gd_some h
      cases h2
      exact Or.inr (kC_f ho (inb_lt h1))
