def rmX0_init : Room := { frames := 1, cells := 0, slots := 0, locals := 20 }
def rmX1_init : Room := { frames := 2, cells := 0, slots := 0, locals := 40 }
def rmX2_init : Room := { frames := 1, cells := 0, slots := 0, locals := 20 }
set_option maxRecDepth 100000 in
set_option maxHeartbeats 4000000 in
theorem nX0_0 {l : Launch} {D : va_G} {A : Nat → Prop} {cI cS cF cZ cJ : ClassId} {X : va_W} {h0 : Nat} : CN l yX0_init wsX0_init rmX0_init 0 0 D A (ty5 cI cS cF cZ cJ) [.ref h0] (X ++ [(h0, .inr (0, [.int 0, .int 0, .int 0, .int 0, .int 0, .int 0]))]) (fun _ : Unit => True) (fun _ => X ++ [(h0, .inr (0, [.int 0, .int 0, .int 0, .int 1, .int 0, .int 0]))]) := by
  refine CN_of (cc := cX0_init) (maxL := 1) (by decide) rfl rfl (Nat.le_of_ble_eq_true rfl) (fun p e s m below meth c G => ?_)
  obtain ⟨F, hK, hA, hZ, hN, hr, hlocks, hin2⟩ := G
  refine sk_aload_n F dX0_init_0 rfl 0 rfl ?_
  refine sk_objI F (by decide +kernel) (by decide +kernel) (by decide +kernel) dX0_init_1 (by decide) (by decide) ?_
  refine sk_aload_n F dX0_init_4 rfl 0 rfl ?_
  refine sk_iconst (x := 1) F dX0_init_5 (by decide) ?_
  refine sk_px (ref := "TunnelWatch$Device") (ty := .int) F hK 0 rfl rfl (by decide +kernel) tyX0 tyX0_ok nmX0 3 (by decide) (by decide +kernel) (fun _ h9 => h9) rfl (by decide +kernel) rfl rfl (by decide) rfl dX0_init_6 ?_
  exact sk_nvret F hK hr hlocks () trivial rfl (by decide) (by decide) dX0_init_9
set_option maxRecDepth 100000 in
set_option maxHeartbeats 4000000 in
theorem nX0_1 {l : Launch} {D : va_G} {A : Nat → Prop} {cI cS cF cZ cJ : ClassId} {X : va_W} {h0 : Nat} : CN l yX0_init wsX0_init rmX0_init 0 0 D A (ty5 cI cS cF cZ cJ) [.ref h0] (X ++ [(h0, .inr (1, [.int 0, .int 0, .int 0, .int 0, .int 0, .int 0, .int 0, .int 0, .int 0]))]) (fun _ : Unit => True) (fun _ => X ++ [(h0, .inr (1, [.int 0, .int 0, .int 0, .int 1, .int 0, .int 0, .int 0, .int 0, .int 0]))]) := by
  refine CN_of (cc := cX0_init) (maxL := 1) (by decide) rfl rfl (Nat.le_of_ble_eq_true rfl) (fun p e s m below meth c G => ?_)
  obtain ⟨F, hK, hA, hZ, hN, hr, hlocks, hin2⟩ := G
  refine sk_aload_n F dX0_init_0 rfl 0 rfl ?_
  refine sk_objI F (by decide +kernel) (by decide +kernel) (by decide +kernel) dX0_init_1 (by decide) (by decide) ?_
  refine sk_aload_n F dX0_init_4 rfl 0 rfl ?_
  refine sk_iconst (x := 1) F dX0_init_5 (by decide) ?_
  refine sk_px (ref := "TunnelWatch$Device") (ty := .int) F hK 0 rfl rfl (by decide +kernel) tyX1 tyX1_ok nmX1 3 (by decide) (by decide +kernel) (fun _ h9 => h9) rfl (by decide +kernel) rfl rfl (by decide) rfl dX0_init_6 ?_
  exact sk_nvret F hK hr hlocks () trivial rfl (by decide) (by decide) dX0_init_9
set_option maxRecDepth 100000 in
set_option maxHeartbeats 4000000 in
theorem nX1 {l : Launch} {D : va_G} {A : Nat → Prop} {cI cS cF cZ cJ : ClassId} {X : va_W} {h0 : Nat} : CN l yX1_init wsX1_init rmX1_init 0 0 D A (ty5 cI cS cF cZ cJ) [.ref h0] (X ++ [(h0, .inr (1, [.int 0, .int 0, .int 0, .int 0, .int 0, .int 0, .int 0, .int 0, .int 0]))]) (fun _ : Unit => True) (fun _ => X ++ [(h0, .inr (1, [.int 0, .int 0, .int 0, .int 1, .int 0, .int 0, .int 0, .int 0, .int 0]))]) := by
  refine CN_of (cc := cX1_init) (maxL := 1) (by decide) rfl rfl (Nat.le_of_ble_eq_true rfl) (fun p e s m below meth c G => ?_)
  obtain ⟨F, hK, hA, hZ, hN, hr, hlocks, hin2⟩ := G
  refine sk_aload_n F dX1_init_0 rfl 0 rfl ?_
  refine sk_ctorN (As := []) (rest := []) F hK hA hZ hN nX0_1 ⟨va_cnB 0 F.2.2.2.2 gX1_init_X0_init_n3 rfl rfl rfl hN.1 (F.2.2.2.2 _ (by decide +kernel)) (by decide +kernel) ⟨Nat.le_of_ble_eq_true rfl, Nat.le_of_ble_eq_true rfl⟩, rfl, F.2.2.2.2 _ (by decide +kernel)⟩ rfl rfl (by decide) (by decide) dX1_init_1 (fun u hu => ?_)
  exact sk_nvret F hK hr hlocks () trivial rfl (by decide) (by decide) dX1_init_4
set_option maxRecDepth 100000 in
set_option maxHeartbeats 4000000 in
theorem nX2 {l : Launch} {D : va_G} {A : Nat → Prop} {cI cS cF cZ cJ : ClassId} {X : va_W} {h0 : Nat} : CN l yX2_init wsX2_init rmX2_init 0 0 D A (ty5 cI cS cF cZ cJ) [.ref h0] (X ++ [(h0, .inr (2, [.int 0, .int 0, .int 0, .int 0, .int 0, .int 0, .int 0, .int 0]))]) (fun _ : Unit => True) (fun _ => X ++ [(h0, .inr (2, [.int 0, .int 0, .int 0, .int 0, .int 1, .int 0, .int 1, .int 0]))]) := by
  refine CN_of (cc := cX2_init) (maxL := 1) (by decide) rfl rfl (Nat.le_of_ble_eq_true rfl) (fun p e s m below meth c G => ?_)
  obtain ⟨F, hK, hA, hZ, hN, hr, hlocks, hin2⟩ := G
  refine sk_aload_n F dX2_init_0 rfl 0 rfl ?_
  refine sk_objI F (by decide +kernel) (by decide +kernel) (by decide +kernel) dX2_init_1 (by decide) (by decide) ?_
  refine sk_aload_n F dX2_init_4 rfl 0 rfl ?_
  refine sk_iconst (x := 1) F dX2_init_5 (by decide) ?_
  refine sk_px (ref := "TunnelWatch$Section") (ty := .int) F hK 0 rfl rfl (by decide +kernel) tyX2 tyX2_ok nmX2 4 (by decide) (by decide +kernel) (fun _ h9 => h9) rfl (by decide +kernel) rfl rfl (by decide) rfl dX2_init_6 ?_
  refine sk_aload_n F dX2_init_9 rfl 0 rfl ?_
  refine sk_iconst (x := 1) F dX2_init_10 (by decide) ?_
  refine sk_px (ref := "TunnelWatch$Section") (ty := .int) F hK 0 rfl rfl (by decide +kernel) tyX2 tyX2_ok nmX2 6 (by decide) (by decide +kernel) (fun _ h9 => h9) rfl (by decide +kernel) rfl rfl (by decide) rfl dX2_init_11 ?_
  exact sk_nvret F hK hr hlocks () trivial rfl (by decide) (by decide) dX2_init_14
def rmX5_init : Room := { frames := 1, cells := 28, slots := 20709, locals := 30 }
theorem iX5_init_5 : ∀ w ∈ wsX50, w ∈ wsX5_init := by decide +kernel
def fX5_init_355 (p1 : Int32) (p2 : Int32) (p3 : Int32) : Nat → Mem → Int32 → Option (Mem)
  | 0, _, _ => none
  | fuel + 1, v, l4 => if 2 ≤ l4 then some v else gd (inb l4 2) (gd (inb l4 2) (gd (inb l4 2) (fX5_init_355 p1 p2 p3 fuel (up2 (up2 (up2 v 26 l4.toNatClampNeg (-1)) 28 l4.toNatClampNeg 1) 30 l4.toNatClampNeg 1) (l4 + 1))))
set_option maxRecDepth 100000 in
set_option maxHeartbeats 4000000 in
theorem kX5_init_355 {p : Program} {l : Launch} {e : Env} {s : State} {m : MethodId} {args : Array Value} {below : List Frame} {meth : Method} {c : Code} {D : va_G} {A : Nat → Prop} {cI cS cF cZ cJ : ClassId} {ad : Nat → Nat} {X : va_W} {p1 : Int32} {p2 : Int32} {p3 : Int32} (G : cxn p s m args meth c cX5_init 5 wsX5_init RX5 D (ty5 cI cS cF cZ cJ) A) : ∀ (fuel : Nat) (v : Mem) (l4 : Int32), sk p l e rmX5_init s m args below meth c D A 5 28 20709 (fun res : Mem => MQ below (va_Qv (fun z : (Nat → Nat) × Mem => z = (ad, res)) (fun z t => wo D A (ty5 cI cS cF cZ cJ) (Wr cI cZ z.1 X z.2) t) A) args s 28 20709 A) (Wr cI cZ ad X v) 355 [(0, .ref (ad 0)), (4, .int l4)] [] (fX5_init_355 p1 p2 p3 fuel v l4) := by
  obtain ⟨F, hK, hA, hZ, hN, hr, hlocks, hin2⟩ := G
  intro fuel
  induction fuel with
  | zero => intro v l4; exact sk_none
  | succ fuel ih =>
    intro v l4
    refine sk_eq (K' := if 2 ≤ l4 then some v else gd (inb l4 2) (gd (inb l4 2) (gd (inb l4 2) (fX5_init_355 p1 p2 p3 fuel (up2 (up2 (up2 v 26 l4.toNatClampNeg (-1)) 28 l4.toNatClampNeg 1) 30 l4.toNatClampNeg 1) (l4 + 1))))) rfl ?_
    refine sk_iload F dX5_init_355 1 rfl ?_
    refine sk_iconst (x := 2) F dX5_init_357 (by decide) ?_
    refine sk_icmp_ge F 391 dX5_init_358 (by decide) (fun h12 => ?_) (fun h12 => ?_)
    · exact sk_tret (Pp := fun (res : Mem) (z : (Nat → Nat) × Mem) => z = (ad, res)) (Wn := fun z => Wr cI cZ z.1 X z.2) F hK hr hlocks _ (ad, _) rfl rfl (by decide) (by decide) dX5_init_391
    · refine sk_aload_n F dX5_init_361 rfl 0 rfl ?_
      refine sk_get (ref := "TunnelWatchModel") F hK (Lr_mem (by decide)) (shR_0 _) rfl iX5_init_5 26 (by decide) (by decide +kernel) (fun _ h9 => h9) rfl dX5_init_362 ?_
      refine sk_iload F dX5_init_365 1 rfl ?_
      refine sk_iconst (x := (-1)) F dX5_init_367 (by decide) ?_
      refine sk_iast F hK Lr_nd (Lr_mem (by decide)) shR_26 0 rfl dX5_init_368 (fun h13 => ?_)
      refine sk_aload_n F dX5_init_369 rfl 0 rfl ?_
      refine sk_get (ref := "TunnelWatchModel") F hK (Lr_mem (by decide)) (shR_0 _) rfl iX5_init_5 28 (by decide) (by decide +kernel) (fun _ h9 => h9) rfl dX5_init_370 ?_
      refine sk_iload F dX5_init_373 1 rfl ?_
      refine sk_iconst (x := 1) F dX5_init_375 (by decide) ?_
      refine sk_iast F hK Lr_nd (Lr_mem (by decide)) shR_28 0 rfl dX5_init_376 (fun h14 => ?_)
      refine sk_aload_n F dX5_init_377 rfl 0 rfl ?_
      refine sk_get (ref := "TunnelWatchModel") F hK (Lr_mem (by decide)) (shR_0 _) rfl iX5_init_5 30 (by decide) (by decide +kernel) (fun _ h9 => h9) rfl dX5_init_378 ?_
      refine sk_iload F dX5_init_381 1 rfl ?_
      refine sk_iconst (x := 1) F dX5_init_383 (by decide) ?_
      refine sk_iast F hK Lr_nd (Lr_mem (by decide)) shR_30 0 rfl dX5_init_384 (fun h15 => ?_)
      refine sk_iinc (y := l4 + 1) F dX5_init_385 1 rfl rfl (by decide) rfl ?_
      refine sk_goto F 355 dX5_init_388 (by decide) ?_
      exact sk_lv [1, 0] rfl (ih (up2 (up2 (up2 v 26 l4.toNatClampNeg (-1)) 28 l4.toNatClampNeg 1) 30 l4.toNatClampNeg 1) (l4 + 1))
def fX5_init_323 (p1 : Int32) (p2 : Int32) (p3 : Int32) : Nat → Mem → Int32 → Option (Mem)
  | 0, _, _ => none
  | fuel + 1, v, l4 => if 48 ≤ l4 then fX5_init_355 p1 p2 p3 1000 v 0 else gd (inb l4 48) (gd (inb l4 48) (fX5_init_323 p1 p2 p3 fuel (up2 (up2 v 21 l4.toNatClampNeg 1) 23 l4.toNatClampNeg 1) (l4 + 1)))
set_option maxRecDepth 100000 in
set_option maxHeartbeats 4000000 in
theorem kX5_init_323 {p : Program} {l : Launch} {e : Env} {s : State} {m : MethodId} {args : Array Value} {below : List Frame} {meth : Method} {c : Code} {D : va_G} {A : Nat → Prop} {cI cS cF cZ cJ : ClassId} {ad : Nat → Nat} {X : va_W} {p1 : Int32} {p2 : Int32} {p3 : Int32} (G : cxn p s m args meth c cX5_init 5 wsX5_init RX5 D (ty5 cI cS cF cZ cJ) A) : ∀ (fuel : Nat) (v : Mem) (l4 : Int32), sk p l e rmX5_init s m args below meth c D A 5 28 20709 (fun res : Mem => MQ below (va_Qv (fun z : (Nat → Nat) × Mem => z = (ad, res)) (fun z t => wo D A (ty5 cI cS cF cZ cJ) (Wr cI cZ z.1 X z.2) t) A) args s 28 20709 A) (Wr cI cZ ad X v) 323 [(0, .ref (ad 0)), (4, .int l4)] [] (fX5_init_323 p1 p2 p3 fuel v l4) := by
  obtain ⟨F, hK, hA, hZ, hN, hr, hlocks, hin2⟩ := G
  intro fuel
  induction fuel with
  | zero => intro v l4; exact sk_none
  | succ fuel ih =>
    intro v l4
    refine sk_eq (K' := if 48 ≤ l4 then fX5_init_355 p1 p2 p3 1000 v 0 else gd (inb l4 48) (gd (inb l4 48) (fX5_init_323 p1 p2 p3 fuel (up2 (up2 v 21 l4.toNatClampNeg 1) 23 l4.toNatClampNeg 1) (l4 + 1)))) rfl ?_
    refine sk_iload F dX5_init_323 1 rfl ?_
    refine sk_bipush (x := 48) F dX5_init_325 (by decide) ?_
    refine sk_icmp_ge F 352 dX5_init_327 (by decide) (fun h9 => ?_) (fun h9 => ?_)
    · refine sk_iconst (x := 0) F dX5_init_352 (by decide) ?_
      refine sk_istore F dX5_init_353 (by decide) rfl ?_
      exact sk_lv [1, 0] rfl (kX5_init_355 ⟨F, hK, hA, hZ, hN, hr, hlocks, hin2⟩ 1000 v 0)
    · refine sk_aload_n F dX5_init_330 rfl 0 rfl ?_
      refine sk_get (ref := "TunnelWatchModel") F hK (Lr_mem (by decide)) (shR_0 _) rfl iX5_init_5 21 (by decide) (by decide +kernel) (fun _ h9 => h9) rfl dX5_init_331 ?_
      refine sk_iload F dX5_init_334 1 rfl ?_
      refine sk_iconst (x := 1) F dX5_init_336 (by decide) ?_
      refine sk_iast F hK Lr_nd (Lr_mem (by decide)) shR_21 0 rfl dX5_init_337 (fun h10 => ?_)
      refine sk_aload_n F dX5_init_338 rfl 0 rfl ?_
      refine sk_get (ref := "TunnelWatchModel") F hK (Lr_mem (by decide)) (shR_0 _) rfl iX5_init_5 23 (by decide) (by decide +kernel) (fun _ h9 => h9) rfl dX5_init_339 ?_
      refine sk_iload F dX5_init_342 1 rfl ?_
      refine sk_iconst (x := 1) F dX5_init_344 (by decide) ?_
      refine sk_iast F hK Lr_nd (Lr_mem (by decide)) shR_23 0 rfl dX5_init_345 (fun h11 => ?_)
      refine sk_iinc (y := l4 + 1) F dX5_init_346 1 rfl rfl (by decide) rfl ?_
      refine sk_goto F 323 dX5_init_349 (by decide) ?_
      exact sk_lv [1, 0] rfl (ih (up2 (up2 v 21 l4.toNatClampNeg 1) 23 l4.toNatClampNeg 1) (l4 + 1))
def fX5_init_299 (p1 : Int32) (p2 : Int32) (p3 : Int32) : Nat → Mem → Int32 → Option (Mem)
  | 0, _, _ => none
  | fuel + 1, v, l4 => if 28 ≤ l4 then fX5_init_323 p1 p2 p3 1000 v 0 else gd (inb l4 28) (fX5_init_299 p1 p2 p3 fuel (up2 v 6 l4.toNatClampNeg 1) (l4 + 1))
set_option maxRecDepth 100000 in
set_option maxHeartbeats 4000000 in
theorem kX5_init_299 {p : Program} {l : Launch} {e : Env} {s : State} {m : MethodId} {args : Array Value} {below : List Frame} {meth : Method} {c : Code} {D : va_G} {A : Nat → Prop} {cI cS cF cZ cJ : ClassId} {ad : Nat → Nat} {X : va_W} {p1 : Int32} {p2 : Int32} {p3 : Int32} (G : cxn p s m args meth c cX5_init 5 wsX5_init RX5 D (ty5 cI cS cF cZ cJ) A) : ∀ (fuel : Nat) (v : Mem) (l4 : Int32), sk p l e rmX5_init s m args below meth c D A 5 28 20709 (fun res : Mem => MQ below (va_Qv (fun z : (Nat → Nat) × Mem => z = (ad, res)) (fun z t => wo D A (ty5 cI cS cF cZ cJ) (Wr cI cZ z.1 X z.2) t) A) args s 28 20709 A) (Wr cI cZ ad X v) 299 [(0, .ref (ad 0)), (4, .int l4)] [] (fX5_init_299 p1 p2 p3 fuel v l4) := by
  obtain ⟨F, hK, hA, hZ, hN, hr, hlocks, hin2⟩ := G
  intro fuel
  induction fuel with
  | zero => intro v l4; exact sk_none
  | succ fuel ih =>
    intro v l4
    refine sk_eq (K' := if 28 ≤ l4 then fX5_init_323 p1 p2 p3 1000 v 0 else gd (inb l4 28) (fX5_init_299 p1 p2 p3 fuel (up2 v 6 l4.toNatClampNeg 1) (l4 + 1))) rfl ?_
    refine sk_iload F dX5_init_299 1 rfl ?_
    refine sk_bipush (x := 28) F dX5_init_301 (by decide) ?_
    refine sk_icmp_ge F 320 dX5_init_303 (by decide) (fun h7 => ?_) (fun h7 => ?_)
    · refine sk_iconst (x := 0) F dX5_init_320 (by decide) ?_
      refine sk_istore F dX5_init_321 (by decide) rfl ?_
      exact sk_lv [1, 0] rfl (kX5_init_323 ⟨F, hK, hA, hZ, hN, hr, hlocks, hin2⟩ 1000 v 0)
    · refine sk_aload_n F dX5_init_306 rfl 0 rfl ?_
      refine sk_get (ref := "TunnelWatchModel") F hK (Lr_mem (by decide)) (shR_0 _) rfl iX5_init_5 6 (by decide) (by decide +kernel) (fun _ h9 => h9) rfl dX5_init_307 ?_
      refine sk_iload F dX5_init_310 1 rfl ?_
      refine sk_iconst (x := 1) F dX5_init_312 (by decide) ?_
      refine sk_iast F hK Lr_nd (Lr_mem (by decide)) shR_6 0 rfl dX5_init_313 (fun h8 => ?_)
      refine sk_iinc (y := l4 + 1) F dX5_init_314 1 rfl rfl (by decide) rfl ?_
      refine sk_goto F 299 dX5_init_317 (by decide) ?_
      exact sk_lv [1, 0] rfl (ih (up2 v 6 l4.toNatClampNeg 1) (l4 + 1))
def fX5_init_293 (p1 : Int32) (p2 : Int32) (p3 : Int32) (v : Mem) (s0 : Int32) : Option (Mem) := fX5_init_299 p1 p2 p3 1000 (up2 v 0 3 s0) 0
set_option maxRecDepth 100000 in
set_option maxHeartbeats 4000000 in
theorem kX5_init_293 {p : Program} {l : Launch} {e : Env} {s : State} {m : MethodId} {args : Array Value} {below : List Frame} {meth : Method} {c : Code} {D : va_G} {A : Nat → Prop} {cI cS cF cZ cJ : ClassId} {ad : Nat → Nat} {X : va_W} {p1 : Int32} {p2 : Int32} {p3 : Int32} (G : cxn p s m args meth c cX5_init 5 wsX5_init RX5 D (ty5 cI cS cF cZ cJ) A) (v : Mem) (s0 : Int32) : sk p l e rmX5_init s m args below meth c D A 5 28 20709 (fun res : Mem => MQ below (va_Qv (fun z : (Nat → Nat) × Mem => z = (ad, res)) (fun z t => wo D A (ty5 cI cS cF cZ cJ) (Wr cI cZ z.1 X z.2) t) A) args s 28 20709 A) (Wr cI cZ ad X v) 293 [(0, .ref (ad 0))] [.int s0, .ref (ad 0)] (fX5_init_293 p1 p2 p3 v s0) := by
  obtain ⟨F, hK, hA, hZ, hN, hr, hlocks, hin2⟩ := G
  refine sk_eq (K' := fX5_init_299 p1 p2 p3 1000 (up2 v 0 3 s0) 0) rfl ?_
  refine sk_put (ref := "TunnelWatchModel") (fs := fun r => fs5 ad r) (ty := .int) F hK Lr_nd (Lr_mem (by decide)) shR_0 rfl iX5_init_5 tyX5 tyX5_ok nmX5 3 (by decide) (by decide +kernel) (fun _ h9 => h9) rfl (by decide +kernel) rfl rfl (Nat.le_of_ble_eq_true rfl) rfl dX5_init_293 ?_
  refine sk_iconst (x := 0) F dX5_init_296 (by decide) ?_
  refine sk_istore F dX5_init_297 (by decide) rfl ?_
  exact sk_lv [1, 0] rfl (kX5_init_299 ⟨F, hK, hA, hZ, hN, hr, hlocks, hin2⟩ 1000 (up2 v 0 3 s0) 0)
def fX5_init_269 (p1 : Int32) (p2 : Int32) (p3 : Int32) (v : Mem) (s0 : Int32) : Option (Mem) := if 0 ≤ p3 then if p3 ≤ 100000 then fX5_init_293 p1 p2 p3 (up2 v 0 2 s0) p3 else fX5_init_293 p1 p2 p3 (up2 v 0 2 s0) 100000 else fX5_init_293 p1 p2 p3 (up2 v 0 2 s0) 0
set_option maxRecDepth 100000 in
set_option maxHeartbeats 4000000 in
theorem kX5_init_269 {p : Program} {l : Launch} {e : Env} {s : State} {m : MethodId} {args : Array Value} {below : List Frame} {meth : Method} {c : Code} {D : va_G} {A : Nat → Prop} {cI cS cF cZ cJ : ClassId} {ad : Nat → Nat} {X : va_W} {p1 : Int32} {p2 : Int32} {p3 : Int32} (G : cxn p s m args meth c cX5_init 5 wsX5_init RX5 D (ty5 cI cS cF cZ cJ) A) (v : Mem) (s0 : Int32) : sk p l e rmX5_init s m args below meth c D A 5 28 20709 (fun res : Mem => MQ below (va_Qv (fun z : (Nat → Nat) × Mem => z = (ad, res)) (fun z t => wo D A (ty5 cI cS cF cZ cJ) (Wr cI cZ z.1 X z.2) t) A) args s 28 20709 A) (Wr cI cZ ad X v) 269 [(0, .ref (ad 0)), (3, .int p3)] [.int s0, .ref (ad 0)] (fX5_init_269 p1 p2 p3 v s0) := by
  obtain ⟨F, hK, hA, hZ, hN, hr, hlocks, hin2⟩ := G
  refine sk_eq (K' := if 0 ≤ p3 then if p3 ≤ 100000 then fX5_init_293 p1 p2 p3 (up2 v 0 2 s0) p3 else fX5_init_293 p1 p2 p3 (up2 v 0 2 s0) 100000 else fX5_init_293 p1 p2 p3 (up2 v 0 2 s0) 0) rfl ?_
  refine sk_putF (ref := "TunnelWatchModel") (fs := fun r => fs5 ad r) (ty := .int) F hK Lr_nd (Lr_mem (by decide)) shR_0 rfl iX5_init_5 tyX5 tyX5_ok nmX5 2 (by decide) (by decide +kernel) (fun _ h9 => h9) rfl hin2 rfl (by decide +kernel) rfl rfl (Nat.le_of_ble_eq_true rfl) rfl dX5_init_269 ?_
  refine sk_aload_n F dX5_init_272 rfl 0 rfl ?_
  refine sk_iload_n F dX5_init_273 rfl 1 rfl ?_
  refine sk_if_ge F 281 dX5_init_274 (by decide) (fun h5 => ?_) (fun h5 => ?_)
  · refine sk_iload_n F dX5_init_281 rfl 1 rfl ?_
    refine sk_ldc (x := 100000) F dX5_init_282 (F.2.2.2.2 _ (by decide +kernel)) ?_
    refine sk_icmp_le F 292 dX5_init_284 (by decide) (fun h6 => ?_) (fun h6 => ?_)
    · refine sk_iload_n F dX5_init_292 rfl 1 rfl ?_
      exact sk_lv [0] rfl (kX5_init_293 ⟨F, hK, hA, hZ, hN, hr, hlocks, hin2⟩ (up2 v 0 2 s0) p3)
    · refine sk_ldc (x := 100000) F dX5_init_287 (F.2.2.2.2 _ (by decide +kernel)) ?_
      refine sk_goto F 293 dX5_init_289 (by decide) ?_
      exact sk_lv [0] rfl (kX5_init_293 ⟨F, hK, hA, hZ, hN, hr, hlocks, hin2⟩ (up2 v 0 2 s0) 100000)
  · refine sk_iconst (x := 0) F dX5_init_277 (by decide) ?_
    refine sk_goto F 293 dX5_init_278 (by decide) ?_
    exact sk_lv [0] rfl (kX5_init_293 ⟨F, hK, hA, hZ, hN, hr, hlocks, hin2⟩ (up2 v 0 2 s0) 0)
def fX5_init_243 (p1 : Int32) (p2 : Int32) (p3 : Int32) (v : Mem) (s0 : Int32) : Option (Mem) := if 0 ≤ p2 then if p2 ≤ 300 then fX5_init_269 p1 p2 p3 (up2 v 0 1 s0) p2 else fX5_init_269 p1 p2 p3 (up2 v 0 1 s0) 300 else fX5_init_269 p1 p2 p3 (up2 v 0 1 s0) 0
set_option maxRecDepth 100000 in
set_option maxHeartbeats 4000000 in
theorem kX5_init_243 {p : Program} {l : Launch} {e : Env} {s : State} {m : MethodId} {args : Array Value} {below : List Frame} {meth : Method} {c : Code} {D : va_G} {A : Nat → Prop} {cI cS cF cZ cJ : ClassId} {ad : Nat → Nat} {X : va_W} {p1 : Int32} {p2 : Int32} {p3 : Int32} (G : cxn p s m args meth c cX5_init 5 wsX5_init RX5 D (ty5 cI cS cF cZ cJ) A) (v : Mem) (s0 : Int32) : sk p l e rmX5_init s m args below meth c D A 5 28 20709 (fun res : Mem => MQ below (va_Qv (fun z : (Nat → Nat) × Mem => z = (ad, res)) (fun z t => wo D A (ty5 cI cS cF cZ cJ) (Wr cI cZ z.1 X z.2) t) A) args s 28 20709 A) (Wr cI cZ ad X v) 243 [(0, .ref (ad 0)), (2, .int p2), (3, .int p3)] [.int s0, .ref (ad 0)] (fX5_init_243 p1 p2 p3 v s0) := by
  obtain ⟨F, hK, hA, hZ, hN, hr, hlocks, hin2⟩ := G
  refine sk_eq (K' := if 0 ≤ p2 then if p2 ≤ 300 then fX5_init_269 p1 p2 p3 (up2 v 0 1 s0) p2 else fX5_init_269 p1 p2 p3 (up2 v 0 1 s0) 300 else fX5_init_269 p1 p2 p3 (up2 v 0 1 s0) 0) rfl ?_
  refine sk_putF (ref := "TunnelWatchModel") (fs := fun r => fs5 ad r) (ty := .int) F hK Lr_nd (Lr_mem (by decide)) shR_0 rfl iX5_init_5 tyX5 tyX5_ok nmX5 1 (by decide) (by decide +kernel) (fun _ h9 => h9) rfl hin2 rfl (by decide +kernel) rfl rfl (Nat.le_of_ble_eq_true rfl) rfl dX5_init_243 ?_
  refine sk_aload_n F dX5_init_246 rfl 0 rfl ?_
  refine sk_iload_n F dX5_init_247 rfl 1 rfl ?_
  refine sk_if_ge F 255 dX5_init_248 (by decide) (fun h3 => ?_) (fun h3 => ?_)
  · refine sk_iload_n F dX5_init_255 rfl 1 rfl ?_
    refine sk_sipush (x := 300) F dX5_init_256 (by decide) ?_
    refine sk_icmp_le F 268 dX5_init_259 (by decide) (fun h4 => ?_) (fun h4 => ?_)
    · refine sk_iload_n F dX5_init_268 rfl 1 rfl ?_
      exact sk_lv [0, 2] rfl (kX5_init_269 ⟨F, hK, hA, hZ, hN, hr, hlocks, hin2⟩ (up2 v 0 1 s0) p2)
    · refine sk_sipush (x := 300) F dX5_init_262 (by decide) ?_
      refine sk_goto F 269 dX5_init_265 (by decide) ?_
      exact sk_lv [0, 2] rfl (kX5_init_269 ⟨F, hK, hA, hZ, hN, hr, hlocks, hin2⟩ (up2 v 0 1 s0) 300)
  · refine sk_iconst (x := 0) F dX5_init_251 (by decide) ?_
    refine sk_goto F 269 dX5_init_252 (by decide) ?_
    exact sk_lv [0, 2] rfl (kX5_init_269 ⟨F, hK, hA, hZ, hN, hr, hlocks, hin2⟩ (up2 v 0 1 s0) 0)
def fX5_init_221 (p1 : Int32) (p2 : Int32) (p3 : Int32) (v : Mem) : Option (Mem) := if 2 ≤ p1 then if p1 ≤ 24 then fX5_init_243 p1 p2 p3 v p1 else fX5_init_243 p1 p2 p3 v 24 else fX5_init_243 p1 p2 p3 v 2
set_option maxRecDepth 100000 in
set_option maxHeartbeats 4000000 in
theorem kX5_init_221 {p : Program} {l : Launch} {e : Env} {s : State} {m : MethodId} {args : Array Value} {below : List Frame} {meth : Method} {c : Code} {D : va_G} {A : Nat → Prop} {cI cS cF cZ cJ : ClassId} {ad : Nat → Nat} {X : va_W} {p1 : Int32} {p2 : Int32} {p3 : Int32} (G : cxn p s m args meth c cX5_init 5 wsX5_init RX5 D (ty5 cI cS cF cZ cJ) A) (v : Mem) : sk p l e rmX5_init s m args below meth c D A 5 28 20709 (fun res : Mem => MQ below (va_Qv (fun z : (Nat → Nat) × Mem => z = (ad, res)) (fun z t => wo D A (ty5 cI cS cF cZ cJ) (Wr cI cZ z.1 X z.2) t) A) args s 28 20709 A) (Wr cI cZ ad X v) 221 [(0, .ref (ad 0)), (1, .int p1), (2, .int p2), (3, .int p3)] [] (fX5_init_221 p1 p2 p3 v) := by
  obtain ⟨F, hK, hA, hZ, hN, hr, hlocks, hin2⟩ := G
  refine sk_eq (K' := if 2 ≤ p1 then if p1 ≤ 24 then fX5_init_243 p1 p2 p3 v p1 else fX5_init_243 p1 p2 p3 v 24 else fX5_init_243 p1 p2 p3 v 2) rfl ?_
  refine sk_aload_n F dX5_init_221 rfl 0 rfl ?_
  refine sk_iload_n F dX5_init_222 rfl 1 rfl ?_
  refine sk_iconst (x := 2) F dX5_init_223 (by decide) ?_
  refine sk_icmp_ge F 231 dX5_init_224 (by decide) (fun h1 => ?_) (fun h1 => ?_)
  · refine sk_iload_n F dX5_init_231 rfl 1 rfl ?_
    refine sk_bipush (x := 24) F dX5_init_232 (by decide) ?_
    refine sk_icmp_le F 242 dX5_init_234 (by decide) (fun h2 => ?_) (fun h2 => ?_)
    · refine sk_iload_n F dX5_init_242 rfl 1 rfl ?_
      exact sk_lv [0, 2, 3] rfl (kX5_init_243 ⟨F, hK, hA, hZ, hN, hr, hlocks, hin2⟩ v p1)
    · refine sk_bipush (x := 24) F dX5_init_237 (by decide) ?_
      refine sk_goto F 243 dX5_init_239 (by decide) ?_
      exact sk_lv [0, 2, 3] rfl (kX5_init_243 ⟨F, hK, hA, hZ, hN, hr, hlocks, hin2⟩ v 24)
  · refine sk_iconst (x := 2) F dX5_init_227 (by decide) ?_
    refine sk_goto F 243 dX5_init_228 (by decide) ?_
    exact sk_lv [0, 2, 3] rfl (kX5_init_243 ⟨F, hK, hA, hZ, hN, hr, hlocks, hin2⟩ v 2)

set_option maxRecDepth 100000 in
set_option maxHeartbeats 4000000 in
theorem nX5 {l : Launch} {D : va_G} {A : Nat → Prop} {cI cS cF cZ cJ : ClassId} {X : va_W} {h0 : Nat} {p1 p2 p3 : Int32} {r : Mem} (hres : fX5_init_221 p1 p2 p3 (fun _ _ => 0) = some r) : CN l yX5_init wsX5_init rmX5_init 28 20709 D A (ty5 cI cS cF cZ cJ) [.ref h0, .int p1, .int p2, .int p3] (X ++ [(h0, .inr (5, [.int 0, .int 0, .int 0, .int 0, .int 0, .null, .null, .null, .null, .null, .null, .null, .null, .null, .null, .null, .null, .null, .null, .null, .null, .null, .null, .null, .null, .null, .null, .null, .null, .null, .null, .null, .null, .int 0, .int 0]))]) (fun z : (Nat → Nat) × Mem => z.1 0 = h0 ∧ z.2 = r) (fun z => Wr cI cZ z.1 X z.2) := by
  refine CN_of (cc := cX5_init) (maxL := 5) (by decide) rfl rfl (Nat.le_of_ble_eq_true rfl) (fun p e s m below meth c G => ?_)
  have G0 := G
  obtain ⟨F, hK, hA, hZ, hN, hr, hlocks, hin2⟩ := G
  refine sk_aload_n F dX5_init_0 rfl 0 rfl ?_
  refine sk_objI F (by decide +kernel) (by decide +kernel) (by decide +kernel) dX5_init_1 (by decide) (by decide) ?_
  refine sk_aload_n F dX5_init_4 rfl 0 rfl ?_
  refine sk_iconst (x := 2) F dX5_init_5 (by decide) ?_
  refine sk_nax F hK hA 0 (a0 := (2, .inl (fun _ => 0))) (ty := .int) rfl (by decide +kernel) rfl (fun _ => rfl) (by decide) (by decide) (by decide) (by decide) (by decide) dX5_init_6 (fun q5 => ?_)
  refine sk_pxF (ref := "TunnelWatchModel") (ty := .array .int) (l1 := [(h0, .inr (5, [.int 0, .int 0, .int 0, .int 0, .int 0, .ref q5, .null, .null, .null, .null, .null, .null, .null, .null, .null, .null, .null, .null, .null, .null, .null, .null, .null, .null, .null, .null, .null, .null, .null, .null, .null, .null, .null, .int 0, .int 0])), (q5, .inl (cI, 2, .inl (fun _ => 0)))]) F hK 0 rfl rfl iX5_init_5 tyX5 tyX5_ok nmX5 5 (by decide) (by decide +kernel) (fun _ h9 => h9) rfl hin2 rfl (by decide +kernel) rfl rfl (Nat.le_of_ble_eq_true rfl) rfl dX5_init_8 ?_
  refine sk_aload_n F dX5_init_11 rfl 0 rfl ?_
  refine sk_bipush (x := 28) F dX5_init_12 (by decide) ?_
  refine sk_nax F hK hA 0 (a0 := (28, .inl (fun _ => 0))) (ty := .int) rfl (by decide +kernel) rfl (fun _ => rfl) (by decide) (by decide) (by decide) (by decide) (by decide) dX5_init_14 (fun q6 => ?_)
  refine sk_pxF (ref := "TunnelWatchModel") (ty := .array .int) (l1 := [(h0, .inr (5, [.int 0, .int 0, .int 0, .int 0, .int 0, .ref q5, .ref q6, .null, .null, .null, .null, .null, .null, .null, .null, .null, .null, .null, .null, .null, .null, .null, .null, .null, .null, .null, .null, .null, .null, .null, .null, .null, .null, .int 0, .int 0])), (q5, .inl (cI, 2, .inl (fun _ => 0))), (q6, .inl (cI, 28, .inl (fun _ => 0)))]) F hK 0 rfl rfl iX5_init_5 tyX5 tyX5_ok nmX5 6 (by decide) (by decide +kernel) (fun _ h9 => h9) rfl hin2 rfl (by decide +kernel) rfl rfl (Nat.le_of_ble_eq_true rfl) rfl dX5_init_16 ?_
  refine sk_aload_n F dX5_init_19 rfl 0 rfl ?_
  refine sk_bipush (x := 28) F dX5_init_20 (by decide) ?_
  refine sk_nax F hK hA 0 (a0 := (28, .inl (fun _ => 0))) (ty := .int) rfl (by decide +kernel) rfl (fun _ => rfl) (by decide) (by decide) (by decide) (by decide) (by decide) dX5_init_22 (fun q7 => ?_)
  refine sk_pxF (ref := "TunnelWatchModel") (ty := .array .int) (l1 := [(h0, .inr (5, [.int 0, .int 0, .int 0, .int 0, .int 0, .ref q5, .ref q6, .ref q7, .null, .null, .null, .null, .null, .null, .null, .null, .null, .null, .null, .null, .null, .null, .null, .null, .null, .null, .null, .null, .null, .null, .null, .null, .null, .int 0, .int 0])), (q5, .inl (cI, 2, .inl (fun _ => 0))), (q6, .inl (cI, 28, .inl (fun _ => 0))), (q7, .inl (cI, 28, .inl (fun _ => 0)))]) F hK 0 rfl rfl iX5_init_5 tyX5 tyX5_ok nmX5 7 (by decide) (by decide +kernel) (fun _ h9 => h9) rfl hin2 rfl (by decide +kernel) rfl rfl (Nat.le_of_ble_eq_true rfl) rfl dX5_init_24 ?_
  refine sk_aload_n F dX5_init_27 rfl 0 rfl ?_
  refine sk_bipush (x := 28) F dX5_init_28 (by decide) ?_
  refine sk_nax F hK hA 0 (a0 := (28, .inl (fun _ => 0))) (ty := .int) rfl (by decide +kernel) rfl (fun _ => rfl) (by decide) (by decide) (by decide) (by decide) (by decide) dX5_init_30 (fun q8 => ?_)
  refine sk_pxF (ref := "TunnelWatchModel") (ty := .array .int) (l1 := [(h0, .inr (5, [.int 0, .int 0, .int 0, .int 0, .int 0, .ref q5, .ref q6, .ref q7, .ref q8, .null, .null, .null, .null, .null, .null, .null, .null, .null, .null, .null, .null, .null, .null, .null, .null, .null, .null, .null, .null, .null, .null, .null, .null, .int 0, .int 0])), (q5, .inl (cI, 2, .inl (fun _ => 0))), (q6, .inl (cI, 28, .inl (fun _ => 0))), (q7, .inl (cI, 28, .inl (fun _ => 0))), (q8, .inl (cI, 28, .inl (fun _ => 0)))]) F hK 0 rfl rfl iX5_init_5 tyX5 tyX5_ok nmX5 8 (by decide) (by decide +kernel) (fun _ h9 => h9) rfl hin2 rfl (by decide +kernel) rfl rfl (Nat.le_of_ble_eq_true rfl) rfl dX5_init_32 ?_
  refine sk_aload_n F dX5_init_35 rfl 0 rfl ?_
  refine sk_bipush (x := 28) F dX5_init_36 (by decide) ?_
  refine sk_nax F hK hA 0 (a0 := (28, .inl (fun _ => 0))) (ty := .int) rfl (by decide +kernel) rfl (fun _ => rfl) (by decide) (by decide) (by decide) (by decide) (by decide) dX5_init_38 (fun q9 => ?_)
  refine sk_pxF (ref := "TunnelWatchModel") (ty := .array .int) (l1 := [(h0, .inr (5, [.int 0, .int 0, .int 0, .int 0, .int 0, .ref q5, .ref q6, .ref q7, .ref q8, .ref q9, .null, .null, .null, .null, .null, .null, .null, .null, .null, .null, .null, .null, .null, .null, .null, .null, .null, .null, .null, .null, .null, .null, .null, .int 0, .int 0])), (q5, .inl (cI, 2, .inl (fun _ => 0))), (q6, .inl (cI, 28, .inl (fun _ => 0))), (q7, .inl (cI, 28, .inl (fun _ => 0))), (q8, .inl (cI, 28, .inl (fun _ => 0))), (q9, .inl (cI, 28, .inl (fun _ => 0)))]) F hK 0 rfl rfl iX5_init_5 tyX5 tyX5_ok nmX5 9 (by decide) (by decide +kernel) (fun _ h9 => h9) rfl hin2 rfl (by decide +kernel) rfl rfl (Nat.le_of_ble_eq_true rfl) rfl dX5_init_40 ?_
  refine sk_aload_n F dX5_init_43 rfl 0 rfl ?_
  refine sk_bipush (x := 28) F dX5_init_44 (by decide) ?_
  refine sk_nax F hK hA 3 (a0 := (28, .inl (fun _ => 0))) (ty := .boolean) rfl (by decide +kernel) rfl (fun _ => rfl) (by decide) (by decide) (by decide) (by decide) (by decide) dX5_init_46 (fun q10 => ?_)
  refine sk_pxF (ref := "TunnelWatchModel") (ty := .array .boolean) (l1 := [(h0, .inr (5, [.int 0, .int 0, .int 0, .int 0, .int 0, .ref q5, .ref q6, .ref q7, .ref q8, .ref q9, .ref q10, .null, .null, .null, .null, .null, .null, .null, .null, .null, .null, .null, .null, .null, .null, .null, .null, .null, .null, .null, .null, .null, .null, .int 0, .int 0])), (q5, .inl (cI, 2, .inl (fun _ => 0))), (q6, .inl (cI, 28, .inl (fun _ => 0))), (q7, .inl (cI, 28, .inl (fun _ => 0))), (q8, .inl (cI, 28, .inl (fun _ => 0))), (q9, .inl (cI, 28, .inl (fun _ => 0))), (q10, .inl (cZ, 28, .inl (fun _ => 0)))]) F hK 0 rfl rfl iX5_init_5 tyX5 tyX5_ok nmX5 10 (by decide) (by decide +kernel) (fun _ h9 => h9) rfl hin2 rfl (by decide +kernel) rfl rfl (Nat.le_of_ble_eq_true rfl) rfl dX5_init_48 ?_
  refine sk_aload_n F dX5_init_51 rfl 0 rfl ?_
  refine sk_bipush (x := 28) F dX5_init_52 (by decide) ?_
  refine sk_nax F hK hA 3 (a0 := (28, .inl (fun _ => 0))) (ty := .boolean) rfl (by decide +kernel) rfl (fun _ => rfl) (by decide) (by decide) (by decide) (by decide) (by decide) dX5_init_54 (fun q11 => ?_)
  refine sk_pxF (ref := "TunnelWatchModel") (ty := .array .boolean) (l1 := [(h0, .inr (5, [.int 0, .int 0, .int 0, .int 0, .int 0, .ref q5, .ref q6, .ref q7, .ref q8, .ref q9, .ref q10, .ref q11, .null, .null, .null, .null, .null, .null, .null, .null, .null, .null, .null, .null, .null, .null, .null, .null, .null, .null, .null, .null, .null, .int 0, .int 0])), (q5, .inl (cI, 2, .inl (fun _ => 0))), (q6, .inl (cI, 28, .inl (fun _ => 0))), (q7, .inl (cI, 28, .inl (fun _ => 0))), (q8, .inl (cI, 28, .inl (fun _ => 0))), (q9, .inl (cI, 28, .inl (fun _ => 0))), (q10, .inl (cZ, 28, .inl (fun _ => 0))), (q11, .inl (cZ, 28, .inl (fun _ => 0)))]) F hK 0 rfl rfl iX5_init_5 tyX5 tyX5_ok nmX5 11 (by decide) (by decide +kernel) (fun _ h9 => h9) rfl hin2 rfl (by decide +kernel) rfl rfl (Nat.le_of_ble_eq_true rfl) rfl dX5_init_56 ?_
  refine sk_aload_n F dX5_init_59 rfl 0 rfl ?_
  refine sk_bipush (x := 28) F dX5_init_60 (by decide) ?_
  refine sk_nax F hK hA 0 (a0 := (28, .inl (fun _ => 0))) (ty := .int) rfl (by decide +kernel) rfl (fun _ => rfl) (by decide) (by decide) (by decide) (by decide) (by decide) dX5_init_62 (fun q12 => ?_)
  refine sk_pxF (ref := "TunnelWatchModel") (ty := .array .int) (l1 := [(h0, .inr (5, [.int 0, .int 0, .int 0, .int 0, .int 0, .ref q5, .ref q6, .ref q7, .ref q8, .ref q9, .ref q10, .ref q11, .ref q12, .null, .null, .null, .null, .null, .null, .null, .null, .null, .null, .null, .null, .null, .null, .null, .null, .null, .null, .null, .null, .int 0, .int 0])), (q5, .inl (cI, 2, .inl (fun _ => 0))), (q6, .inl (cI, 28, .inl (fun _ => 0))), (q7, .inl (cI, 28, .inl (fun _ => 0))), (q8, .inl (cI, 28, .inl (fun _ => 0))), (q9, .inl (cI, 28, .inl (fun _ => 0))), (q10, .inl (cZ, 28, .inl (fun _ => 0))), (q11, .inl (cZ, 28, .inl (fun _ => 0))), (q12, .inl (cI, 28, .inl (fun _ => 0)))]) F hK 0 rfl rfl iX5_init_5 tyX5 tyX5_ok nmX5 12 (by decide) (by decide +kernel) (fun _ h9 => h9) rfl hin2 rfl (by decide +kernel) rfl rfl (Nat.le_of_ble_eq_true rfl) rfl dX5_init_64 ?_
  refine sk_aload_n F dX5_init_67 rfl 0 rfl ?_
  refine sk_bipush (x := 28) F dX5_init_68 (by decide) ?_
  refine sk_nax F hK hA 0 (a0 := (28, .inl (fun _ => 0))) (ty := .int) rfl (by decide +kernel) rfl (fun _ => rfl) (by decide) (by decide) (by decide) (by decide) (by decide) dX5_init_70 (fun q13 => ?_)
  refine sk_pxF (ref := "TunnelWatchModel") (ty := .array .int) (l1 := [(h0, .inr (5, [.int 0, .int 0, .int 0, .int 0, .int 0, .ref q5, .ref q6, .ref q7, .ref q8, .ref q9, .ref q10, .ref q11, .ref q12, .ref q13, .null, .null, .null, .null, .null, .null, .null, .null, .null, .null, .null, .null, .null, .null, .null, .null, .null, .null, .null, .int 0, .int 0])), (q5, .inl (cI, 2, .inl (fun _ => 0))), (q6, .inl (cI, 28, .inl (fun _ => 0))), (q7, .inl (cI, 28, .inl (fun _ => 0))), (q8, .inl (cI, 28, .inl (fun _ => 0))), (q9, .inl (cI, 28, .inl (fun _ => 0))), (q10, .inl (cZ, 28, .inl (fun _ => 0))), (q11, .inl (cZ, 28, .inl (fun _ => 0))), (q12, .inl (cI, 28, .inl (fun _ => 0))), (q13, .inl (cI, 28, .inl (fun _ => 0)))]) F hK 0 rfl rfl iX5_init_5 tyX5 tyX5_ok nmX5 13 (by decide) (by decide +kernel) (fun _ h9 => h9) rfl hin2 rfl (by decide +kernel) rfl rfl (Nat.le_of_ble_eq_true rfl) rfl dX5_init_72 ?_
  refine sk_aload_n F dX5_init_75 rfl 0 rfl ?_
  refine sk_bipush (x := 28) F dX5_init_76 (by decide) ?_
  refine sk_nax F hK hA 0 (a0 := (28, .inl (fun _ => 0))) (ty := .int) rfl (by decide +kernel) rfl (fun _ => rfl) (by decide) (by decide) (by decide) (by decide) (by decide) dX5_init_78 (fun q14 => ?_)
  refine sk_pxF (ref := "TunnelWatchModel") (ty := .array .int) (l1 := [(h0, .inr (5, [.int 0, .int 0, .int 0, .int 0, .int 0, .ref q5, .ref q6, .ref q7, .ref q8, .ref q9, .ref q10, .ref q11, .ref q12, .ref q13, .ref q14, .null, .null, .null, .null, .null, .null, .null, .null, .null, .null, .null, .null, .null, .null, .null, .null, .null, .null, .int 0, .int 0])), (q5, .inl (cI, 2, .inl (fun _ => 0))), (q6, .inl (cI, 28, .inl (fun _ => 0))), (q7, .inl (cI, 28, .inl (fun _ => 0))), (q8, .inl (cI, 28, .inl (fun _ => 0))), (q9, .inl (cI, 28, .inl (fun _ => 0))), (q10, .inl (cZ, 28, .inl (fun _ => 0))), (q11, .inl (cZ, 28, .inl (fun _ => 0))), (q12, .inl (cI, 28, .inl (fun _ => 0))), (q13, .inl (cI, 28, .inl (fun _ => 0))), (q14, .inl (cI, 28, .inl (fun _ => 0)))]) F hK 0 rfl rfl iX5_init_5 tyX5 tyX5_ok nmX5 14 (by decide) (by decide +kernel) (fun _ h9 => h9) rfl hin2 rfl (by decide +kernel) rfl rfl (Nat.le_of_ble_eq_true rfl) rfl dX5_init_80 ?_
  refine sk_aload_n F dX5_init_83 rfl 0 rfl ?_
  refine sk_bipush (x := 28) F dX5_init_84 (by decide) ?_
  refine sk_nax F hK hA 0 (a0 := (28, .inl (fun _ => 0))) (ty := .int) rfl (by decide +kernel) rfl (fun _ => rfl) (by decide) (by decide) (by decide) (by decide) (by decide) dX5_init_86 (fun q15 => ?_)
  refine sk_pxF (ref := "TunnelWatchModel") (ty := .array .int) (l1 := [(h0, .inr (5, [.int 0, .int 0, .int 0, .int 0, .int 0, .ref q5, .ref q6, .ref q7, .ref q8, .ref q9, .ref q10, .ref q11, .ref q12, .ref q13, .ref q14, .ref q15, .null, .null, .null, .null, .null, .null, .null, .null, .null, .null, .null, .null, .null, .null, .null, .null, .null, .int 0, .int 0])), (q5, .inl (cI, 2, .inl (fun _ => 0))), (q6, .inl (cI, 28, .inl (fun _ => 0))), (q7, .inl (cI, 28, .inl (fun _ => 0))), (q8, .inl (cI, 28, .inl (fun _ => 0))), (q9, .inl (cI, 28, .inl (fun _ => 0))), (q10, .inl (cZ, 28, .inl (fun _ => 0))), (q11, .inl (cZ, 28, .inl (fun _ => 0))), (q12, .inl (cI, 28, .inl (fun _ => 0))), (q13, .inl (cI, 28, .inl (fun _ => 0))), (q14, .inl (cI, 28, .inl (fun _ => 0))), (q15, .inl (cI, 28, .inl (fun _ => 0)))]) F hK 0 rfl rfl iX5_init_5 tyX5 tyX5_ok nmX5 15 (by decide) (by decide +kernel) (fun _ h9 => h9) rfl hin2 rfl (by decide +kernel) rfl rfl (Nat.le_of_ble_eq_true rfl) rfl dX5_init_88 ?_
  refine sk_aload_n F dX5_init_91 rfl 0 rfl ?_
  refine sk_bipush (x := 28) F dX5_init_92 (by decide) ?_
  refine sk_nax F hK hA 0 (a0 := (28, .inl (fun _ => 0))) (ty := .int) rfl (by decide +kernel) rfl (fun _ => rfl) (by decide) (by decide) (by decide) (by decide) (by decide) dX5_init_94 (fun q16 => ?_)
  refine sk_pxF (ref := "TunnelWatchModel") (ty := .array .int) (l1 := [(h0, .inr (5, [.int 0, .int 0, .int 0, .int 0, .int 0, .ref q5, .ref q6, .ref q7, .ref q8, .ref q9, .ref q10, .ref q11, .ref q12, .ref q13, .ref q14, .ref q15, .ref q16, .null, .null, .null, .null, .null, .null, .null, .null, .null, .null, .null, .null, .null, .null, .null, .null, .int 0, .int 0])), (q5, .inl (cI, 2, .inl (fun _ => 0))), (q6, .inl (cI, 28, .inl (fun _ => 0))), (q7, .inl (cI, 28, .inl (fun _ => 0))), (q8, .inl (cI, 28, .inl (fun _ => 0))), (q9, .inl (cI, 28, .inl (fun _ => 0))), (q10, .inl (cZ, 28, .inl (fun _ => 0))), (q11, .inl (cZ, 28, .inl (fun _ => 0))), (q12, .inl (cI, 28, .inl (fun _ => 0))), (q13, .inl (cI, 28, .inl (fun _ => 0))), (q14, .inl (cI, 28, .inl (fun _ => 0))), (q15, .inl (cI, 28, .inl (fun _ => 0))), (q16, .inl (cI, 28, .inl (fun _ => 0)))]) F hK 0 rfl rfl iX5_init_5 tyX5 tyX5_ok nmX5 16 (by decide) (by decide +kernel) (fun _ h9 => h9) rfl hin2 rfl (by decide +kernel) rfl rfl (Nat.le_of_ble_eq_true rfl) rfl dX5_init_96 ?_
  refine sk_aload_n F dX5_init_99 rfl 0 rfl ?_
  refine sk_bipush (x := 48) F dX5_init_100 (by decide) ?_
  refine sk_nax F hK hA 0 (a0 := (48, .inl (fun _ => 0))) (ty := .int) rfl (by decide +kernel) rfl (fun _ => rfl) (by decide) (by decide) (by decide) (by decide) (by decide) dX5_init_102 (fun q17 => ?_)
  refine sk_pxF (ref := "TunnelWatchModel") (ty := .array .int) (l1 := [(h0, .inr (5, [.int 0, .int 0, .int 0, .int 0, .int 0, .ref q5, .ref q6, .ref q7, .ref q8, .ref q9, .ref q10, .ref q11, .ref q12, .ref q13, .ref q14, .ref q15, .ref q16, .ref q17, .null, .null, .null, .null, .null, .null, .null, .null, .null, .null, .null, .null, .null, .null, .null, .int 0, .int 0])), (q5, .inl (cI, 2, .inl (fun _ => 0))), (q6, .inl (cI, 28, .inl (fun _ => 0))), (q7, .inl (cI, 28, .inl (fun _ => 0))), (q8, .inl (cI, 28, .inl (fun _ => 0))), (q9, .inl (cI, 28, .inl (fun _ => 0))), (q10, .inl (cZ, 28, .inl (fun _ => 0))), (q11, .inl (cZ, 28, .inl (fun _ => 0))), (q12, .inl (cI, 28, .inl (fun _ => 0))), (q13, .inl (cI, 28, .inl (fun _ => 0))), (q14, .inl (cI, 28, .inl (fun _ => 0))), (q15, .inl (cI, 28, .inl (fun _ => 0))), (q16, .inl (cI, 28, .inl (fun _ => 0))), (q17, .inl (cI, 48, .inl (fun _ => 0)))]) F hK 0 rfl rfl iX5_init_5 tyX5 tyX5_ok nmX5 17 (by decide) (by decide +kernel) (fun _ h9 => h9) rfl hin2 rfl (by decide +kernel) rfl rfl (Nat.le_of_ble_eq_true rfl) rfl dX5_init_104 ?_
  refine sk_aload_n F dX5_init_107 rfl 0 rfl ?_
  refine sk_bipush (x := 48) F dX5_init_108 (by decide) ?_
  refine sk_nax F hK hA 3 (a0 := (48, .inl (fun _ => 0))) (ty := .boolean) rfl (by decide +kernel) rfl (fun _ => rfl) (by decide) (by decide) (by decide) (by decide) (by decide) dX5_init_110 (fun q18 => ?_)
  refine sk_pxF (ref := "TunnelWatchModel") (ty := .array .boolean) (l1 := [(h0, .inr (5, [.int 0, .int 0, .int 0, .int 0, .int 0, .ref q5, .ref q6, .ref q7, .ref q8, .ref q9, .ref q10, .ref q11, .ref q12, .ref q13, .ref q14, .ref q15, .ref q16, .ref q17, .ref q18, .null, .null, .null, .null, .null, .null, .null, .null, .null, .null, .null, .null, .null, .null, .int 0, .int 0])), (q5, .inl (cI, 2, .inl (fun _ => 0))), (q6, .inl (cI, 28, .inl (fun _ => 0))), (q7, .inl (cI, 28, .inl (fun _ => 0))), (q8, .inl (cI, 28, .inl (fun _ => 0))), (q9, .inl (cI, 28, .inl (fun _ => 0))), (q10, .inl (cZ, 28, .inl (fun _ => 0))), (q11, .inl (cZ, 28, .inl (fun _ => 0))), (q12, .inl (cI, 28, .inl (fun _ => 0))), (q13, .inl (cI, 28, .inl (fun _ => 0))), (q14, .inl (cI, 28, .inl (fun _ => 0))), (q15, .inl (cI, 28, .inl (fun _ => 0))), (q16, .inl (cI, 28, .inl (fun _ => 0))), (q17, .inl (cI, 48, .inl (fun _ => 0))), (q18, .inl (cZ, 48, .inl (fun _ => 0)))]) F hK 0 rfl rfl iX5_init_5 tyX5 tyX5_ok nmX5 18 (by decide) (by decide +kernel) (fun _ h9 => h9) rfl hin2 rfl (by decide +kernel) rfl rfl (Nat.le_of_ble_eq_true rfl) rfl dX5_init_112 ?_
  refine sk_aload_n F dX5_init_115 rfl 0 rfl ?_
  refine sk_bipush (x := 48) F dX5_init_116 (by decide) ?_
  refine sk_nax F hK hA 3 (a0 := (48, .inl (fun _ => 0))) (ty := .boolean) rfl (by decide +kernel) rfl (fun _ => rfl) (by decide) (by decide) (by decide) (by decide) (by decide) dX5_init_118 (fun q19 => ?_)
  refine sk_pxF (ref := "TunnelWatchModel") (ty := .array .boolean) (l1 := [(h0, .inr (5, [.int 0, .int 0, .int 0, .int 0, .int 0, .ref q5, .ref q6, .ref q7, .ref q8, .ref q9, .ref q10, .ref q11, .ref q12, .ref q13, .ref q14, .ref q15, .ref q16, .ref q17, .ref q18, .ref q19, .null, .null, .null, .null, .null, .null, .null, .null, .null, .null, .null, .null, .null, .int 0, .int 0])), (q5, .inl (cI, 2, .inl (fun _ => 0))), (q6, .inl (cI, 28, .inl (fun _ => 0))), (q7, .inl (cI, 28, .inl (fun _ => 0))), (q8, .inl (cI, 28, .inl (fun _ => 0))), (q9, .inl (cI, 28, .inl (fun _ => 0))), (q10, .inl (cZ, 28, .inl (fun _ => 0))), (q11, .inl (cZ, 28, .inl (fun _ => 0))), (q12, .inl (cI, 28, .inl (fun _ => 0))), (q13, .inl (cI, 28, .inl (fun _ => 0))), (q14, .inl (cI, 28, .inl (fun _ => 0))), (q15, .inl (cI, 28, .inl (fun _ => 0))), (q16, .inl (cI, 28, .inl (fun _ => 0))), (q17, .inl (cI, 48, .inl (fun _ => 0))), (q18, .inl (cZ, 48, .inl (fun _ => 0))), (q19, .inl (cZ, 48, .inl (fun _ => 0)))]) F hK 0 rfl rfl iX5_init_5 tyX5 tyX5_ok nmX5 19 (by decide) (by decide +kernel) (fun _ h9 => h9) rfl hin2 rfl (by decide +kernel) rfl rfl (Nat.le_of_ble_eq_true rfl) rfl dX5_init_120 ?_
  refine sk_aload_n F dX5_init_123 rfl 0 rfl ?_
  refine sk_bipush (x := 48) F dX5_init_124 (by decide) ?_
  refine sk_nax F hK hA 0 (a0 := (48, .inl (fun _ => 0))) (ty := .int) rfl (by decide +kernel) rfl (fun _ => rfl) (by decide) (by decide) (by decide) (by decide) (by decide) dX5_init_126 (fun q20 => ?_)
  refine sk_pxF (ref := "TunnelWatchModel") (ty := .array .int) (l1 := [(h0, .inr (5, [.int 0, .int 0, .int 0, .int 0, .int 0, .ref q5, .ref q6, .ref q7, .ref q8, .ref q9, .ref q10, .ref q11, .ref q12, .ref q13, .ref q14, .ref q15, .ref q16, .ref q17, .ref q18, .ref q19, .ref q20, .null, .null, .null, .null, .null, .null, .null, .null, .null, .null, .null, .null, .int 0, .int 0])), (q5, .inl (cI, 2, .inl (fun _ => 0))), (q6, .inl (cI, 28, .inl (fun _ => 0))), (q7, .inl (cI, 28, .inl (fun _ => 0))), (q8, .inl (cI, 28, .inl (fun _ => 0))), (q9, .inl (cI, 28, .inl (fun _ => 0))), (q10, .inl (cZ, 28, .inl (fun _ => 0))), (q11, .inl (cZ, 28, .inl (fun _ => 0))), (q12, .inl (cI, 28, .inl (fun _ => 0))), (q13, .inl (cI, 28, .inl (fun _ => 0))), (q14, .inl (cI, 28, .inl (fun _ => 0))), (q15, .inl (cI, 28, .inl (fun _ => 0))), (q16, .inl (cI, 28, .inl (fun _ => 0))), (q17, .inl (cI, 48, .inl (fun _ => 0))), (q18, .inl (cZ, 48, .inl (fun _ => 0))), (q19, .inl (cZ, 48, .inl (fun _ => 0))), (q20, .inl (cI, 48, .inl (fun _ => 0)))]) F hK 0 rfl rfl iX5_init_5 tyX5 tyX5_ok nmX5 20 (by decide) (by decide +kernel) (fun _ h9 => h9) rfl hin2 rfl (by decide +kernel) rfl rfl (Nat.le_of_ble_eq_true rfl) rfl dX5_init_128 ?_
  refine sk_aload_n F dX5_init_131 rfl 0 rfl ?_
  refine sk_bipush (x := 48) F dX5_init_132 (by decide) ?_
  refine sk_nax F hK hA 0 (a0 := (48, .inl (fun _ => 0))) (ty := .int) rfl (by decide +kernel) rfl (fun _ => rfl) (by decide) (by decide) (by decide) (by decide) (by decide) dX5_init_134 (fun q21 => ?_)
  refine sk_pxF (ref := "TunnelWatchModel") (ty := .array .int) (l1 := [(h0, .inr (5, [.int 0, .int 0, .int 0, .int 0, .int 0, .ref q5, .ref q6, .ref q7, .ref q8, .ref q9, .ref q10, .ref q11, .ref q12, .ref q13, .ref q14, .ref q15, .ref q16, .ref q17, .ref q18, .ref q19, .ref q20, .ref q21, .null, .null, .null, .null, .null, .null, .null, .null, .null, .null, .null, .int 0, .int 0])), (q5, .inl (cI, 2, .inl (fun _ => 0))), (q6, .inl (cI, 28, .inl (fun _ => 0))), (q7, .inl (cI, 28, .inl (fun _ => 0))), (q8, .inl (cI, 28, .inl (fun _ => 0))), (q9, .inl (cI, 28, .inl (fun _ => 0))), (q10, .inl (cZ, 28, .inl (fun _ => 0))), (q11, .inl (cZ, 28, .inl (fun _ => 0))), (q12, .inl (cI, 28, .inl (fun _ => 0))), (q13, .inl (cI, 28, .inl (fun _ => 0))), (q14, .inl (cI, 28, .inl (fun _ => 0))), (q15, .inl (cI, 28, .inl (fun _ => 0))), (q16, .inl (cI, 28, .inl (fun _ => 0))), (q17, .inl (cI, 48, .inl (fun _ => 0))), (q18, .inl (cZ, 48, .inl (fun _ => 0))), (q19, .inl (cZ, 48, .inl (fun _ => 0))), (q20, .inl (cI, 48, .inl (fun _ => 0))), (q21, .inl (cI, 48, .inl (fun _ => 0)))]) F hK 0 rfl rfl iX5_init_5 tyX5 tyX5_ok nmX5 21 (by decide) (by decide +kernel) (fun _ h9 => h9) rfl hin2 rfl (by decide +kernel) rfl rfl (Nat.le_of_ble_eq_true rfl) rfl dX5_init_136 ?_
  refine sk_aload_n F dX5_init_139 rfl 0 rfl ?_
  refine sk_bipush (x := 48) F dX5_init_140 (by decide) ?_
  refine sk_nax F hK hA 0 (a0 := (48, .inl (fun _ => 0))) (ty := .int) rfl (by decide +kernel) rfl (fun _ => rfl) (by decide) (by decide) (by decide) (by decide) (by decide) dX5_init_142 (fun q22 => ?_)
  refine sk_pxF (ref := "TunnelWatchModel") (ty := .array .int) (l1 := [(h0, .inr (5, [.int 0, .int 0, .int 0, .int 0, .int 0, .ref q5, .ref q6, .ref q7, .ref q8, .ref q9, .ref q10, .ref q11, .ref q12, .ref q13, .ref q14, .ref q15, .ref q16, .ref q17, .ref q18, .ref q19, .ref q20, .ref q21, .ref q22, .null, .null, .null, .null, .null, .null, .null, .null, .null, .null, .int 0, .int 0])), (q5, .inl (cI, 2, .inl (fun _ => 0))), (q6, .inl (cI, 28, .inl (fun _ => 0))), (q7, .inl (cI, 28, .inl (fun _ => 0))), (q8, .inl (cI, 28, .inl (fun _ => 0))), (q9, .inl (cI, 28, .inl (fun _ => 0))), (q10, .inl (cZ, 28, .inl (fun _ => 0))), (q11, .inl (cZ, 28, .inl (fun _ => 0))), (q12, .inl (cI, 28, .inl (fun _ => 0))), (q13, .inl (cI, 28, .inl (fun _ => 0))), (q14, .inl (cI, 28, .inl (fun _ => 0))), (q15, .inl (cI, 28, .inl (fun _ => 0))), (q16, .inl (cI, 28, .inl (fun _ => 0))), (q17, .inl (cI, 48, .inl (fun _ => 0))), (q18, .inl (cZ, 48, .inl (fun _ => 0))), (q19, .inl (cZ, 48, .inl (fun _ => 0))), (q20, .inl (cI, 48, .inl (fun _ => 0))), (q21, .inl (cI, 48, .inl (fun _ => 0))), (q22, .inl (cI, 48, .inl (fun _ => 0)))]) F hK 0 rfl rfl iX5_init_5 tyX5 tyX5_ok nmX5 22 (by decide) (by decide +kernel) (fun _ h9 => h9) rfl hin2 rfl (by decide +kernel) rfl rfl (Nat.le_of_ble_eq_true rfl) rfl dX5_init_144 ?_
  refine sk_aload_n F dX5_init_147 rfl 0 rfl ?_
  refine sk_bipush (x := 48) F dX5_init_148 (by decide) ?_
  refine sk_nax F hK hA 0 (a0 := (48, .inl (fun _ => 0))) (ty := .int) rfl (by decide +kernel) rfl (fun _ => rfl) (by decide) (by decide) (by decide) (by decide) (by decide) dX5_init_150 (fun q23 => ?_)
  refine sk_pxF (ref := "TunnelWatchModel") (ty := .array .int) (l1 := [(h0, .inr (5, [.int 0, .int 0, .int 0, .int 0, .int 0, .ref q5, .ref q6, .ref q7, .ref q8, .ref q9, .ref q10, .ref q11, .ref q12, .ref q13, .ref q14, .ref q15, .ref q16, .ref q17, .ref q18, .ref q19, .ref q20, .ref q21, .ref q22, .ref q23, .null, .null, .null, .null, .null, .null, .null, .null, .null, .int 0, .int 0])), (q5, .inl (cI, 2, .inl (fun _ => 0))), (q6, .inl (cI, 28, .inl (fun _ => 0))), (q7, .inl (cI, 28, .inl (fun _ => 0))), (q8, .inl (cI, 28, .inl (fun _ => 0))), (q9, .inl (cI, 28, .inl (fun _ => 0))), (q10, .inl (cZ, 28, .inl (fun _ => 0))), (q11, .inl (cZ, 28, .inl (fun _ => 0))), (q12, .inl (cI, 28, .inl (fun _ => 0))), (q13, .inl (cI, 28, .inl (fun _ => 0))), (q14, .inl (cI, 28, .inl (fun _ => 0))), (q15, .inl (cI, 28, .inl (fun _ => 0))), (q16, .inl (cI, 28, .inl (fun _ => 0))), (q17, .inl (cI, 48, .inl (fun _ => 0))), (q18, .inl (cZ, 48, .inl (fun _ => 0))), (q19, .inl (cZ, 48, .inl (fun _ => 0))), (q20, .inl (cI, 48, .inl (fun _ => 0))), (q21, .inl (cI, 48, .inl (fun _ => 0))), (q22, .inl (cI, 48, .inl (fun _ => 0))), (q23, .inl (cI, 48, .inl (fun _ => 0)))]) F hK 0 rfl rfl iX5_init_5 tyX5 tyX5_ok nmX5 23 (by decide) (by decide +kernel) (fun _ h9 => h9) rfl hin2 rfl (by decide +kernel) rfl rfl (Nat.le_of_ble_eq_true rfl) rfl dX5_init_152 ?_
  refine sk_aload_n F dX5_init_155 rfl 0 rfl ?_
  refine sk_bipush (x := 48) F dX5_init_156 (by decide) ?_
  refine sk_nax F hK hA 0 (a0 := (48, .inl (fun _ => 0))) (ty := .int) rfl (by decide +kernel) rfl (fun _ => rfl) (by decide) (by decide) (by decide) (by decide) (by decide) dX5_init_158 (fun q24 => ?_)
  refine sk_pxF (ref := "TunnelWatchModel") (ty := .array .int) (l1 := [(h0, .inr (5, [.int 0, .int 0, .int 0, .int 0, .int 0, .ref q5, .ref q6, .ref q7, .ref q8, .ref q9, .ref q10, .ref q11, .ref q12, .ref q13, .ref q14, .ref q15, .ref q16, .ref q17, .ref q18, .ref q19, .ref q20, .ref q21, .ref q22, .ref q23, .ref q24, .null, .null, .null, .null, .null, .null, .null, .null, .int 0, .int 0])), (q5, .inl (cI, 2, .inl (fun _ => 0))), (q6, .inl (cI, 28, .inl (fun _ => 0))), (q7, .inl (cI, 28, .inl (fun _ => 0))), (q8, .inl (cI, 28, .inl (fun _ => 0))), (q9, .inl (cI, 28, .inl (fun _ => 0))), (q10, .inl (cZ, 28, .inl (fun _ => 0))), (q11, .inl (cZ, 28, .inl (fun _ => 0))), (q12, .inl (cI, 28, .inl (fun _ => 0))), (q13, .inl (cI, 28, .inl (fun _ => 0))), (q14, .inl (cI, 28, .inl (fun _ => 0))), (q15, .inl (cI, 28, .inl (fun _ => 0))), (q16, .inl (cI, 28, .inl (fun _ => 0))), (q17, .inl (cI, 48, .inl (fun _ => 0))), (q18, .inl (cZ, 48, .inl (fun _ => 0))), (q19, .inl (cZ, 48, .inl (fun _ => 0))), (q20, .inl (cI, 48, .inl (fun _ => 0))), (q21, .inl (cI, 48, .inl (fun _ => 0))), (q22, .inl (cI, 48, .inl (fun _ => 0))), (q23, .inl (cI, 48, .inl (fun _ => 0))), (q24, .inl (cI, 48, .inl (fun _ => 0)))]) F hK 0 rfl rfl iX5_init_5 tyX5 tyX5_ok nmX5 24 (by decide) (by decide +kernel) (fun _ h9 => h9) rfl hin2 rfl (by decide +kernel) rfl rfl (Nat.le_of_ble_eq_true rfl) rfl dX5_init_160 ?_
  refine sk_aload_n F dX5_init_163 rfl 0 rfl ?_
  refine sk_iconst (x := 2) F dX5_init_164 (by decide) ?_
  refine sk_nax F hK hA 0 (a0 := (2, .inl (fun _ => 0))) (ty := .int) rfl (by decide +kernel) rfl (fun _ => rfl) (by decide) (by decide) (by decide) (by decide) (by decide) dX5_init_165 (fun q25 => ?_)
  refine sk_pxF (ref := "TunnelWatchModel") (ty := .array .int) (l1 := [(h0, .inr (5, [.int 0, .int 0, .int 0, .int 0, .int 0, .ref q5, .ref q6, .ref q7, .ref q8, .ref q9, .ref q10, .ref q11, .ref q12, .ref q13, .ref q14, .ref q15, .ref q16, .ref q17, .ref q18, .ref q19, .ref q20, .ref q21, .ref q22, .ref q23, .ref q24, .ref q25, .null, .null, .null, .null, .null, .null, .null, .int 0, .int 0])), (q5, .inl (cI, 2, .inl (fun _ => 0))), (q6, .inl (cI, 28, .inl (fun _ => 0))), (q7, .inl (cI, 28, .inl (fun _ => 0))), (q8, .inl (cI, 28, .inl (fun _ => 0))), (q9, .inl (cI, 28, .inl (fun _ => 0))), (q10, .inl (cZ, 28, .inl (fun _ => 0))), (q11, .inl (cZ, 28, .inl (fun _ => 0))), (q12, .inl (cI, 28, .inl (fun _ => 0))), (q13, .inl (cI, 28, .inl (fun _ => 0))), (q14, .inl (cI, 28, .inl (fun _ => 0))), (q15, .inl (cI, 28, .inl (fun _ => 0))), (q16, .inl (cI, 28, .inl (fun _ => 0))), (q17, .inl (cI, 48, .inl (fun _ => 0))), (q18, .inl (cZ, 48, .inl (fun _ => 0))), (q19, .inl (cZ, 48, .inl (fun _ => 0))), (q20, .inl (cI, 48, .inl (fun _ => 0))), (q21, .inl (cI, 48, .inl (fun _ => 0))), (q22, .inl (cI, 48, .inl (fun _ => 0))), (q23, .inl (cI, 48, .inl (fun _ => 0))), (q24, .inl (cI, 48, .inl (fun _ => 0))), (q25, .inl (cI, 2, .inl (fun _ => 0)))]) F hK 0 rfl rfl iX5_init_5 tyX5 tyX5_ok nmX5 25 (by decide) (by decide +kernel) (fun _ h9 => h9) rfl hin2 rfl (by decide +kernel) rfl rfl (Nat.le_of_ble_eq_true rfl) rfl dX5_init_167 ?_
  refine sk_aload_n F dX5_init_170 rfl 0 rfl ?_
  refine sk_iconst (x := 2) F dX5_init_171 (by decide) ?_
  refine sk_nax F hK hA 0 (a0 := (2, .inl (fun _ => 0))) (ty := .int) rfl (by decide +kernel) rfl (fun _ => rfl) (by decide) (by decide) (by decide) (by decide) (by decide) dX5_init_172 (fun q26 => ?_)
  refine sk_pxF (ref := "TunnelWatchModel") (ty := .array .int) (l1 := [(h0, .inr (5, [.int 0, .int 0, .int 0, .int 0, .int 0, .ref q5, .ref q6, .ref q7, .ref q8, .ref q9, .ref q10, .ref q11, .ref q12, .ref q13, .ref q14, .ref q15, .ref q16, .ref q17, .ref q18, .ref q19, .ref q20, .ref q21, .ref q22, .ref q23, .ref q24, .ref q25, .ref q26, .null, .null, .null, .null, .null, .null, .int 0, .int 0])), (q5, .inl (cI, 2, .inl (fun _ => 0))), (q6, .inl (cI, 28, .inl (fun _ => 0))), (q7, .inl (cI, 28, .inl (fun _ => 0))), (q8, .inl (cI, 28, .inl (fun _ => 0))), (q9, .inl (cI, 28, .inl (fun _ => 0))), (q10, .inl (cZ, 28, .inl (fun _ => 0))), (q11, .inl (cZ, 28, .inl (fun _ => 0))), (q12, .inl (cI, 28, .inl (fun _ => 0))), (q13, .inl (cI, 28, .inl (fun _ => 0))), (q14, .inl (cI, 28, .inl (fun _ => 0))), (q15, .inl (cI, 28, .inl (fun _ => 0))), (q16, .inl (cI, 28, .inl (fun _ => 0))), (q17, .inl (cI, 48, .inl (fun _ => 0))), (q18, .inl (cZ, 48, .inl (fun _ => 0))), (q19, .inl (cZ, 48, .inl (fun _ => 0))), (q20, .inl (cI, 48, .inl (fun _ => 0))), (q21, .inl (cI, 48, .inl (fun _ => 0))), (q22, .inl (cI, 48, .inl (fun _ => 0))), (q23, .inl (cI, 48, .inl (fun _ => 0))), (q24, .inl (cI, 48, .inl (fun _ => 0))), (q25, .inl (cI, 2, .inl (fun _ => 0))), (q26, .inl (cI, 2, .inl (fun _ => 0)))]) F hK 0 rfl rfl iX5_init_5 tyX5 tyX5_ok nmX5 26 (by decide) (by decide +kernel) (fun _ h9 => h9) rfl hin2 rfl (by decide +kernel) rfl rfl (Nat.le_of_ble_eq_true rfl) rfl dX5_init_174 ?_
  refine sk_aload_n F dX5_init_177 rfl 0 rfl ?_
  refine sk_iconst (x := 2) F dX5_init_178 (by decide) ?_
  refine sk_nax F hK hA 3 (a0 := (2, .inl (fun _ => 0))) (ty := .boolean) rfl (by decide +kernel) rfl (fun _ => rfl) (by decide) (by decide) (by decide) (by decide) (by decide) dX5_init_179 (fun q27 => ?_)
  refine sk_pxF (ref := "TunnelWatchModel") (ty := .array .boolean) (l1 := [(h0, .inr (5, [.int 0, .int 0, .int 0, .int 0, .int 0, .ref q5, .ref q6, .ref q7, .ref q8, .ref q9, .ref q10, .ref q11, .ref q12, .ref q13, .ref q14, .ref q15, .ref q16, .ref q17, .ref q18, .ref q19, .ref q20, .ref q21, .ref q22, .ref q23, .ref q24, .ref q25, .ref q26, .ref q27, .null, .null, .null, .null, .null, .int 0, .int 0])), (q5, .inl (cI, 2, .inl (fun _ => 0))), (q6, .inl (cI, 28, .inl (fun _ => 0))), (q7, .inl (cI, 28, .inl (fun _ => 0))), (q8, .inl (cI, 28, .inl (fun _ => 0))), (q9, .inl (cI, 28, .inl (fun _ => 0))), (q10, .inl (cZ, 28, .inl (fun _ => 0))), (q11, .inl (cZ, 28, .inl (fun _ => 0))), (q12, .inl (cI, 28, .inl (fun _ => 0))), (q13, .inl (cI, 28, .inl (fun _ => 0))), (q14, .inl (cI, 28, .inl (fun _ => 0))), (q15, .inl (cI, 28, .inl (fun _ => 0))), (q16, .inl (cI, 28, .inl (fun _ => 0))), (q17, .inl (cI, 48, .inl (fun _ => 0))), (q18, .inl (cZ, 48, .inl (fun _ => 0))), (q19, .inl (cZ, 48, .inl (fun _ => 0))), (q20, .inl (cI, 48, .inl (fun _ => 0))), (q21, .inl (cI, 48, .inl (fun _ => 0))), (q22, .inl (cI, 48, .inl (fun _ => 0))), (q23, .inl (cI, 48, .inl (fun _ => 0))), (q24, .inl (cI, 48, .inl (fun _ => 0))), (q25, .inl (cI, 2, .inl (fun _ => 0))), (q26, .inl (cI, 2, .inl (fun _ => 0))), (q27, .inl (cZ, 2, .inl (fun _ => 0)))]) F hK 0 rfl rfl iX5_init_5 tyX5 tyX5_ok nmX5 27 (by decide) (by decide +kernel) (fun _ h9 => h9) rfl hin2 rfl (by decide +kernel) rfl rfl (Nat.le_of_ble_eq_true rfl) rfl dX5_init_181 ?_
  refine sk_aload_n F dX5_init_184 rfl 0 rfl ?_
  refine sk_iconst (x := 2) F dX5_init_185 (by decide) ?_
  refine sk_nax F hK hA 0 (a0 := (2, .inl (fun _ => 0))) (ty := .int) rfl (by decide +kernel) rfl (fun _ => rfl) (by decide) (by decide) (by decide) (by decide) (by decide) dX5_init_186 (fun q28 => ?_)
  refine sk_pxF (ref := "TunnelWatchModel") (ty := .array .int) (l1 := [(h0, .inr (5, [.int 0, .int 0, .int 0, .int 0, .int 0, .ref q5, .ref q6, .ref q7, .ref q8, .ref q9, .ref q10, .ref q11, .ref q12, .ref q13, .ref q14, .ref q15, .ref q16, .ref q17, .ref q18, .ref q19, .ref q20, .ref q21, .ref q22, .ref q23, .ref q24, .ref q25, .ref q26, .ref q27, .ref q28, .null, .null, .null, .null, .int 0, .int 0])), (q5, .inl (cI, 2, .inl (fun _ => 0))), (q6, .inl (cI, 28, .inl (fun _ => 0))), (q7, .inl (cI, 28, .inl (fun _ => 0))), (q8, .inl (cI, 28, .inl (fun _ => 0))), (q9, .inl (cI, 28, .inl (fun _ => 0))), (q10, .inl (cZ, 28, .inl (fun _ => 0))), (q11, .inl (cZ, 28, .inl (fun _ => 0))), (q12, .inl (cI, 28, .inl (fun _ => 0))), (q13, .inl (cI, 28, .inl (fun _ => 0))), (q14, .inl (cI, 28, .inl (fun _ => 0))), (q15, .inl (cI, 28, .inl (fun _ => 0))), (q16, .inl (cI, 28, .inl (fun _ => 0))), (q17, .inl (cI, 48, .inl (fun _ => 0))), (q18, .inl (cZ, 48, .inl (fun _ => 0))), (q19, .inl (cZ, 48, .inl (fun _ => 0))), (q20, .inl (cI, 48, .inl (fun _ => 0))), (q21, .inl (cI, 48, .inl (fun _ => 0))), (q22, .inl (cI, 48, .inl (fun _ => 0))), (q23, .inl (cI, 48, .inl (fun _ => 0))), (q24, .inl (cI, 48, .inl (fun _ => 0))), (q25, .inl (cI, 2, .inl (fun _ => 0))), (q26, .inl (cI, 2, .inl (fun _ => 0))), (q27, .inl (cZ, 2, .inl (fun _ => 0))), (q28, .inl (cI, 2, .inl (fun _ => 0)))]) F hK 0 rfl rfl iX5_init_5 tyX5 tyX5_ok nmX5 28 (by decide) (by decide +kernel) (fun _ h9 => h9) rfl hin2 rfl (by decide +kernel) rfl rfl (Nat.le_of_ble_eq_true rfl) rfl dX5_init_188 ?_
  refine sk_aload_n F dX5_init_191 rfl 0 rfl ?_
  refine sk_iconst (x := 2) F dX5_init_192 (by decide) ?_
  refine sk_nax F hK hA 0 (a0 := (2, .inl (fun _ => 0))) (ty := .int) rfl (by decide +kernel) rfl (fun _ => rfl) (by decide) (by decide) (by decide) (by decide) (by decide) dX5_init_193 (fun q29 => ?_)
  refine sk_pxF (ref := "TunnelWatchModel") (ty := .array .int) (l1 := [(h0, .inr (5, [.int 0, .int 0, .int 0, .int 0, .int 0, .ref q5, .ref q6, .ref q7, .ref q8, .ref q9, .ref q10, .ref q11, .ref q12, .ref q13, .ref q14, .ref q15, .ref q16, .ref q17, .ref q18, .ref q19, .ref q20, .ref q21, .ref q22, .ref q23, .ref q24, .ref q25, .ref q26, .ref q27, .ref q28, .ref q29, .null, .null, .null, .int 0, .int 0])), (q5, .inl (cI, 2, .inl (fun _ => 0))), (q6, .inl (cI, 28, .inl (fun _ => 0))), (q7, .inl (cI, 28, .inl (fun _ => 0))), (q8, .inl (cI, 28, .inl (fun _ => 0))), (q9, .inl (cI, 28, .inl (fun _ => 0))), (q10, .inl (cZ, 28, .inl (fun _ => 0))), (q11, .inl (cZ, 28, .inl (fun _ => 0))), (q12, .inl (cI, 28, .inl (fun _ => 0))), (q13, .inl (cI, 28, .inl (fun _ => 0))), (q14, .inl (cI, 28, .inl (fun _ => 0))), (q15, .inl (cI, 28, .inl (fun _ => 0))), (q16, .inl (cI, 28, .inl (fun _ => 0))), (q17, .inl (cI, 48, .inl (fun _ => 0))), (q18, .inl (cZ, 48, .inl (fun _ => 0))), (q19, .inl (cZ, 48, .inl (fun _ => 0))), (q20, .inl (cI, 48, .inl (fun _ => 0))), (q21, .inl (cI, 48, .inl (fun _ => 0))), (q22, .inl (cI, 48, .inl (fun _ => 0))), (q23, .inl (cI, 48, .inl (fun _ => 0))), (q24, .inl (cI, 48, .inl (fun _ => 0))), (q25, .inl (cI, 2, .inl (fun _ => 0))), (q26, .inl (cI, 2, .inl (fun _ => 0))), (q27, .inl (cZ, 2, .inl (fun _ => 0))), (q28, .inl (cI, 2, .inl (fun _ => 0))), (q29, .inl (cI, 2, .inl (fun _ => 0)))]) F hK 0 rfl rfl iX5_init_5 tyX5 tyX5_ok nmX5 29 (by decide) (by decide +kernel) (fun _ h9 => h9) rfl hin2 rfl (by decide +kernel) rfl rfl (Nat.le_of_ble_eq_true rfl) rfl dX5_init_195 ?_
  refine sk_aload_n F dX5_init_198 rfl 0 rfl ?_
  refine sk_iconst (x := 2) F dX5_init_199 (by decide) ?_
  refine sk_nax F hK hA 0 (a0 := (2, .inl (fun _ => 0))) (ty := .int) rfl (by decide +kernel) rfl (fun _ => rfl) (by decide) (by decide) (by decide) (by decide) (by decide) dX5_init_200 (fun q30 => ?_)
  refine sk_pxF (ref := "TunnelWatchModel") (ty := .array .int) (l1 := [(h0, .inr (5, [.int 0, .int 0, .int 0, .int 0, .int 0, .ref q5, .ref q6, .ref q7, .ref q8, .ref q9, .ref q10, .ref q11, .ref q12, .ref q13, .ref q14, .ref q15, .ref q16, .ref q17, .ref q18, .ref q19, .ref q20, .ref q21, .ref q22, .ref q23, .ref q24, .ref q25, .ref q26, .ref q27, .ref q28, .ref q29, .ref q30, .null, .null, .int 0, .int 0])), (q5, .inl (cI, 2, .inl (fun _ => 0))), (q6, .inl (cI, 28, .inl (fun _ => 0))), (q7, .inl (cI, 28, .inl (fun _ => 0))), (q8, .inl (cI, 28, .inl (fun _ => 0))), (q9, .inl (cI, 28, .inl (fun _ => 0))), (q10, .inl (cZ, 28, .inl (fun _ => 0))), (q11, .inl (cZ, 28, .inl (fun _ => 0))), (q12, .inl (cI, 28, .inl (fun _ => 0))), (q13, .inl (cI, 28, .inl (fun _ => 0))), (q14, .inl (cI, 28, .inl (fun _ => 0))), (q15, .inl (cI, 28, .inl (fun _ => 0))), (q16, .inl (cI, 28, .inl (fun _ => 0))), (q17, .inl (cI, 48, .inl (fun _ => 0))), (q18, .inl (cZ, 48, .inl (fun _ => 0))), (q19, .inl (cZ, 48, .inl (fun _ => 0))), (q20, .inl (cI, 48, .inl (fun _ => 0))), (q21, .inl (cI, 48, .inl (fun _ => 0))), (q22, .inl (cI, 48, .inl (fun _ => 0))), (q23, .inl (cI, 48, .inl (fun _ => 0))), (q24, .inl (cI, 48, .inl (fun _ => 0))), (q25, .inl (cI, 2, .inl (fun _ => 0))), (q26, .inl (cI, 2, .inl (fun _ => 0))), (q27, .inl (cZ, 2, .inl (fun _ => 0))), (q28, .inl (cI, 2, .inl (fun _ => 0))), (q29, .inl (cI, 2, .inl (fun _ => 0))), (q30, .inl (cI, 2, .inl (fun _ => 0)))]) F hK 0 rfl rfl iX5_init_5 tyX5 tyX5_ok nmX5 30 (by decide) (by decide +kernel) (fun _ h9 => h9) rfl hin2 rfl (by decide +kernel) rfl rfl (Nat.le_of_ble_eq_true rfl) rfl dX5_init_202 ?_
  refine sk_aload_n F dX5_init_205 rfl 0 rfl ?_
  refine sk_iconst (x := 2) F dX5_init_206 (by decide) ?_
  refine sk_nax F hK hA 0 (a0 := (2, .inl (fun _ => 0))) (ty := .int) rfl (by decide +kernel) rfl (fun _ => rfl) (by decide) (by decide) (by decide) (by decide) (by decide) dX5_init_207 (fun q31 => ?_)
  refine sk_pxF (ref := "TunnelWatchModel") (ty := .array .int) (l1 := [(h0, .inr (5, [.int 0, .int 0, .int 0, .int 0, .int 0, .ref q5, .ref q6, .ref q7, .ref q8, .ref q9, .ref q10, .ref q11, .ref q12, .ref q13, .ref q14, .ref q15, .ref q16, .ref q17, .ref q18, .ref q19, .ref q20, .ref q21, .ref q22, .ref q23, .ref q24, .ref q25, .ref q26, .ref q27, .ref q28, .ref q29, .ref q30, .ref q31, .null, .int 0, .int 0])), (q5, .inl (cI, 2, .inl (fun _ => 0))), (q6, .inl (cI, 28, .inl (fun _ => 0))), (q7, .inl (cI, 28, .inl (fun _ => 0))), (q8, .inl (cI, 28, .inl (fun _ => 0))), (q9, .inl (cI, 28, .inl (fun _ => 0))), (q10, .inl (cZ, 28, .inl (fun _ => 0))), (q11, .inl (cZ, 28, .inl (fun _ => 0))), (q12, .inl (cI, 28, .inl (fun _ => 0))), (q13, .inl (cI, 28, .inl (fun _ => 0))), (q14, .inl (cI, 28, .inl (fun _ => 0))), (q15, .inl (cI, 28, .inl (fun _ => 0))), (q16, .inl (cI, 28, .inl (fun _ => 0))), (q17, .inl (cI, 48, .inl (fun _ => 0))), (q18, .inl (cZ, 48, .inl (fun _ => 0))), (q19, .inl (cZ, 48, .inl (fun _ => 0))), (q20, .inl (cI, 48, .inl (fun _ => 0))), (q21, .inl (cI, 48, .inl (fun _ => 0))), (q22, .inl (cI, 48, .inl (fun _ => 0))), (q23, .inl (cI, 48, .inl (fun _ => 0))), (q24, .inl (cI, 48, .inl (fun _ => 0))), (q25, .inl (cI, 2, .inl (fun _ => 0))), (q26, .inl (cI, 2, .inl (fun _ => 0))), (q27, .inl (cZ, 2, .inl (fun _ => 0))), (q28, .inl (cI, 2, .inl (fun _ => 0))), (q29, .inl (cI, 2, .inl (fun _ => 0))), (q30, .inl (cI, 2, .inl (fun _ => 0))), (q31, .inl (cI, 2, .inl (fun _ => 0)))]) F hK 0 rfl rfl iX5_init_5 tyX5 tyX5_ok nmX5 31 (by decide) (by decide +kernel) (fun _ h9 => h9) rfl hin2 rfl (by decide +kernel) rfl rfl (Nat.le_of_ble_eq_true rfl) rfl dX5_init_209 ?_
  refine sk_aload_n F dX5_init_212 rfl 0 rfl ?_
  refine sk_sipush (x := 20001) F dX5_init_213 (by decide) ?_
  refine sk_nax F hK hA 0 (a0 := (20001, .inl (fun _ => 0))) (ty := .int) rfl (by decide +kernel) rfl (fun _ => rfl) (by decide) (by decide) (by decide) (by decide) (by decide) dX5_init_216 (fun q32 => ?_)
  refine sk_pxF (ref := "TunnelWatchModel") (ty := .array .int) (l1 := [(h0, .inr (5, [.int 0, .int 0, .int 0, .int 0, .int 0, .ref q5, .ref q6, .ref q7, .ref q8, .ref q9, .ref q10, .ref q11, .ref q12, .ref q13, .ref q14, .ref q15, .ref q16, .ref q17, .ref q18, .ref q19, .ref q20, .ref q21, .ref q22, .ref q23, .ref q24, .ref q25, .ref q26, .ref q27, .ref q28, .ref q29, .ref q30, .ref q31, .ref q32, .int 0, .int 0])), (q5, .inl (cI, 2, .inl (fun _ => 0))), (q6, .inl (cI, 28, .inl (fun _ => 0))), (q7, .inl (cI, 28, .inl (fun _ => 0))), (q8, .inl (cI, 28, .inl (fun _ => 0))), (q9, .inl (cI, 28, .inl (fun _ => 0))), (q10, .inl (cZ, 28, .inl (fun _ => 0))), (q11, .inl (cZ, 28, .inl (fun _ => 0))), (q12, .inl (cI, 28, .inl (fun _ => 0))), (q13, .inl (cI, 28, .inl (fun _ => 0))), (q14, .inl (cI, 28, .inl (fun _ => 0))), (q15, .inl (cI, 28, .inl (fun _ => 0))), (q16, .inl (cI, 28, .inl (fun _ => 0))), (q17, .inl (cI, 48, .inl (fun _ => 0))), (q18, .inl (cZ, 48, .inl (fun _ => 0))), (q19, .inl (cZ, 48, .inl (fun _ => 0))), (q20, .inl (cI, 48, .inl (fun _ => 0))), (q21, .inl (cI, 48, .inl (fun _ => 0))), (q22, .inl (cI, 48, .inl (fun _ => 0))), (q23, .inl (cI, 48, .inl (fun _ => 0))), (q24, .inl (cI, 48, .inl (fun _ => 0))), (q25, .inl (cI, 2, .inl (fun _ => 0))), (q26, .inl (cI, 2, .inl (fun _ => 0))), (q27, .inl (cZ, 2, .inl (fun _ => 0))), (q28, .inl (cI, 2, .inl (fun _ => 0))), (q29, .inl (cI, 2, .inl (fun _ => 0))), (q30, .inl (cI, 2, .inl (fun _ => 0))), (q31, .inl (cI, 2, .inl (fun _ => 0))), (q32, .inl (cI, 20001, .inl (fun _ => 0)))]) F hK 0 rfl rfl iX5_init_5 tyX5 tyX5_ok nmX5 32 (by decide) (by decide +kernel) (fun _ h9 => h9) rfl hin2 rfl (by decide +kernel) rfl rfl (Nat.le_of_ble_eq_true rfl) rfl dX5_init_218 ?_
  refine sk_eqw (ws' := X ++ ow Lr (fun k => if k = 0 then h0 else if k = 5 then q5 else if k = 6 then q6 else if k = 7 then q7 else if k = 8 then q8 else if k = 9 then q9 else if k = 10 then q10 else if k = 11 then q11 else if k = 12 then q12 else if k = 13 then q13 else if k = 14 then q14 else if k = 15 then q15 else if k = 16 then q16 else if k = 17 then q17 else if k = 18 then q18 else if k = 19 then q19 else if k = 20 then q20 else if k = 21 then q21 else if k = 22 then q22 else if k = 23 then q23 else if k = 24 then q24 else if k = 25 then q25 else if k = 26 then q26 else if k = 27 then q27 else if k = 28 then q28 else if k = 29 then q29 else if k = 30 then q30 else if k = 31 then q31 else if k = 32 then q32 else 0) (shR cI cZ (fun k => if k = 0 then h0 else if k = 5 then q5 else if k = 6 then q6 else if k = 7 then q7 else if k = 8 then q8 else if k = 9 then q9 else if k = 10 then q10 else if k = 11 then q11 else if k = 12 then q12 else if k = 13 then q13 else if k = 14 then q14 else if k = 15 then q15 else if k = 16 then q16 else if k = 17 then q17 else if k = 18 then q18 else if k = 19 then q19 else if k = 20 then q20 else if k = 21 then q21 else if k = 22 then q22 else if k = 23 then q23 else if k = 24 then q24 else if k = 25 then q25 else if k = 26 then q26 else if k = 27 then q27 else if k = 28 then q28 else if k = 29 then q29 else if k = 30 then q30 else if k = 31 then q31 else if k = 32 then q32 else 0)) (fun _ _ => 0)) rfl ?_
  refine sk_perm List.perm_append_comm ?_
  refine sk_sw (Q' := fun res : Mem => MQ below (va_Qv (fun z : (Nat → Nat) × Mem => z = ((fun k => if k = 0 then h0 else if k = 5 then q5 else if k = 6 then q6 else if k = 7 then q7 else if k = 8 then q8 else if k = 9 then q9 else if k = 10 then q10 else if k = 11 then q11 else if k = 12 then q12 else if k = 13 then q13 else if k = 14 then q14 else if k = 15 then q15 else if k = 16 then q16 else if k = 17 then q17 else if k = 18 then q18 else if k = 19 then q19 else if k = 20 then q20 else if k = 21 then q21 else if k = 22 then q22 else if k = 23 then q23 else if k = 24 then q24 else if k = 25 then q25 else if k = 26 then q26 else if k = 27 then q27 else if k = 28 then q28 else if k = 29 then q29 else if k = 30 then q30 else if k = 31 then q31 else if k = 32 then q32 else 0), res)) (fun z t => wo D A (ty5 cI cS cF cZ cJ) (Wr cI cZ z.1 X z.2) t) A) _ s 28 20709 A) hres (fun t ht => ?_) (kX5_init_221 (ad := (fun k => if k = 0 then h0 else if k = 5 then q5 else if k = 6 then q6 else if k = 7 then q7 else if k = 8 then q8 else if k = 9 then q9 else if k = 10 then q10 else if k = 11 then q11 else if k = 12 then q12 else if k = 13 then q13 else if k = 14 then q14 else if k = 15 then q15 else if k = 16 then q16 else if k = 17 then q17 else if k = 18 then q18 else if k = 19 then q19 else if k = 20 then q20 else if k = 21 then q21 else if k = 22 then q22 else if k = 23 then q23 else if k = 24 then q24 else if k = 25 then q25 else if k = 26 then q26 else if k = 27 then q27 else if k = 28 then q28 else if k = 29 then q29 else if k = 30 then q30 else if k = 31 then q31 else if k = 32 then q32 else 0)) G0 _)
  obtain ⟨o, h1, h2, ⟨⟨z, hz1, hz2, hz3⟩, hz4⟩, h4⟩ := ht
  subst hz2
  exact ⟨o, h1, h2, ⟨⟨_, hz1, ⟨rfl, rfl⟩, hz3⟩, hz4⟩, h4⟩
set_option maxRecDepth 100000 in
set_option maxHeartbeats 4000000 in
theorem tclamp {l : Launch} {D : va_G} {A : Nat → Prop} {tys : List (ClassId × FieldType)} {p0 p1 p2 : Int32} (v : va_W) : CI l yX4_clamp wsX4_clamp rmX4_clamp D A tys (fun w : va_W => w) [.int p0, .int p1, .int p2] v (some ((if p1 < (if p0 < p2 then p0 else p2) then (if p0 < p2 then p0 else p2) else p1), v)) :=
  CI_of (cc := cX4_clamp) (maxL := 3) (ret := (some .int)) (by decide) rfl (Nat.le_of_ble_eq_true rfl) (fun p e s m below meth c G => by
    obtain ⟨F, hK, hA, hZ, hr, hlocks⟩ := G
    refine sk_iload_n F dX4_clamp_0 rfl 1 rfl ?_
    refine sk_iload_n F dX4_clamp_1 rfl 2 rfl ?_
    refine sk_iload_n F dX4_clamp_2 rfl 0 rfl ?_
    refine sk_mmin F (by decide +kernel) (by decide +kernel) (by decide +kernel) (by decide +kernel) (by decide) (Nat.le_of_ble_eq_true rfl) (by decide) (by decide) dX4_clamp_3 ?_
    refine sk_mmax F (by decide +kernel) (by decide +kernel) (by decide +kernel) (by decide +kernel) (by decide) (Nat.le_of_ble_eq_true rfl) (by decide) (by decide) dX4_clamp_6 ?_
    exact sk_iret (Ws := fun w : va_W => w) F hK hr hlocks dX4_clamp_9)
