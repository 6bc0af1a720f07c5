def rmL_fan : Room := { frames := 9, cells := 4, slots := 24, locals := 152 }
def fL_fan (p1 : Int32) (p2 : Int32) (v : Mem) (w : Nat → Int64) : Option (Int32 × (Mem × (Nat → Int64))) := cd2 (fX4_fan p1 p2 v) (fun x2 v1 => some (0, (v1, vp_updL w 0 x2.toInt64))) (fun v1 => some (1, (v1, w))) (fun v1 => some (2, (v1, w)))
set_option maxRecDepth 100000 in
set_option maxHeartbeats 4000000 in
theorem kL_fan_0 {p : Program} {l : Launch} {e : Env} {s : State} {m : MethodId} {args : Array Value} {below : List Frame} {meth : Method} {c : Code} {D : va_G} {A : Nat → Prop} {cI cS cF cZ cJ : ClassId} {ad : Nat → Nat} {Y : va_W} {ao n : Nat} {p1 : Int32} {p2 : Int32} (G : cxw p s m args meth c cL_fan 5 wsL_fan RL D (ty5 cI cS cF cZ cJ) A (some .int) [(0, 10, 13, 13), (0, 10, 17, 15)]) (hn : n ≤ 24) (hl : l.stackTraces = false) (v : Mem) (w : Nat → Int64) : sk p l e rmL_fan s m args below meth c D A 5 0 0 (fun res => MQ below (qi D A (ty5 cI cS cF cZ cJ) (Wo cI cS cF cJ ad n Y ao) res) args s 4 24 A) (Wc cI cS cF ad n (Y ++ [(ao, oc cJ w)]) v) 0 [(0, .ref (ad 0)), (1, .int p1), (2, .int p2), (3, .ref ao)] [] (fL_fan p1 p2 v w) := by
  obtain ⟨F, hK, hA, hZ, hr, hlocks, htab⟩ := G
  refine sk_eq (K' := cd2 (fX4_fan p1 p2 v) (fun x2 v1 => some (0, (v1, vp_updL w 0 x2.toInt64))) (fun v1 => some (1, (v1, w))) (fun v1 => some (2, (v1, w)))) rfl ?_
  refine sk_aload_n F dL_fan_0 rfl 3 rfl ?_
  refine sk_iconst (x := 0) F dL_fan_1 (by decide) ?_
  refine sk_aload_n F dL_fan_2 rfl 0 rfl ?_
  refine sk_iload_n F dL_fan_3 rfl 1 rfl ?_
  refine sk_iload_n F dL_fan_4 rfl 2 rfl ?_
  refine sk_c2i (As := [.int p1, .int p2]) (rest := [.int 0, .ref ao]) F hK hA hZ htab (by decide) (by decide) (by decide +kernel) (by decide) (by decide) (by decide +kernel) _ _ _ (tX4_fan hn hl _) (cwV 2 F.2.2.2.2 gL_fan_X4_fan rfl rfl rfl (by decide +kernel) ⟨Nat.le_of_ble_eq_true rfl, Nat.le_of_ble_eq_true rfl⟩) (rc4 hK (kC_0 n)) rfl rfl (Nat.le_of_ble_eq_true rfl) (by decide) dL_fan_5 (fun x2 v1 c3 => ?_) (fun v1 q4 c3 => ?_) (fun v1 q4 c3 => ?_)
  · refine sk_i2l F dL_fan_8 ?_
    refine sk_last F hK dL_fan_9 ?_
    refine sk_goto F 21 dL_fan_10 (by decide) ?_
    refine sk_iconst (x := 0) F dL_fan_21 (by decide) ?_
    exact sk_jiret (Ws := Wo cI cS cF cJ ad n Y ao) (v := (v1, vp_updL w 0 x2.toInt64)) F hK hr hlocks (by decide) (by decide) dL_fan_22
  · refine sk_astore F dL_fan_13 (by decide) rfl ?_
    refine sk_iconst (x := 1) F dL_fan_15 (by decide) ?_
    exact sk_jiret (Ws := Wo cI cS cF cJ ad n Y ao) (v := (v1, w)) F hK hr hlocks (by decide) (by decide) dL_fan_16
  · refine sk_astore F dL_fan_17 (by decide) rfl ?_
    refine sk_iconst (x := 2) F dL_fan_19 (by decide) ?_
    exact sk_jiret (Ws := Wo cI cS cF cJ ad n Y ao) (v := (v1, w)) F hK hr hlocks (by decide) (by decide) dL_fan_20
theorem tL_fan {l : Launch} {D : va_G} {A : Nat → Prop} {cI cS cF cZ cJ : ClassId} {ad : Nat → Nat} {Y : va_W} {ao n : Nat} (hn : n ≤ 24) (hl : l.stackTraces = false) {p1 : Int32} {p2 : Int32} (v : Mem) (w : Nat → Int64) : CJ l yL_fan wsL_fan rmL_fan 4 24 D A (ty5 cI cS cF cZ cJ) (Wo cI cS cF cJ ad n Y ao) [.ref (ad 0), .int p1, .int p2, .ref ao] (Wc cI cS cF ad n (Y ++ [(ao, oc cJ w)]) v) (fL_fan p1 p2 v w) :=
  CJ_of (cc := cL_fan) (maxL := 5) (ret := (some .int)) (by decide) rfl (Nat.le_of_ble_eq_true rfl) (fun p e s m below meth c G => kL_fan_0 G hn hl v w)
def rmL_lag : Room := { frames := 10, cells := 3, slots := 18, locals := 176 }
def fL_lag (p1 : Int32) (p2 : Int32) (p3 : Int32) (v : Mem) (w : Nat → Int64) : Option (Int32 × (Mem × (Nat → Int64))) := cd1 (fX4_lag p1 p2 p3 v) (fun x2 v1 => some (0, (v1, vp_updL w 0 x2.toInt64))) (fun v1 => some (1, (v1, w)))
set_option maxRecDepth 100000 in
set_option maxHeartbeats 4000000 in
theorem kL_lag_0 {p : Program} {l : Launch} {e : Env} {s : State} {m : MethodId} {args : Array Value} {below : List Frame} {meth : Method} {c : Code} {D : va_G} {A : Nat → Prop} {cI cS cF cZ cJ : ClassId} {ad : Nat → Nat} {Y : va_W} {ao n : Nat} {p1 : Int32} {p2 : Int32} {p3 : Int32} (G : cxw p s m args meth c cL_lag 6 wsL_lag RL D (ty5 cI cS cF cZ cJ) A (some .int) [(0, 12, 15, 13)]) (hn : n ≤ 24) (hl : l.stackTraces = false) (v : Mem) (w : Nat → Int64) : sk p l e rmL_lag s m args below meth c D A 6 0 0 (fun res => MQ below (qi D A (ty5 cI cS cF cZ cJ) (Wo cI cS cF cJ ad n Y ao) res) args s 3 18 A) (Wc cI cS cF ad n (Y ++ [(ao, oc cJ w)]) v) 0 [(0, .ref (ad 0)), (1, .int p1), (2, .int p2), (3, .int p3), (4, .ref ao)] [] (fL_lag p1 p2 p3 v w) := by
  obtain ⟨F, hK, hA, hZ, hr, hlocks, htab⟩ := G
  refine sk_eq (K' := cd1 (fX4_lag p1 p2 p3 v) (fun x2 v1 => some (0, (v1, vp_updL w 0 x2.toInt64))) (fun v1 => some (1, (v1, w)))) rfl ?_
  refine sk_aload F dL_lag_0 4 rfl ?_
  refine sk_iconst (x := 0) F dL_lag_2 (by decide) ?_
  refine sk_aload_n F dL_lag_3 rfl 0 rfl ?_
  refine sk_iload_n F dL_lag_4 rfl 1 rfl ?_
  refine sk_iload_n F dL_lag_5 rfl 2 rfl ?_
  refine sk_iload_n F dL_lag_6 rfl 3 rfl ?_
  refine sk_c1i (As := [.int p1, .int p2, .int p3]) (rest := [.int 0, .ref ao]) F hK hA hZ htab (by decide) (by decide) (by decide +kernel) _ _ (tX4_lag hn hl _) (cwV 3 F.2.2.2.2 gL_lag_X4_lag rfl rfl rfl (by decide +kernel) ⟨Nat.le_of_ble_eq_true rfl, Nat.le_of_ble_eq_true rfl⟩) (rc4 hK (kC_0 n)) rfl rfl (Nat.le_of_ble_eq_true rfl) (by decide) dL_lag_7 (fun x2 v1 c3 => ?_) (fun v1 q4 c3 => ?_)
  · refine sk_i2l F dL_lag_10 ?_
    refine sk_last F hK dL_lag_11 ?_
    refine sk_goto F 19 dL_lag_12 (by decide) ?_
    refine sk_iconst (x := 0) F dL_lag_19 (by decide) ?_
    exact sk_jiret (Ws := Wo cI cS cF cJ ad n Y ao) (v := (v1, vp_updL w 0 x2.toInt64)) F hK hr hlocks (by decide) (by decide) dL_lag_20
  · refine sk_astore F dL_lag_15 (by decide) rfl ?_
    refine sk_iconst (x := 1) F dL_lag_17 (by decide) ?_
    exact sk_jiret (Ws := Wo cI cS cF cJ ad n Y ao) (v := (v1, w)) F hK hr hlocks (by decide) (by decide) dL_lag_18
theorem tL_lag {l : Launch} {D : va_G} {A : Nat → Prop} {cI cS cF cZ cJ : ClassId} {ad : Nat → Nat} {Y : va_W} {ao n : Nat} (hn : n ≤ 24) (hl : l.stackTraces = false) {p1 : Int32} {p2 : Int32} {p3 : Int32} (v : Mem) (w : Nat → Int64) : CJ l yL_lag wsL_lag rmL_lag 3 18 D A (ty5 cI cS cF cZ cJ) (Wo cI cS cF cJ ad n Y ao) [.ref (ad 0), .int p1, .int p2, .int p3, .ref ao] (Wc cI cS cF ad n (Y ++ [(ao, oc cJ w)]) v) (fL_lag p1 p2 p3 v w) :=
  CJ_of (cc := cL_lag) (maxL := 6) (ret := (some .int)) (by decide) rfl (Nat.le_of_ble_eq_true rfl) (fun p e s m below meth c G => kL_lag_0 G hn hl v w)
def rmL_plan : Room := { frames := 10, cells := 6, slots := 36, locals := 178 }
def fL_plan (n : Nat) (p1 : Int32) (p2 : Int32) (p3 : Int32) (p4 : Int32) (p5 : Int32) (p6 : Int32) (v : Mem) (w : Nat → Int64) : Option (Int32 × (Mem × (Nat → Int64))) := cd2 (fX4_plan n p1 p2 p3 p4 p5 p6 v) (fun _ v1 => some (0, (v1, w))) (fun v1 => some (1, (v1, w))) (fun v1 => some (2, (v1, w)))
set_option maxRecDepth 100000 in
set_option maxHeartbeats 4000000 in
theorem kL_plan_0 {p : Program} {l : Launch} {e : Env} {s : State} {m : MethodId} {args : Array Value} {below : List Frame} {meth : Method} {c : Code} {D : va_G} {A : Nat → Prop} {cI cS cF cZ cJ : ClassId} {ad : Nat → Nat} {Y : va_W} {ao n : Nat} {p1 : Int32} {p2 : Int32} {p3 : Int32} {p4 : Int32} {p5 : Int32} {p6 : Int32} (G : cxw p s m args meth c cL_plan 8 wsL_plan RL D (ty5 cI cS cF cZ cJ) A (some .int) [(0, 13, 16, 13), (0, 13, 20, 15)]) (hn : n ≤ 24) (hl : l.stackTraces = false) (v : Mem) (w : Nat → Int64) : sk p l e rmL_plan s m args below meth c D A 8 0 0 (fun res => MQ below (qi D A (ty5 cI cS cF cZ cJ) (Wo cI cS cF cJ ad n Y ao) res) args s 6 36 A) (Wc cI cS cF ad n (Y ++ [(ao, oc cJ w)]) v) 0 [(0, .ref (ad 0)), (1, .int p1), (2, .int p2), (3, .int p3), (4, .int p4), (5, .int p5), (6, .int p6)] [] (fL_plan n p1 p2 p3 p4 p5 p6 v w) := by
  obtain ⟨F, hK, hA, hZ, hr, hlocks, htab⟩ := G
  refine sk_eq (K' := cd2 (fX4_plan n p1 p2 p3 p4 p5 p6 v) (fun _ v1 => some (0, (v1, w))) (fun v1 => some (1, (v1, w))) (fun v1 => some (2, (v1, w)))) rfl ?_
  refine sk_aload_n F dL_plan_0 rfl 0 rfl ?_
  refine sk_iload_n F dL_plan_1 rfl 1 rfl ?_
  refine sk_iload_n F dL_plan_2 rfl 2 rfl ?_
  refine sk_iload_n F dL_plan_3 rfl 3 rfl ?_
  refine sk_iload F dL_plan_4 4 rfl ?_
  refine sk_iload F dL_plan_6 5 rfl ?_
  refine sk_iload F dL_plan_8 6 rfl ?_
  refine sk_c2v (As := [.int p1, .int p2, .int p3, .int p4, .int p5, .int p6]) (rest := []) F hK hA hZ htab (by decide) (by decide) (by decide +kernel) (by decide) (by decide) (by decide +kernel) _ _ _ (tX4_plan hn hl _) (cwV 6 F.2.2.2.2 gL_plan_X4_plan rfl rfl rfl (by decide +kernel) ⟨Nat.le_of_ble_eq_true rfl, Nat.le_of_ble_eq_true rfl⟩) (rc4 hK (kC_0 n)) rfl rfl (Nat.le_of_ble_eq_true rfl) (by decide) dL_plan_10 (fun v1 c3 => ?_) (fun v1 q4 c3 => ?_) (fun v1 q4 c3 => ?_)
  · refine sk_goto F 24 dL_plan_13 (by decide) ?_
    refine sk_iconst (x := 0) F dL_plan_24 (by decide) ?_
    exact sk_jiret (Ws := Wo cI cS cF cJ ad n Y ao) (v := (v1, w)) F hK hr hlocks (by decide) (by decide) dL_plan_25
  · refine sk_astore F dL_plan_16 (by decide) rfl ?_
    refine sk_iconst (x := 1) F dL_plan_18 (by decide) ?_
    exact sk_jiret (Ws := Wo cI cS cF cJ ad n Y ao) (v := (v1, w)) F hK hr hlocks (by decide) (by decide) dL_plan_19
  · refine sk_astore F dL_plan_20 (by decide) rfl ?_
    refine sk_iconst (x := 2) F dL_plan_22 (by decide) ?_
    exact sk_jiret (Ws := Wo cI cS cF cJ ad n Y ao) (v := (v1, w)) F hK hr hlocks (by decide) (by decide) dL_plan_23
theorem tL_plan {l : Launch} {D : va_G} {A : Nat → Prop} {cI cS cF cZ cJ : ClassId} {ad : Nat → Nat} {Y : va_W} {ao n : Nat} (hn : n ≤ 24) (hl : l.stackTraces = false) {p1 : Int32} {p2 : Int32} {p3 : Int32} {p4 : Int32} {p5 : Int32} {p6 : Int32} (v : Mem) (w : Nat → Int64) : CJ l yL_plan wsL_plan rmL_plan 6 36 D A (ty5 cI cS cF cZ cJ) (Wo cI cS cF cJ ad n Y ao) [.ref (ad 0), .int p1, .int p2, .int p3, .int p4, .int p5, .int p6] (Wc cI cS cF ad n (Y ++ [(ao, oc cJ w)]) v) (fL_plan n p1 p2 p3 p4 p5 p6 v w) :=
  CJ_of (cc := cL_plan) (maxL := 8) (ret := (some .int)) (by decide) rfl (Nat.le_of_ble_eq_true rfl) (fun p e s m below meth c G => kL_plan_0 G hn hl v w)
def rmL_turn : Room := { frames := 10, cells := 3, slots := 18, locals := 174 }
def fL_turn (n : Nat) (p1 : Int32) (p2 : Int32) (p3 : Int32) (v : Mem) (w : Nat → Int64) : Option (Int32 × (Mem × (Nat → Int64))) := cd2 (fX4_turn n p1 p2 p3 v) (fun _ v1 => some (0, (v1, w))) (fun v1 => some (1, (v1, w))) (fun v1 => some (2, (v1, w)))
set_option maxRecDepth 100000 in
set_option maxHeartbeats 4000000 in
theorem kL_turn_0 {p : Program} {l : Launch} {e : Env} {s : State} {m : MethodId} {args : Array Value} {below : List Frame} {meth : Method} {c : Code} {D : va_G} {A : Nat → Prop} {cI cS cF cZ cJ : ClassId} {ad : Nat → Nat} {Y : va_W} {ao n : Nat} {p1 : Int32} {p2 : Int32} {p3 : Int32} (G : cxw p s m args meth c cL_turn 5 wsL_turn RL D (ty5 cI cS cF cZ cJ) A (some .int) [(0, 7, 10, 13), (0, 7, 14, 15)]) (hn : n ≤ 24) (hl : l.stackTraces = false) (v : Mem) (w : Nat → Int64) : sk p l e rmL_turn s m args below meth c D A 5 0 0 (fun res => MQ below (qi D A (ty5 cI cS cF cZ cJ) (Wo cI cS cF cJ ad n Y ao) res) args s 3 18 A) (Wc cI cS cF ad n (Y ++ [(ao, oc cJ w)]) v) 0 [(0, .ref (ad 0)), (1, .int p1), (2, .int p2), (3, .int p3)] [] (fL_turn n p1 p2 p3 v w) := by
  obtain ⟨F, hK, hA, hZ, hr, hlocks, htab⟩ := G
  refine sk_eq (K' := cd2 (fX4_turn n p1 p2 p3 v) (fun _ v1 => some (0, (v1, w))) (fun v1 => some (1, (v1, w))) (fun v1 => some (2, (v1, w)))) rfl ?_
  refine sk_aload_n F dL_turn_0 rfl 0 rfl ?_
  refine sk_iload_n F dL_turn_1 rfl 1 rfl ?_
  refine sk_iload_n F dL_turn_2 rfl 2 rfl ?_
  refine sk_iload_n F dL_turn_3 rfl 3 rfl ?_
  refine sk_c2v (As := [.int p1, .int p2, .int p3]) (rest := []) F hK hA hZ htab (by decide) (by decide) (by decide +kernel) (by decide) (by decide) (by decide +kernel) _ _ _ (tX4_turn hn hl _) (cwV 3 F.2.2.2.2 gL_turn_X4_turn rfl rfl rfl (by decide +kernel) ⟨Nat.le_of_ble_eq_true rfl, Nat.le_of_ble_eq_true rfl⟩) (rc4 hK (kC_0 n)) rfl rfl (Nat.le_of_ble_eq_true rfl) (by decide) dL_turn_4 (fun v1 c3 => ?_) (fun v1 q4 c3 => ?_) (fun v1 q4 c3 => ?_)
  · refine sk_goto F 18 dL_turn_7 (by decide) ?_
    refine sk_iconst (x := 0) F dL_turn_18 (by decide) ?_
    exact sk_jiret (Ws := Wo cI cS cF cJ ad n Y ao) (v := (v1, w)) F hK hr hlocks (by decide) (by decide) dL_turn_19
  · refine sk_astore F dL_turn_10 (by decide) rfl ?_
    refine sk_iconst (x := 1) F dL_turn_12 (by decide) ?_
    exact sk_jiret (Ws := Wo cI cS cF cJ ad n Y ao) (v := (v1, w)) F hK hr hlocks (by decide) (by decide) dL_turn_13
  · refine sk_astore F dL_turn_14 (by decide) rfl ?_
    refine sk_iconst (x := 2) F dL_turn_16 (by decide) ?_
    exact sk_jiret (Ws := Wo cI cS cF cJ ad n Y ao) (v := (v1, w)) F hK hr hlocks (by decide) (by decide) dL_turn_17
theorem tL_turn {l : Launch} {D : va_G} {A : Nat → Prop} {cI cS cF cZ cJ : ClassId} {ad : Nat → Nat} {Y : va_W} {ao n : Nat} (hn : n ≤ 24) (hl : l.stackTraces = false) {p1 : Int32} {p2 : Int32} {p3 : Int32} (v : Mem) (w : Nat → Int64) : CJ l yL_turn wsL_turn rmL_turn 3 18 D A (ty5 cI cS cF cZ cJ) (Wo cI cS cF cJ ad n Y ao) [.ref (ad 0), .int p1, .int p2, .int p3] (Wc cI cS cF ad n (Y ++ [(ao, oc cJ w)]) v) (fL_turn n p1 p2 p3 v w) :=
  CJ_of (cc := cL_turn) (maxL := 5) (ret := (some .int)) (by decide) rfl (Nat.le_of_ble_eq_true rfl) (fun p e s m below meth c G => kL_turn_0 G hn hl v w)
def rmL_sense : Room := { frames := 10, cells := 3, slots := 18, locals := 176 }
def fL_sense (n : Nat) (p1 : Int32) (p2 : Int32) (p3 : Int32) (v : Mem) (w : Nat → Int64) : Option (Int32 × (Mem × (Nat → Int64))) := cd1 (fX4_sense n p1 p2 p3 v) (fun x2 v1 => some (0, (v1, vp_updL w 0 x2.toInt64))) (fun v1 => some (1, (v1, w)))
set_option maxRecDepth 100000 in
set_option maxHeartbeats 4000000 in
theorem kL_sense_0 {p : Program} {l : Launch} {e : Env} {s : State} {m : MethodId} {args : Array Value} {below : List Frame} {meth : Method} {c : Code} {D : va_G} {A : Nat → Prop} {cI cS cF cZ cJ : ClassId} {ad : Nat → Nat} {Y : va_W} {ao n : Nat} {p1 : Int32} {p2 : Int32} {p3 : Int32} (G : cxw p s m args meth c cL_sense 6 wsL_sense RL D (ty5 cI cS cF cZ cJ) A (some .int) [(0, 12, 15, 13)]) (hn : n ≤ 24) (hl : l.stackTraces = false) (v : Mem) (w : Nat → Int64) : sk p l e rmL_sense s m args below meth c D A 6 0 0 (fun res => MQ below (qi D A (ty5 cI cS cF cZ cJ) (Wo cI cS cF cJ ad n Y ao) res) args s 3 18 A) (Wc cI cS cF ad n (Y ++ [(ao, oc cJ w)]) v) 0 [(0, .ref (ad 0)), (1, .int p1), (2, .int p2), (3, .int p3), (4, .ref ao)] [] (fL_sense n p1 p2 p3 v w) := by
  obtain ⟨F, hK, hA, hZ, hr, hlocks, htab⟩ := G
  refine sk_eq (K' := cd1 (fX4_sense n p1 p2 p3 v) (fun x2 v1 => some (0, (v1, vp_updL w 0 x2.toInt64))) (fun v1 => some (1, (v1, w)))) rfl ?_
  refine sk_aload F dL_sense_0 4 rfl ?_
  refine sk_iconst (x := 0) F dL_sense_2 (by decide) ?_
  refine sk_aload_n F dL_sense_3 rfl 0 rfl ?_
  refine sk_iload_n F dL_sense_4 rfl 1 rfl ?_
  refine sk_iload_n F dL_sense_5 rfl 2 rfl ?_
  refine sk_iload_n F dL_sense_6 rfl 3 rfl ?_
  refine sk_c1i (As := [.int p1, .int p2, .int p3]) (rest := [.int 0, .ref ao]) F hK hA hZ htab (by decide) (by decide) (by decide +kernel) _ _ (tX4_sense hn hl _) (cwV 3 F.2.2.2.2 gL_sense_X4_sense rfl rfl rfl (by decide +kernel) ⟨Nat.le_of_ble_eq_true rfl, Nat.le_of_ble_eq_true rfl⟩) (rc4 hK (kC_0 n)) rfl rfl (Nat.le_of_ble_eq_true rfl) (by decide) dL_sense_7 (fun x2 v1 c3 => ?_) (fun v1 q4 c3 => ?_)
  · refine sk_i2l F dL_sense_10 ?_
    refine sk_last F hK dL_sense_11 ?_
    refine sk_goto F 19 dL_sense_12 (by decide) ?_
    refine sk_iconst (x := 0) F dL_sense_19 (by decide) ?_
    exact sk_jiret (Ws := Wo cI cS cF cJ ad n Y ao) (v := (v1, vp_updL w 0 x2.toInt64)) F hK hr hlocks (by decide) (by decide) dL_sense_20
  · refine sk_astore F dL_sense_15 (by decide) rfl ?_
    refine sk_iconst (x := 1) F dL_sense_17 (by decide) ?_
    exact sk_jiret (Ws := Wo cI cS cF cJ ad n Y ao) (v := (v1, w)) F hK hr hlocks (by decide) (by decide) dL_sense_18
theorem tL_sense {l : Launch} {D : va_G} {A : Nat → Prop} {cI cS cF cZ cJ : ClassId} {ad : Nat → Nat} {Y : va_W} {ao n : Nat} (hn : n ≤ 24) (hl : l.stackTraces = false) {p1 : Int32} {p2 : Int32} {p3 : Int32} (v : Mem) (w : Nat → Int64) : CJ l yL_sense wsL_sense rmL_sense 3 18 D A (ty5 cI cS cF cZ cJ) (Wo cI cS cF cJ ad n Y ao) [.ref (ad 0), .int p1, .int p2, .int p3, .ref ao] (Wc cI cS cF ad n (Y ++ [(ao, oc cJ w)]) v) (fL_sense n p1 p2 p3 v w) :=
  CJ_of (cc := cL_sense) (maxL := 6) (ret := (some .int)) (by decide) rfl (Nat.le_of_ble_eq_true rfl) (fun p e s m below meth c G => kL_sense_0 G hn hl v w)
def rmL_deafen : Room := { frames := 10, cells := 2, slots := 12, locals := 176 }
def fL_deafen (n : Nat) (p1 : Int32) (p2 : Int32) (p3 : Int32) (v : Mem) (w : Nat → Int64) : Option (Int32 × (Mem × (Nat → Int64))) := cd1 (fX4_deafen n p1 p2 p3 v) (fun x2 v1 => if x2 = 0 then some (0, (v1, vp_updL w 0 0)) else some (0, (v1, vp_updL w 0 1))) (fun v1 => some (1, (v1, w)))
set_option maxRecDepth 100000 in
set_option maxHeartbeats 4000000 in
theorem kL_deafen_0 {p : Program} {l : Launch} {e : Env} {s : State} {m : MethodId} {args : Array Value} {below : List Frame} {meth : Method} {c : Code} {D : va_G} {A : Nat → Prop} {cI cS cF cZ cJ : ClassId} {ad : Nat → Nat} {Y : va_W} {ao n : Nat} {p1 : Int32} {p2 : Int32} {p3 : Int32} (G : cxw p s m args meth c cL_deafen 6 wsL_deafen RL D (ty5 cI cS cF cZ cJ) A (some .int) [(0, 19, 22, 13)]) (hn : n ≤ 24) (hl : l.stackTraces = false) (v : Mem) (w : Nat → Int64) : sk p l e rmL_deafen s m args below meth c D A 6 0 0 (fun res => MQ below (qi D A (ty5 cI cS cF cZ cJ) (Wo cI cS cF cJ ad n Y ao) res) args s 2 12 A) (Wc cI cS cF ad n (Y ++ [(ao, oc cJ w)]) v) 0 [(0, .ref (ad 0)), (1, .int p1), (2, .int p2), (3, .int p3), (4, .ref ao)] [] (fL_deafen n p1 p2 p3 v w) := by
  obtain ⟨F, hK, hA, hZ, hr, hlocks, htab⟩ := G
  refine sk_eq (K' := cd1 (fX4_deafen n p1 p2 p3 v) (fun x2 v1 => if x2 = 0 then some (0, (v1, vp_updL w 0 0)) else some (0, (v1, vp_updL w 0 1))) (fun v1 => some (1, (v1, w)))) rfl ?_
  refine sk_aload F dL_deafen_0 4 rfl ?_
  refine sk_iconst (x := 0) F dL_deafen_2 (by decide) ?_
  refine sk_aload_n F dL_deafen_3 rfl 0 rfl ?_
  refine sk_iload_n F dL_deafen_4 rfl 1 rfl ?_
  refine sk_iload_n F dL_deafen_5 rfl 2 rfl ?_
  refine sk_iload_n F dL_deafen_6 rfl 3 rfl ?_
  refine sk_c1i (As := [.int p1, .int p2, .int p3]) (rest := [.int 0, .ref ao]) F hK hA hZ htab (by decide) (by decide) (by decide +kernel) _ _ (tX4_deafen hn hl _) (cwV 3 F.2.2.2.2 gL_deafen_X4_deafen rfl rfl rfl (by decide +kernel) ⟨Nat.le_of_ble_eq_true rfl, Nat.le_of_ble_eq_true rfl⟩) (rc4 hK (kC_0 n)) rfl rfl (Nat.le_of_ble_eq_true rfl) (by decide) dL_deafen_7 (fun x2 v1 c3 => ?_) (fun v1 q4 c3 => ?_)
  · refine sk_if_eq F 17 dL_deafen_10 (by decide) (fun h5 => ?_) (fun h5 => ?_)
    · refine sk_lconst (x := 0) F dL_deafen_17 (by decide) ?_
      refine sk_last F hK dL_deafen_18 ?_
      refine sk_goto F 26 dL_deafen_19 (by decide) ?_
      refine sk_iconst (x := 0) F dL_deafen_26 (by decide) ?_
      exact sk_jiret (Ws := Wo cI cS cF cJ ad n Y ao) (v := (v1, vp_updL w 0 0)) F hK hr hlocks (by decide) (by decide) dL_deafen_27
    · refine sk_lconst (x := 1) F dL_deafen_13 (by decide) ?_
      refine sk_goto F 18 dL_deafen_14 (by decide) ?_
      refine sk_last F hK dL_deafen_18 ?_
      refine sk_goto F 26 dL_deafen_19 (by decide) ?_
      refine sk_iconst (x := 0) F dL_deafen_26 (by decide) ?_
      exact sk_jiret (Ws := Wo cI cS cF cJ ad n Y ao) (v := (v1, vp_updL w 0 1)) F hK hr hlocks (by decide) (by decide) dL_deafen_27
  · refine sk_astore F dL_deafen_22 (by decide) rfl ?_
    refine sk_iconst (x := 1) F dL_deafen_24 (by decide) ?_
    exact sk_jiret (Ws := Wo cI cS cF cJ ad n Y ao) (v := (v1, w)) F hK hr hlocks (by decide) (by decide) dL_deafen_25
theorem tL_deafen {l : Launch} {D : va_G} {A : Nat → Prop} {cI cS cF cZ cJ : ClassId} {ad : Nat → Nat} {Y : va_W} {ao n : Nat} (hn : n ≤ 24) (hl : l.stackTraces = false) {p1 : Int32} {p2 : Int32} {p3 : Int32} (v : Mem) (w : Nat → Int64) : CJ l yL_deafen wsL_deafen rmL_deafen 2 12 D A (ty5 cI cS cF cZ cJ) (Wo cI cS cF cJ ad n Y ao) [.ref (ad 0), .int p1, .int p2, .int p3, .ref ao] (Wc cI cS cF ad n (Y ++ [(ao, oc cJ w)]) v) (fL_deafen n p1 p2 p3 v w) :=
  CJ_of (cc := cL_deafen) (maxL := 6) (ret := (some .int)) (by decide) rfl (Nat.le_of_ble_eq_true rfl) (fun p e s m below meth c G => kL_deafen_0 G hn hl v w)
def rmL_pull : Room := { frames := 10, cells := 2, slots := 12, locals := 175 }
def fL_pull (n : Nat) (p1 : Int32) (p2 : Int32) (v : Mem) (w : Nat → Int64) : Option (Int32 × (Mem × (Nat → Int64))) := cd1 (fX4_pull n p1 p2 v) (fun x2 v1 => if x2 = 0 then some (0, (v1, vp_updL w 0 0)) else some (0, (v1, vp_updL w 0 1))) (fun v1 => some (1, (v1, w)))
set_option maxRecDepth 100000 in
set_option maxHeartbeats 4000000 in
theorem kL_pull_0 {p : Program} {l : Launch} {e : Env} {s : State} {m : MethodId} {args : Array Value} {below : List Frame} {meth : Method} {c : Code} {D : va_G} {A : Nat → Prop} {cI cS cF cZ cJ : ClassId} {ad : Nat → Nat} {Y : va_W} {ao n : Nat} {p1 : Int32} {p2 : Int32} (G : cxw p s m args meth c cL_pull 5 wsL_pull RL D (ty5 cI cS cF cZ cJ) A (some .int) [(0, 17, 20, 13)]) (hn : n ≤ 24) (hl : l.stackTraces = false) (v : Mem) (w : Nat → Int64) : sk p l e rmL_pull s m args below meth c D A 5 0 0 (fun res => MQ below (qi D A (ty5 cI cS cF cZ cJ) (Wo cI cS cF cJ ad n Y ao) res) args s 2 12 A) (Wc cI cS cF ad n (Y ++ [(ao, oc cJ w)]) v) 0 [(0, .ref (ad 0)), (1, .int p1), (2, .int p2), (3, .ref ao)] [] (fL_pull n p1 p2 v w) := by
  obtain ⟨F, hK, hA, hZ, hr, hlocks, htab⟩ := G
  refine sk_eq (K' := cd1 (fX4_pull n p1 p2 v) (fun x2 v1 => if x2 = 0 then some (0, (v1, vp_updL w 0 0)) else some (0, (v1, vp_updL w 0 1))) (fun v1 => some (1, (v1, w)))) rfl ?_
  refine sk_aload_n F dL_pull_0 rfl 3 rfl ?_
  refine sk_iconst (x := 0) F dL_pull_1 (by decide) ?_
  refine sk_aload_n F dL_pull_2 rfl 0 rfl ?_
  refine sk_iload_n F dL_pull_3 rfl 1 rfl ?_
  refine sk_iload_n F dL_pull_4 rfl 2 rfl ?_
  refine sk_c1i (As := [.int p1, .int p2]) (rest := [.int 0, .ref ao]) F hK hA hZ htab (by decide) (by decide) (by decide +kernel) _ _ (tX4_pull hn hl _) (cwV 2 F.2.2.2.2 gL_pull_X4_pull rfl rfl rfl (by decide +kernel) ⟨Nat.le_of_ble_eq_true rfl, Nat.le_of_ble_eq_true rfl⟩) (rc4 hK (kC_0 n)) rfl rfl (Nat.le_of_ble_eq_true rfl) (by decide) dL_pull_5 (fun x2 v1 c3 => ?_) (fun v1 q4 c3 => ?_)
  · refine sk_if_eq F 15 dL_pull_8 (by decide) (fun h5 => ?_) (fun h5 => ?_)
    · refine sk_lconst (x := 0) F dL_pull_15 (by decide) ?_
      refine sk_last F hK dL_pull_16 ?_
      refine sk_goto F 24 dL_pull_17 (by decide) ?_
      refine sk_iconst (x := 0) F dL_pull_24 (by decide) ?_
      exact sk_jiret (Ws := Wo cI cS cF cJ ad n Y ao) (v := (v1, vp_updL w 0 0)) F hK hr hlocks (by decide) (by decide) dL_pull_25
    · refine sk_lconst (x := 1) F dL_pull_11 (by decide) ?_
      refine sk_goto F 16 dL_pull_12 (by decide) ?_
      refine sk_last F hK dL_pull_16 ?_
      refine sk_goto F 24 dL_pull_17 (by decide) ?_
      refine sk_iconst (x := 0) F dL_pull_24 (by decide) ?_
      exact sk_jiret (Ws := Wo cI cS cF cJ ad n Y ao) (v := (v1, vp_updL w 0 1)) F hK hr hlocks (by decide) (by decide) dL_pull_25
  · refine sk_astore F dL_pull_20 (by decide) rfl ?_
    refine sk_iconst (x := 1) F dL_pull_22 (by decide) ?_
    exact sk_jiret (Ws := Wo cI cS cF cJ ad n Y ao) (v := (v1, w)) F hK hr hlocks (by decide) (by decide) dL_pull_23
theorem tL_pull {l : Launch} {D : va_G} {A : Nat → Prop} {cI cS cF cZ cJ : ClassId} {ad : Nat → Nat} {Y : va_W} {ao n : Nat} (hn : n ≤ 24) (hl : l.stackTraces = false) {p1 : Int32} {p2 : Int32} (v : Mem) (w : Nat → Int64) : CJ l yL_pull wsL_pull rmL_pull 2 12 D A (ty5 cI cS cF cZ cJ) (Wo cI cS cF cJ ad n Y ao) [.ref (ad 0), .int p1, .int p2, .ref ao] (Wc cI cS cF ad n (Y ++ [(ao, oc cJ w)]) v) (fL_pull n p1 p2 v w) :=
  CJ_of (cc := cL_pull) (maxL := 5) (ret := (some .int)) (by decide) rfl (Nat.le_of_ble_eq_true rfl) (fun p e s m below meth c G => kL_pull_0 G hn hl v w)
def rmL_confirm : Room := { frames := 9, cells := 1, slots := 6, locals := 150 }
def fL_confirm (n : Nat) (p1 : Int32) (v : Mem) (w : Nat → Int64) : Option (Int32 × (Mem × (Nat → Int64))) := cd1 (fX4_confirm n p1 v) (fun x2 v1 => if x2 = 0 then some (0, (v1, vp_updL w 0 0)) else some (0, (v1, vp_updL w 0 1))) (fun v1 => some (1, (v1, w)))
set_option maxRecDepth 100000 in
set_option maxHeartbeats 4000000 in
theorem kL_confirm_0 {p : Program} {l : Launch} {e : Env} {s : State} {m : MethodId} {args : Array Value} {below : List Frame} {meth : Method} {c : Code} {D : va_G} {A : Nat → Prop} {cI cS cF cZ cJ : ClassId} {ad : Nat → Nat} {Y : va_W} {ao n : Nat} {p1 : Int32} (G : cxw p s m args meth c cL_confirm 4 wsL_confirm RL D (ty5 cI cS cF cZ cJ) A (some .int) [(0, 16, 19, 13)]) (hn : n ≤ 24) (hl : l.stackTraces = false) (v : Mem) (w : Nat → Int64) : sk p l e rmL_confirm s m args below meth c D A 4 0 0 (fun res => MQ below (qi D A (ty5 cI cS cF cZ cJ) (Wo cI cS cF cJ ad n Y ao) res) args s 1 6 A) (Wc cI cS cF ad n (Y ++ [(ao, oc cJ w)]) v) 0 [(0, .ref (ad 0)), (1, .int p1), (2, .ref ao)] [] (fL_confirm n p1 v w) := by
  obtain ⟨F, hK, hA, hZ, hr, hlocks, htab⟩ := G
  refine sk_eq (K' := cd1 (fX4_confirm n p1 v) (fun x2 v1 => if x2 = 0 then some (0, (v1, vp_updL w 0 0)) else some (0, (v1, vp_updL w 0 1))) (fun v1 => some (1, (v1, w)))) rfl ?_
  refine sk_aload_n F dL_confirm_0 rfl 2 rfl ?_
  refine sk_iconst (x := 0) F dL_confirm_1 (by decide) ?_
  refine sk_aload_n F dL_confirm_2 rfl 0 rfl ?_
  refine sk_iload_n F dL_confirm_3 rfl 1 rfl ?_
  refine sk_c1i (As := [.int p1]) (rest := [.int 0, .ref ao]) F hK hA hZ htab (by decide) (by decide) (by decide +kernel) _ _ (tX4_confirm hn hl _) (cwV 1 F.2.2.2.2 gL_confirm_X4_confirm rfl rfl rfl (by decide +kernel) ⟨Nat.le_of_ble_eq_true rfl, Nat.le_of_ble_eq_true rfl⟩) (rc4 hK (kC_0 n)) rfl rfl (Nat.le_of_ble_eq_true rfl) (by decide) dL_confirm_4 (fun x2 v1 c3 => ?_) (fun v1 q4 c3 => ?_)
  · refine sk_if_eq F 14 dL_confirm_7 (by decide) (fun h5 => ?_) (fun h5 => ?_)
    · refine sk_lconst (x := 0) F dL_confirm_14 (by decide) ?_
      refine sk_last F hK dL_confirm_15 ?_
      refine sk_goto F 22 dL_confirm_16 (by decide) ?_
      refine sk_iconst (x := 0) F dL_confirm_22 (by decide) ?_
      exact sk_jiret (Ws := Wo cI cS cF cJ ad n Y ao) (v := (v1, vp_updL w 0 0)) F hK hr hlocks (by decide) (by decide) dL_confirm_23
    · refine sk_lconst (x := 1) F dL_confirm_10 (by decide) ?_
      refine sk_goto F 15 dL_confirm_11 (by decide) ?_
      refine sk_last F hK dL_confirm_15 ?_
      refine sk_goto F 22 dL_confirm_16 (by decide) ?_
      refine sk_iconst (x := 0) F dL_confirm_22 (by decide) ?_
      exact sk_jiret (Ws := Wo cI cS cF cJ ad n Y ao) (v := (v1, vp_updL w 0 1)) F hK hr hlocks (by decide) (by decide) dL_confirm_23
  · refine sk_astore_n F dL_confirm_19 rfl (by decide) rfl ?_
    refine sk_iconst (x := 1) F dL_confirm_20 (by decide) ?_
    exact sk_jiret (Ws := Wo cI cS cF cJ ad n Y ao) (v := (v1, w)) F hK hr hlocks (by decide) (by decide) dL_confirm_21
theorem tL_confirm {l : Launch} {D : va_G} {A : Nat → Prop} {cI cS cF cZ cJ : ClassId} {ad : Nat → Nat} {Y : va_W} {ao n : Nat} (hn : n ≤ 24) (hl : l.stackTraces = false) {p1 : Int32} (v : Mem) (w : Nat → Int64) : CJ l yL_confirm wsL_confirm rmL_confirm 1 6 D A (ty5 cI cS cF cZ cJ) (Wo cI cS cF cJ ad n Y ao) [.ref (ad 0), .int p1, .ref ao] (Wc cI cS cF ad n (Y ++ [(ao, oc cJ w)]) v) (fL_confirm n p1 v w) :=
  CJ_of (cc := cL_confirm) (maxL := 4) (ret := (some .int)) (by decide) rfl (Nat.le_of_ble_eq_true rfl) (fun p e s m below meth c G => kL_confirm_0 G hn hl v w)
def rmL_reset : Room := { frames := 9, cells := 1, slots := 6, locals := 150 }
def fL_reset (n : Nat) (p1 : Int32) (v : Mem) (w : Nat → Int64) : Option (Int32 × (Mem × (Nat → Int64))) := cd1 (fX4_reset n p1 v) (fun x2 v1 => if x2 = 0 then some (0, (v1, vp_updL w 0 0)) else some (0, (v1, vp_updL w 0 1))) (fun v1 => some (1, (v1, w)))
set_option maxRecDepth 100000 in
set_option maxHeartbeats 4000000 in
theorem kL_reset_0 {p : Program} {l : Launch} {e : Env} {s : State} {m : MethodId} {args : Array Value} {below : List Frame} {meth : Method} {c : Code} {D : va_G} {A : Nat → Prop} {cI cS cF cZ cJ : ClassId} {ad : Nat → Nat} {Y : va_W} {ao n : Nat} {p1 : Int32} (G : cxw p s m args meth c cL_reset 4 wsL_reset RL D (ty5 cI cS cF cZ cJ) A (some .int) [(0, 16, 19, 13)]) (hn : n ≤ 24) (hl : l.stackTraces = false) (v : Mem) (w : Nat → Int64) : sk p l e rmL_reset s m args below meth c D A 4 0 0 (fun res => MQ below (qi D A (ty5 cI cS cF cZ cJ) (Wo cI cS cF cJ ad n Y ao) res) args s 1 6 A) (Wc cI cS cF ad n (Y ++ [(ao, oc cJ w)]) v) 0 [(0, .ref (ad 0)), (1, .int p1), (2, .ref ao)] [] (fL_reset n p1 v w) := by
  obtain ⟨F, hK, hA, hZ, hr, hlocks, htab⟩ := G
  refine sk_eq (K' := cd1 (fX4_reset n p1 v) (fun x2 v1 => if x2 = 0 then some (0, (v1, vp_updL w 0 0)) else some (0, (v1, vp_updL w 0 1))) (fun v1 => some (1, (v1, w)))) rfl ?_
  refine sk_aload_n F dL_reset_0 rfl 2 rfl ?_
  refine sk_iconst (x := 0) F dL_reset_1 (by decide) ?_
  refine sk_aload_n F dL_reset_2 rfl 0 rfl ?_
  refine sk_iload_n F dL_reset_3 rfl 1 rfl ?_
  refine sk_c1i (As := [.int p1]) (rest := [.int 0, .ref ao]) F hK hA hZ htab (by decide) (by decide) (by decide +kernel) _ _ (tX4_reset hn hl _) (cwV 1 F.2.2.2.2 gL_reset_X4_reset rfl rfl rfl (by decide +kernel) ⟨Nat.le_of_ble_eq_true rfl, Nat.le_of_ble_eq_true rfl⟩) (rc4 hK (kC_0 n)) rfl rfl (Nat.le_of_ble_eq_true rfl) (by decide) dL_reset_4 (fun x2 v1 c3 => ?_) (fun v1 q4 c3 => ?_)
  · refine sk_if_eq F 14 dL_reset_7 (by decide) (fun h5 => ?_) (fun h5 => ?_)
    · refine sk_lconst (x := 0) F dL_reset_14 (by decide) ?_
      refine sk_last F hK dL_reset_15 ?_
      refine sk_goto F 22 dL_reset_16 (by decide) ?_
      refine sk_iconst (x := 0) F dL_reset_22 (by decide) ?_
      exact sk_jiret (Ws := Wo cI cS cF cJ ad n Y ao) (v := (v1, vp_updL w 0 0)) F hK hr hlocks (by decide) (by decide) dL_reset_23
    · refine sk_lconst (x := 1) F dL_reset_10 (by decide) ?_
      refine sk_goto F 15 dL_reset_11 (by decide) ?_
      refine sk_last F hK dL_reset_15 ?_
      refine sk_goto F 22 dL_reset_16 (by decide) ?_
      refine sk_iconst (x := 0) F dL_reset_22 (by decide) ?_
      exact sk_jiret (Ws := Wo cI cS cF cJ ad n Y ao) (v := (v1, vp_updL w 0 1)) F hK hr hlocks (by decide) (by decide) dL_reset_23
  · refine sk_astore_n F dL_reset_19 rfl (by decide) rfl ?_
    refine sk_iconst (x := 1) F dL_reset_20 (by decide) ?_
    exact sk_jiret (Ws := Wo cI cS cF cJ ad n Y ao) (v := (v1, w)) F hK hr hlocks (by decide) (by decide) dL_reset_21
theorem tL_reset {l : Launch} {D : va_G} {A : Nat → Prop} {cI cS cF cZ cJ : ClassId} {ad : Nat → Nat} {Y : va_W} {ao n : Nat} (hn : n ≤ 24) (hl : l.stackTraces = false) {p1 : Int32} (v : Mem) (w : Nat → Int64) : CJ l yL_reset wsL_reset rmL_reset 1 6 D A (ty5 cI cS cF cZ cJ) (Wo cI cS cF cJ ad n Y ao) [.ref (ad 0), .int p1, .ref ao] (Wc cI cS cF ad n (Y ++ [(ao, oc cJ w)]) v) (fL_reset n p1 v w) :=
  CJ_of (cc := cL_reset) (maxL := 4) (ret := (some .int)) (by decide) rfl (Nat.le_of_ble_eq_true rfl) (fun p e s m below meth c G => kL_reset_0 G hn hl v w)
def rmL_wish : Room := { frames := 9, cells := 2, slots := 12, locals := 153 }
def fL_wish (p1 : Int32) (p2 : Int32) (p3 : Int32) (v : Mem) (w : Nat → Int64) : Option (Int32 × (Mem × (Nat → Int64))) := cd1 (fX4_wish p1 p2 p3 v) (fun _ v1 => some (0, (v1, w))) (fun v1 => some (1, (v1, w)))
set_option maxRecDepth 100000 in
set_option maxHeartbeats 4000000 in
theorem kL_wish_0 {p : Program} {l : Launch} {e : Env} {s : State} {m : MethodId} {args : Array Value} {below : List Frame} {meth : Method} {c : Code} {D : va_G} {A : Nat → Prop} {cI cS cF cZ cJ : ClassId} {ad : Nat → Nat} {Y : va_W} {ao n : Nat} {p1 : Int32} {p2 : Int32} {p3 : Int32} (G : cxw p s m args meth c cL_wish 5 wsL_wish RL D (ty5 cI cS cF cZ cJ) A (some .int) [(0, 7, 10, 13)]) (hn : n ≤ 24) (hl : l.stackTraces = false) (v : Mem) (w : Nat → Int64) : sk p l e rmL_wish s m args below meth c D A 5 0 0 (fun res => MQ below (qi D A (ty5 cI cS cF cZ cJ) (Wo cI cS cF cJ ad n Y ao) res) args s 2 12 A) (Wc cI cS cF ad n (Y ++ [(ao, oc cJ w)]) v) 0 [(0, .ref (ad 0)), (1, .int p1), (2, .int p2), (3, .int p3)] [] (fL_wish p1 p2 p3 v w) := by
  obtain ⟨F, hK, hA, hZ, hr, hlocks, htab⟩ := G
  refine sk_eq (K' := cd1 (fX4_wish p1 p2 p3 v) (fun _ v1 => some (0, (v1, w))) (fun v1 => some (1, (v1, w)))) rfl ?_
  refine sk_aload_n F dL_wish_0 rfl 0 rfl ?_
  refine sk_iload_n F dL_wish_1 rfl 1 rfl ?_
  refine sk_iload_n F dL_wish_2 rfl 2 rfl ?_
  refine sk_iload_n F dL_wish_3 rfl 3 rfl ?_
  refine sk_c1v (As := [.int p1, .int p2, .int p3]) (rest := []) F hK hA hZ htab (by decide) (by decide) (by decide +kernel) _ _ (tX4_wish hn hl _) (cwV 3 F.2.2.2.2 gL_wish_X4_wish rfl rfl rfl (by decide +kernel) ⟨Nat.le_of_ble_eq_true rfl, Nat.le_of_ble_eq_true rfl⟩) (rc4 hK (kC_0 n)) rfl rfl (Nat.le_of_ble_eq_true rfl) (by decide) dL_wish_4 (fun v1 c3 => ?_) (fun v1 q4 c3 => ?_)
  · refine sk_goto F 14 dL_wish_7 (by decide) ?_
    refine sk_iconst (x := 0) F dL_wish_14 (by decide) ?_
    exact sk_jiret (Ws := Wo cI cS cF cJ ad n Y ao) (v := (v1, w)) F hK hr hlocks (by decide) (by decide) dL_wish_15
  · refine sk_astore F dL_wish_10 (by decide) rfl ?_
    refine sk_iconst (x := 1) F dL_wish_12 (by decide) ?_
    exact sk_jiret (Ws := Wo cI cS cF cJ ad n Y ao) (v := (v1, w)) F hK hr hlocks (by decide) (by decide) dL_wish_13
theorem tL_wish {l : Launch} {D : va_G} {A : Nat → Prop} {cI cS cF cZ cJ : ClassId} {ad : Nat → Nat} {Y : va_W} {ao n : Nat} (hn : n ≤ 24) (hl : l.stackTraces = false) {p1 : Int32} {p2 : Int32} {p3 : Int32} (v : Mem) (w : Nat → Int64) : CJ l yL_wish wsL_wish rmL_wish 2 12 D A (ty5 cI cS cF cZ cJ) (Wo cI cS cF cJ ad n Y ao) [.ref (ad 0), .int p1, .int p2, .int p3] (Wc cI cS cF ad n (Y ++ [(ao, oc cJ w)]) v) (fL_wish p1 p2 p3 v w) :=
  CJ_of (cc := cL_wish) (maxL := 5) (ret := (some .int)) (by decide) rfl (Nat.le_of_ble_eq_true rfl) (fun p e s m below meth c G => kL_wish_0 G hn hl v w)
def rmL_order : Room := { frames := 9, cells := 1, slots := 6, locals := 153 }
def fL_order (p1 : Int32) (p2 : Int32) (v : Mem) (w : Nat → Int64) : Option (Int32 × (Mem × (Nat → Int64))) := cd1 (fX4_order p1 p2 v) (fun x2 v1 => if x2 = 0 then some (0, (v1, vp_updL w 0 0)) else some (0, (v1, vp_updL w 0 1))) (fun v1 => some (1, (v1, w)))
set_option maxRecDepth 100000 in
set_option maxHeartbeats 4000000 in
theorem kL_order_0 {p : Program} {l : Launch} {e : Env} {s : State} {m : MethodId} {args : Array Value} {below : List Frame} {meth : Method} {c : Code} {D : va_G} {A : Nat → Prop} {cI cS cF cZ cJ : ClassId} {ad : Nat → Nat} {Y : va_W} {ao n : Nat} {p1 : Int32} {p2 : Int32} (G : cxw p s m args meth c cL_order 5 wsL_order RL D (ty5 cI cS cF cZ cJ) A (some .int) [(0, 17, 20, 13)]) (hn : n ≤ 24) (hl : l.stackTraces = false) (v : Mem) (w : Nat → Int64) : sk p l e rmL_order s m args below meth c D A 5 0 0 (fun res => MQ below (qi D A (ty5 cI cS cF cZ cJ) (Wo cI cS cF cJ ad n Y ao) res) args s 1 6 A) (Wc cI cS cF ad n (Y ++ [(ao, oc cJ w)]) v) 0 [(0, .ref (ad 0)), (1, .int p1), (2, .int p2), (3, .ref ao)] [] (fL_order p1 p2 v w) := by
  obtain ⟨F, hK, hA, hZ, hr, hlocks, htab⟩ := G
  refine sk_eq (K' := cd1 (fX4_order p1 p2 v) (fun x2 v1 => if x2 = 0 then some (0, (v1, vp_updL w 0 0)) else some (0, (v1, vp_updL w 0 1))) (fun v1 => some (1, (v1, w)))) rfl ?_
  refine sk_aload_n F dL_order_0 rfl 3 rfl ?_
  refine sk_iconst (x := 0) F dL_order_1 (by decide) ?_
  refine sk_aload_n F dL_order_2 rfl 0 rfl ?_
  refine sk_iload_n F dL_order_3 rfl 1 rfl ?_
  refine sk_iload_n F dL_order_4 rfl 2 rfl ?_
  refine sk_c1i (As := [.int p1, .int p2]) (rest := [.int 0, .ref ao]) F hK hA hZ htab (by decide) (by decide) (by decide +kernel) _ _ (tX4_order hn hl _) (cwV 2 F.2.2.2.2 gL_order_X4_order rfl rfl rfl (by decide +kernel) ⟨Nat.le_of_ble_eq_true rfl, Nat.le_of_ble_eq_true rfl⟩) (rc4 hK (kC_0 n)) rfl rfl (Nat.le_of_ble_eq_true rfl) (by decide) dL_order_5 (fun x2 v1 c3 => ?_) (fun v1 q4 c3 => ?_)
  · refine sk_if_eq F 15 dL_order_8 (by decide) (fun h5 => ?_) (fun h5 => ?_)
    · refine sk_lconst (x := 0) F dL_order_15 (by decide) ?_
      refine sk_last F hK dL_order_16 ?_
      refine sk_goto F 24 dL_order_17 (by decide) ?_
      refine sk_iconst (x := 0) F dL_order_24 (by decide) ?_
      exact sk_jiret (Ws := Wo cI cS cF cJ ad n Y ao) (v := (v1, vp_updL w 0 0)) F hK hr hlocks (by decide) (by decide) dL_order_25
    · refine sk_lconst (x := 1) F dL_order_11 (by decide) ?_
      refine sk_goto F 16 dL_order_12 (by decide) ?_
      refine sk_last F hK dL_order_16 ?_
      refine sk_goto F 24 dL_order_17 (by decide) ?_
      refine sk_iconst (x := 0) F dL_order_24 (by decide) ?_
      exact sk_jiret (Ws := Wo cI cS cF cJ ad n Y ao) (v := (v1, vp_updL w 0 1)) F hK hr hlocks (by decide) (by decide) dL_order_25
  · refine sk_astore F dL_order_20 (by decide) rfl ?_
    refine sk_iconst (x := 1) F dL_order_22 (by decide) ?_
    exact sk_jiret (Ws := Wo cI cS cF cJ ad n Y ao) (v := (v1, w)) F hK hr hlocks (by decide) (by decide) dL_order_23
theorem tL_order {l : Launch} {D : va_G} {A : Nat → Prop} {cI cS cF cZ cJ : ClassId} {ad : Nat → Nat} {Y : va_W} {ao n : Nat} (hn : n ≤ 24) (hl : l.stackTraces = false) {p1 : Int32} {p2 : Int32} (v : Mem) (w : Nat → Int64) : CJ l yL_order wsL_order rmL_order 1 6 D A (ty5 cI cS cF cZ cJ) (Wo cI cS cF cJ ad n Y ao) [.ref (ad 0), .int p1, .int p2, .ref ao] (Wc cI cS cF ad n (Y ++ [(ao, oc cJ w)]) v) (fL_order p1 p2 v w) :=
  CJ_of (cc := cL_order) (maxL := 5) (ret := (some .int)) (by decide) rfl (Nat.le_of_ble_eq_true rfl) (fun p e s m below meth c G => kL_order_0 G hn hl v w)
def rmL_limit : Room := { frames := 8, cells := 1, slots := 6, locals := 131 }
def fL_limit (p1 : Int32) (v : Mem) (w : Nat → Int64) : Option (Int32 × (Mem × (Nat → Int64))) := cd1 (fX4_limit p1 v) (fun x2 v1 => some (0, (v1, vp_updL w 0 x2.toInt64))) (fun v1 => some (1, (v1, w)))
set_option maxRecDepth 100000 in
set_option maxHeartbeats 4000000 in
theorem kL_limit_0 {p : Program} {l : Launch} {e : Env} {s : State} {m : MethodId} {args : Array Value} {below : List Frame} {meth : Method} {c : Code} {D : va_G} {A : Nat → Prop} {cI cS cF cZ cJ : ClassId} {ad : Nat → Nat} {Y : va_W} {ao n : Nat} {p1 : Int32} (G : cxw p s m args meth c cL_limit 4 wsL_limit RL D (ty5 cI cS cF cZ cJ) A (some .int) [(0, 9, 12, 13)]) (hn : n ≤ 24) (hl : l.stackTraces = false) (v : Mem) (w : Nat → Int64) : sk p l e rmL_limit s m args below meth c D A 4 0 0 (fun res => MQ below (qi D A (ty5 cI cS cF cZ cJ) (Wo cI cS cF cJ ad n Y ao) res) args s 1 6 A) (Wc cI cS cF ad n (Y ++ [(ao, oc cJ w)]) v) 0 [(0, .ref (ad 0)), (1, .int p1), (2, .ref ao)] [] (fL_limit p1 v w) := by
  obtain ⟨F, hK, hA, hZ, hr, hlocks, htab⟩ := G
  refine sk_eq (K' := cd1 (fX4_limit p1 v) (fun x2 v1 => some (0, (v1, vp_updL w 0 x2.toInt64))) (fun v1 => some (1, (v1, w)))) rfl ?_
  refine sk_aload_n F dL_limit_0 rfl 2 rfl ?_
  refine sk_iconst (x := 0) F dL_limit_1 (by decide) ?_
  refine sk_aload_n F dL_limit_2 rfl 0 rfl ?_
  refine sk_iload_n F dL_limit_3 rfl 1 rfl ?_
  refine sk_c1i (As := [.int p1]) (rest := [.int 0, .ref ao]) F hK hA hZ htab (by decide) (by decide) (by decide +kernel) _ _ (tX4_limit hn hl _) (cwV 1 F.2.2.2.2 gL_limit_X4_limit rfl rfl rfl (by decide +kernel) ⟨Nat.le_of_ble_eq_true rfl, Nat.le_of_ble_eq_true rfl⟩) (rc4 hK (kC_0 n)) rfl rfl (Nat.le_of_ble_eq_true rfl) (by decide) dL_limit_4 (fun x2 v1 c3 => ?_) (fun v1 q4 c3 => ?_)
  · refine sk_i2l F dL_limit_7 ?_
    refine sk_last F hK dL_limit_8 ?_
    refine sk_goto F 15 dL_limit_9 (by decide) ?_
    refine sk_iconst (x := 0) F dL_limit_15 (by decide) ?_
    exact sk_jiret (Ws := Wo cI cS cF cJ ad n Y ao) (v := (v1, vp_updL w 0 x2.toInt64)) F hK hr hlocks (by decide) (by decide) dL_limit_16
  · refine sk_astore_n F dL_limit_12 rfl (by decide) rfl ?_
    refine sk_iconst (x := 1) F dL_limit_13 (by decide) ?_
    exact sk_jiret (Ws := Wo cI cS cF cJ ad n Y ao) (v := (v1, w)) F hK hr hlocks (by decide) (by decide) dL_limit_14
theorem tL_limit {l : Launch} {D : va_G} {A : Nat → Prop} {cI cS cF cZ cJ : ClassId} {ad : Nat → Nat} {Y : va_W} {ao n : Nat} (hn : n ≤ 24) (hl : l.stackTraces = false) {p1 : Int32} (v : Mem) (w : Nat → Int64) : CJ l yL_limit wsL_limit rmL_limit 1 6 D A (ty5 cI cS cF cZ cJ) (Wo cI cS cF cJ ad n Y ao) [.ref (ad 0), .int p1, .ref ao] (Wc cI cS cF ad n (Y ++ [(ao, oc cJ w)]) v) (fL_limit p1 v w) :=
  CJ_of (cc := cL_limit) (maxL := 4) (ret := (some .int)) (by decide) rfl (Nat.le_of_ble_eq_true rfl) (fun p e s m below meth c G => kL_limit_0 G hn hl v w)
def rmL_fail : Room := { frames := 10, cells := 2, slots := 12, locals := 175 }
def fL_fail (p1 : Int32) (p2 : Int32) (v : Mem) (w : Nat → Int64) : Option (Int32 × (Mem × (Nat → Int64))) := cd1 (fX4_fail p1 p2 v) (fun x2 v1 => if x2 = 0 then some (0, (v1, vp_updL w 0 0)) else some (0, (v1, vp_updL w 0 1))) (fun v1 => some (1, (v1, w)))
set_option maxRecDepth 100000 in
set_option maxHeartbeats 4000000 in
theorem kL_fail_0 {p : Program} {l : Launch} {e : Env} {s : State} {m : MethodId} {args : Array Value} {below : List Frame} {meth : Method} {c : Code} {D : va_G} {A : Nat → Prop} {cI cS cF cZ cJ : ClassId} {ad : Nat → Nat} {Y : va_W} {ao n : Nat} {p1 : Int32} {p2 : Int32} (G : cxw p s m args meth c cL_fail 5 wsL_fail RL D (ty5 cI cS cF cZ cJ) A (some .int) [(0, 17, 20, 13)]) (hn : n ≤ 24) (hl : l.stackTraces = false) (v : Mem) (w : Nat → Int64) : sk p l e rmL_fail s m args below meth c D A 5 0 0 (fun res => MQ below (qi D A (ty5 cI cS cF cZ cJ) (Wo cI cS cF cJ ad n Y ao) res) args s 2 12 A) (Wc cI cS cF ad n (Y ++ [(ao, oc cJ w)]) v) 0 [(0, .ref (ad 0)), (1, .int p1), (2, .int p2), (3, .ref ao)] [] (fL_fail p1 p2 v w) := by
  obtain ⟨F, hK, hA, hZ, hr, hlocks, htab⟩ := G
  refine sk_eq (K' := cd1 (fX4_fail p1 p2 v) (fun x2 v1 => if x2 = 0 then some (0, (v1, vp_updL w 0 0)) else some (0, (v1, vp_updL w 0 1))) (fun v1 => some (1, (v1, w)))) rfl ?_
  refine sk_aload_n F dL_fail_0 rfl 3 rfl ?_
  refine sk_iconst (x := 0) F dL_fail_1 (by decide) ?_
  refine sk_aload_n F dL_fail_2 rfl 0 rfl ?_
  refine sk_iload_n F dL_fail_3 rfl 1 rfl ?_
  refine sk_iload_n F dL_fail_4 rfl 2 rfl ?_
  refine sk_c1i (As := [.int p1, .int p2]) (rest := [.int 0, .ref ao]) F hK hA hZ htab (by decide) (by decide) (by decide +kernel) _ _ (tX4_fail hn hl _) (cwV 2 F.2.2.2.2 gL_fail_X4_fail rfl rfl rfl (by decide +kernel) ⟨Nat.le_of_ble_eq_true rfl, Nat.le_of_ble_eq_true rfl⟩) (rc4 hK (kC_0 n)) rfl rfl (Nat.le_of_ble_eq_true rfl) (by decide) dL_fail_5 (fun x2 v1 c3 => ?_) (fun v1 q4 c3 => ?_)
  · refine sk_if_eq F 15 dL_fail_8 (by decide) (fun h5 => ?_) (fun h5 => ?_)
    · refine sk_lconst (x := 0) F dL_fail_15 (by decide) ?_
      refine sk_last F hK dL_fail_16 ?_
      refine sk_goto F 24 dL_fail_17 (by decide) ?_
      refine sk_iconst (x := 0) F dL_fail_24 (by decide) ?_
      exact sk_jiret (Ws := Wo cI cS cF cJ ad n Y ao) (v := (v1, vp_updL w 0 0)) F hK hr hlocks (by decide) (by decide) dL_fail_25
    · refine sk_lconst (x := 1) F dL_fail_11 (by decide) ?_
      refine sk_goto F 16 dL_fail_12 (by decide) ?_
      refine sk_last F hK dL_fail_16 ?_
      refine sk_goto F 24 dL_fail_17 (by decide) ?_
      refine sk_iconst (x := 0) F dL_fail_24 (by decide) ?_
      exact sk_jiret (Ws := Wo cI cS cF cJ ad n Y ao) (v := (v1, vp_updL w 0 1)) F hK hr hlocks (by decide) (by decide) dL_fail_25
  · refine sk_astore F dL_fail_20 (by decide) rfl ?_
    refine sk_iconst (x := 1) F dL_fail_22 (by decide) ?_
    exact sk_jiret (Ws := Wo cI cS cF cJ ad n Y ao) (v := (v1, w)) F hK hr hlocks (by decide) (by decide) dL_fail_23
theorem tL_fail {l : Launch} {D : va_G} {A : Nat → Prop} {cI cS cF cZ cJ : ClassId} {ad : Nat → Nat} {Y : va_W} {ao n : Nat} (hn : n ≤ 24) (hl : l.stackTraces = false) {p1 : Int32} {p2 : Int32} (v : Mem) (w : Nat → Int64) : CJ l yL_fail wsL_fail rmL_fail 2 12 D A (ty5 cI cS cF cZ cJ) (Wo cI cS cF cJ ad n Y ao) [.ref (ad 0), .int p1, .int p2, .ref ao] (Wc cI cS cF ad n (Y ++ [(ao, oc cJ w)]) v) (fL_fail p1 p2 v w) :=
  CJ_of (cc := cL_fail) (maxL := 5) (ret := (some .int)) (by decide) rfl (Nat.le_of_ble_eq_true rfl) (fun p e s m below meth c G => kL_fail_0 G hn hl v w)
def rmL_mend : Room := { frames := 10, cells := 2, slots := 12, locals := 173 }
def fL_mend (p1 : Int32) (p2 : Int32) (v : Mem) (w : Nat → Int64) : Option (Int32 × (Mem × (Nat → Int64))) := cd1 (fX4_mend p1 p2 v) (fun x2 v1 => if x2 = 0 then some (0, (v1, vp_updL w 0 0)) else some (0, (v1, vp_updL w 0 1))) (fun v1 => some (1, (v1, w)))
set_option maxRecDepth 100000 in
set_option maxHeartbeats 4000000 in
theorem kL_mend_0 {p : Program} {l : Launch} {e : Env} {s : State} {m : MethodId} {args : Array Value} {below : List Frame} {meth : Method} {c : Code} {D : va_G} {A : Nat → Prop} {cI cS cF cZ cJ : ClassId} {ad : Nat → Nat} {Y : va_W} {ao n : Nat} {p1 : Int32} {p2 : Int32} (G : cxw p s m args meth c cL_mend 5 wsL_mend RL D (ty5 cI cS cF cZ cJ) A (some .int) [(0, 17, 20, 13)]) (hn : n ≤ 24) (hl : l.stackTraces = false) (v : Mem) (w : Nat → Int64) : sk p l e rmL_mend s m args below meth c D A 5 0 0 (fun res => MQ below (qi D A (ty5 cI cS cF cZ cJ) (Wo cI cS cF cJ ad n Y ao) res) args s 2 12 A) (Wc cI cS cF ad n (Y ++ [(ao, oc cJ w)]) v) 0 [(0, .ref (ad 0)), (1, .int p1), (2, .int p2), (3, .ref ao)] [] (fL_mend p1 p2 v w) := by
  obtain ⟨F, hK, hA, hZ, hr, hlocks, htab⟩ := G
  refine sk_eq (K' := cd1 (fX4_mend p1 p2 v) (fun x2 v1 => if x2 = 0 then some (0, (v1, vp_updL w 0 0)) else some (0, (v1, vp_updL w 0 1))) (fun v1 => some (1, (v1, w)))) rfl ?_
  refine sk_aload_n F dL_mend_0 rfl 3 rfl ?_
  refine sk_iconst (x := 0) F dL_mend_1 (by decide) ?_
  refine sk_aload_n F dL_mend_2 rfl 0 rfl ?_
  refine sk_iload_n F dL_mend_3 rfl 1 rfl ?_
  refine sk_iload_n F dL_mend_4 rfl 2 rfl ?_
  refine sk_c1i (As := [.int p1, .int p2]) (rest := [.int 0, .ref ao]) F hK hA hZ htab (by decide) (by decide) (by decide +kernel) _ _ (tX4_mend hn hl _) (cwV 2 F.2.2.2.2 gL_mend_X4_mend rfl rfl rfl (by decide +kernel) ⟨Nat.le_of_ble_eq_true rfl, Nat.le_of_ble_eq_true rfl⟩) (rc4 hK (kC_0 n)) rfl rfl (Nat.le_of_ble_eq_true rfl) (by decide) dL_mend_5 (fun x2 v1 c3 => ?_) (fun v1 q4 c3 => ?_)
  · refine sk_if_eq F 15 dL_mend_8 (by decide) (fun h5 => ?_) (fun h5 => ?_)
    · refine sk_lconst (x := 0) F dL_mend_15 (by decide) ?_
      refine sk_last F hK dL_mend_16 ?_
      refine sk_goto F 24 dL_mend_17 (by decide) ?_
      refine sk_iconst (x := 0) F dL_mend_24 (by decide) ?_
      exact sk_jiret (Ws := Wo cI cS cF cJ ad n Y ao) (v := (v1, vp_updL w 0 0)) F hK hr hlocks (by decide) (by decide) dL_mend_25
    · refine sk_lconst (x := 1) F dL_mend_11 (by decide) ?_
      refine sk_goto F 16 dL_mend_12 (by decide) ?_
      refine sk_last F hK dL_mend_16 ?_
      refine sk_goto F 24 dL_mend_17 (by decide) ?_
      refine sk_iconst (x := 0) F dL_mend_24 (by decide) ?_
      exact sk_jiret (Ws := Wo cI cS cF cJ ad n Y ao) (v := (v1, vp_updL w 0 1)) F hK hr hlocks (by decide) (by decide) dL_mend_25
  · refine sk_astore F dL_mend_20 (by decide) rfl ?_
    refine sk_iconst (x := 1) F dL_mend_22 (by decide) ?_
    exact sk_jiret (Ws := Wo cI cS cF cJ ad n Y ao) (v := (v1, w)) F hK hr hlocks (by decide) (by decide) dL_mend_23
theorem tL_mend {l : Launch} {D : va_G} {A : Nat → Prop} {cI cS cF cZ cJ : ClassId} {ad : Nat → Nat} {Y : va_W} {ao n : Nat} (hn : n ≤ 24) (hl : l.stackTraces = false) {p1 : Int32} {p2 : Int32} (v : Mem) (w : Nat → Int64) : CJ l yL_mend wsL_mend rmL_mend 2 12 D A (ty5 cI cS cF cZ cJ) (Wo cI cS cF cJ ad n Y ao) [.ref (ad 0), .int p1, .int p2, .ref ao] (Wc cI cS cF ad n (Y ++ [(ao, oc cJ w)]) v) (fL_mend p1 p2 v w) :=
  CJ_of (cc := cL_mend) (maxL := 5) (ret := (some .int)) (by decide) rfl (Nat.le_of_ble_eq_true rfl) (fun p e s m below meth c G => kL_mend_0 G hn hl v w)
def rmL_ticks : Room := { frames := 8, cells := 2, slots := 12, locals := 164 }
def fL_ticks (n : Nat) (p1 : Int32) (v : Mem) (w : Nat → Int64) : Option (Int32 × (Mem × (Nat → Int64))) := cd2 (fX4_ticks n p1 v) (fun x2 v1 => some (0, (v1, vp_updL w 0 x2.toInt64))) (fun v1 => some (1, (v1, w))) (fun v1 => some (2, (v1, w)))
set_option maxRecDepth 100000 in
set_option maxHeartbeats 4000000 in
theorem kL_ticks_0 {p : Program} {l : Launch} {e : Env} {s : State} {m : MethodId} {args : Array Value} {below : List Frame} {meth : Method} {c : Code} {D : va_G} {A : Nat → Prop} {cI cS cF cZ cJ : ClassId} {ad : Nat → Nat} {Y : va_W} {ao n : Nat} {p1 : Int32} (G : cxw p s m args meth c cL_ticks 4 wsL_ticks RL D (ty5 cI cS cF cZ cJ) A (some .int) [(0, 9, 12, 13), (0, 9, 15, 15)]) (hn : n ≤ 24) (hl : l.stackTraces = false) (v : Mem) (w : Nat → Int64) : sk p l e rmL_ticks s m args below meth c D A 4 0 0 (fun res => MQ below (qi D A (ty5 cI cS cF cZ cJ) (Wo cI cS cF cJ ad n Y ao) res) args s 2 12 A) (Wc cI cS cF ad n (Y ++ [(ao, oc cJ w)]) v) 0 [(0, .ref (ad 0)), (1, .int p1), (2, .ref ao)] [] (fL_ticks n p1 v w) := by
  obtain ⟨F, hK, hA, hZ, hr, hlocks, htab⟩ := G
  refine sk_eq (K' := cd2 (fX4_ticks n p1 v) (fun x2 v1 => some (0, (v1, vp_updL w 0 x2.toInt64))) (fun v1 => some (1, (v1, w))) (fun v1 => some (2, (v1, w)))) rfl ?_
  refine sk_aload_n F dL_ticks_0 rfl 2 rfl ?_
  refine sk_iconst (x := 0) F dL_ticks_1 (by decide) ?_
  refine sk_aload_n F dL_ticks_2 rfl 0 rfl ?_
  refine sk_iload_n F dL_ticks_3 rfl 1 rfl ?_
  refine sk_c2i (As := [.int p1]) (rest := [.int 0, .ref ao]) F hK hA hZ htab (by decide) (by decide) (by decide +kernel) (by decide) (by decide) (by decide +kernel) _ _ _ (tX4_ticks hn hl _) (cwV 1 F.2.2.2.2 gL_ticks_X4_ticks rfl rfl rfl (by decide +kernel) ⟨Nat.le_of_ble_eq_true rfl, Nat.le_of_ble_eq_true rfl⟩) (rc4 hK (kC_0 n)) rfl rfl (Nat.le_of_ble_eq_true rfl) (by decide) dL_ticks_4 (fun x2 v1 c3 => ?_) (fun v1 q4 c3 => ?_) (fun v1 q4 c3 => ?_)
  · refine sk_i2l F dL_ticks_7 ?_
    refine sk_last F hK dL_ticks_8 ?_
    refine sk_goto F 18 dL_ticks_9 (by decide) ?_
    refine sk_iconst (x := 0) F dL_ticks_18 (by decide) ?_
    exact sk_jiret (Ws := Wo cI cS cF cJ ad n Y ao) (v := (v1, vp_updL w 0 x2.toInt64)) F hK hr hlocks (by decide) (by decide) dL_ticks_19
  · refine sk_astore_n F dL_ticks_12 rfl (by decide) rfl ?_
    refine sk_iconst (x := 1) F dL_ticks_13 (by decide) ?_
    exact sk_jiret (Ws := Wo cI cS cF cJ ad n Y ao) (v := (v1, w)) F hK hr hlocks (by decide) (by decide) dL_ticks_14
  · refine sk_astore_n F dL_ticks_15 rfl (by decide) rfl ?_
    refine sk_iconst (x := 2) F dL_ticks_16 (by decide) ?_
    exact sk_jiret (Ws := Wo cI cS cF cJ ad n Y ao) (v := (v1, w)) F hK hr hlocks (by decide) (by decide) dL_ticks_17
theorem tL_ticks {l : Launch} {D : va_G} {A : Nat → Prop} {cI cS cF cZ cJ : ClassId} {ad : Nat → Nat} {Y : va_W} {ao n : Nat} (hn : n ≤ 24) (hl : l.stackTraces = false) {p1 : Int32} (v : Mem) (w : Nat → Int64) : CJ l yL_ticks wsL_ticks rmL_ticks 2 12 D A (ty5 cI cS cF cZ cJ) (Wo cI cS cF cJ ad n Y ao) [.ref (ad 0), .int p1, .ref ao] (Wc cI cS cF ad n (Y ++ [(ao, oc cJ w)]) v) (fL_ticks n p1 v w) :=
  CJ_of (cc := cL_ticks) (maxL := 4) (ret := (some .int)) (by decide) rfl (Nat.le_of_ble_eq_true rfl) (fun p e s m below meth c G => kL_ticks_0 G hn hl v w)
def rmL_tube : Room := { frames := 9, cells := 2, slots := 12, locals := 152 }
def fL_tube (p1 : Int32) (p2 : Int32) (v : Mem) (w : Nat → Int64) : Option (Int32 × (Mem × (Nat → Int64))) := cd1 (fX4_tube p1 p2 v) (fun x2 v1 => some (0, (v1, vp_updL w 0 x2.toInt64))) (fun v1 => some (1, (v1, w)))
set_option maxRecDepth 100000 in
set_option maxHeartbeats 4000000 in
theorem kL_tube_0 {p : Program} {l : Launch} {e : Env} {s : State} {m : MethodId} {args : Array Value} {below : List Frame} {meth : Method} {c : Code} {D : va_G} {A : Nat → Prop} {cI cS cF cZ cJ : ClassId} {ad : Nat → Nat} {Y : va_W} {ao n : Nat} {p1 : Int32} {p2 : Int32} (G : cxw p s m args meth c cL_tube 5 wsL_tube RL D (ty5 cI cS cF cZ cJ) A (some .int) [(0, 10, 13, 13)]) (hn : n ≤ 24) (hl : l.stackTraces = false) (v : Mem) (w : Nat → Int64) : sk p l e rmL_tube s m args below meth c D A 5 0 0 (fun res => MQ below (qi D A (ty5 cI cS cF cZ cJ) (Wo cI cS cF cJ ad n Y ao) res) args s 2 12 A) (Wc cI cS cF ad n (Y ++ [(ao, oc cJ w)]) v) 0 [(0, .ref (ad 0)), (1, .int p1), (2, .int p2), (3, .ref ao)] [] (fL_tube p1 p2 v w) := by
  obtain ⟨F, hK, hA, hZ, hr, hlocks, htab⟩ := G
  refine sk_eq (K' := cd1 (fX4_tube p1 p2 v) (fun x2 v1 => some (0, (v1, vp_updL w 0 x2.toInt64))) (fun v1 => some (1, (v1, w)))) rfl ?_
  refine sk_aload_n F dL_tube_0 rfl 3 rfl ?_
  refine sk_iconst (x := 0) F dL_tube_1 (by decide) ?_
  refine sk_aload_n F dL_tube_2 rfl 0 rfl ?_
  refine sk_iload_n F dL_tube_3 rfl 1 rfl ?_
  refine sk_iload_n F dL_tube_4 rfl 2 rfl ?_
  refine sk_c1i (As := [.int p1, .int p2]) (rest := [.int 0, .ref ao]) F hK hA hZ htab (by decide) (by decide) (by decide +kernel) _ _ (tX4_tube hn hl _) (cwV 2 F.2.2.2.2 gL_tube_X4_tube rfl rfl rfl (by decide +kernel) ⟨Nat.le_of_ble_eq_true rfl, Nat.le_of_ble_eq_true rfl⟩) (rc4 hK (kC_0 n)) rfl rfl (Nat.le_of_ble_eq_true rfl) (by decide) dL_tube_5 (fun x2 v1 c3 => ?_) (fun v1 q4 c3 => ?_)
  · refine sk_i2l F dL_tube_8 ?_
    refine sk_last F hK dL_tube_9 ?_
    refine sk_goto F 17 dL_tube_10 (by decide) ?_
    refine sk_iconst (x := 0) F dL_tube_17 (by decide) ?_
    exact sk_jiret (Ws := Wo cI cS cF cJ ad n Y ao) (v := (v1, vp_updL w 0 x2.toInt64)) F hK hr hlocks (by decide) (by decide) dL_tube_18
  · refine sk_astore F dL_tube_13 (by decide) rfl ?_
    refine sk_iconst (x := 1) F dL_tube_15 (by decide) ?_
    exact sk_jiret (Ws := Wo cI cS cF cJ ad n Y ao) (v := (v1, w)) F hK hr hlocks (by decide) (by decide) dL_tube_16
theorem tL_tube {l : Launch} {D : va_G} {A : Nat → Prop} {cI cS cF cZ cJ : ClassId} {ad : Nat → Nat} {Y : va_W} {ao n : Nat} (hn : n ≤ 24) (hl : l.stackTraces = false) {p1 : Int32} {p2 : Int32} (v : Mem) (w : Nat → Int64) : CJ l yL_tube wsL_tube rmL_tube 2 12 D A (ty5 cI cS cF cZ cJ) (Wo cI cS cF cJ ad n Y ao) [.ref (ad 0), .int p1, .int p2, .ref ao] (Wc cI cS cF ad n (Y ++ [(ao, oc cJ w)]) v) (fL_tube p1 p2 v w) :=
  CJ_of (cc := cL_tube) (maxL := 5) (ret := (some .int)) (by decide) rfl (Nat.le_of_ble_eq_true rfl) (fun p e s m below meth c G => kL_tube_0 G hn hl v w)
def rmL_device : Room := { frames := 10, cells := 3, slots := 18, locals := 175 }
def fL_device (p1 : Int32) (p2 : Int32) (p3 : Int32) (v : Mem) (w : Nat → Int64) : Option (Int32 × (Mem × (Nat → Int64))) := cd1 (fX4_device p1 p2 p3 v) (fun x2 v1 => some (0, (v1, vp_updL w 0 x2.toInt64))) (fun v1 => some (1, (v1, w)))
set_option maxRecDepth 100000 in
set_option maxHeartbeats 4000000 in
theorem kL_device_0 {p : Program} {l : Launch} {e : Env} {s : State} {m : MethodId} {args : Array Value} {below : List Frame} {meth : Method} {c : Code} {D : va_G} {A : Nat → Prop} {cI cS cF cZ cJ : ClassId} {ad : Nat → Nat} {Y : va_W} {ao n : Nat} {p1 : Int32} {p2 : Int32} {p3 : Int32} (G : cxw p s m args meth c cL_device 6 wsL_device RL D (ty5 cI cS cF cZ cJ) A (some .int) [(0, 12, 15, 13)]) (hn : n ≤ 24) (hl : l.stackTraces = false) (v : Mem) (w : Nat → Int64) : sk p l e rmL_device s m args below meth c D A 6 0 0 (fun res => MQ below (qi D A (ty5 cI cS cF cZ cJ) (Wo cI cS cF cJ ad n Y ao) res) args s 3 18 A) (Wc cI cS cF ad n (Y ++ [(ao, oc cJ w)]) v) 0 [(0, .ref (ad 0)), (1, .int p1), (2, .int p2), (3, .int p3), (4, .ref ao)] [] (fL_device p1 p2 p3 v w) := by
  obtain ⟨F, hK, hA, hZ, hr, hlocks, htab⟩ := G
  refine sk_eq (K' := cd1 (fX4_device p1 p2 p3 v) (fun x2 v1 => some (0, (v1, vp_updL w 0 x2.toInt64))) (fun v1 => some (1, (v1, w)))) rfl ?_
  refine sk_aload F dL_device_0 4 rfl ?_
  refine sk_iconst (x := 0) F dL_device_2 (by decide) ?_
  refine sk_aload_n F dL_device_3 rfl 0 rfl ?_
  refine sk_iload_n F dL_device_4 rfl 1 rfl ?_
  refine sk_iload_n F dL_device_5 rfl 2 rfl ?_
  refine sk_iload_n F dL_device_6 rfl 3 rfl ?_
  refine sk_c1i (As := [.int p1, .int p2, .int p3]) (rest := [.int 0, .ref ao]) F hK hA hZ htab (by decide) (by decide) (by decide +kernel) _ _ (tX4_device hn hl _) (cwV 3 F.2.2.2.2 gL_device_X4_device rfl rfl rfl (by decide +kernel) ⟨Nat.le_of_ble_eq_true rfl, Nat.le_of_ble_eq_true rfl⟩) (rc4 hK (kC_0 n)) rfl rfl (Nat.le_of_ble_eq_true rfl) (by decide) dL_device_7 (fun x2 v1 c3 => ?_) (fun v1 q4 c3 => ?_)
  · refine sk_i2l F dL_device_10 ?_
    refine sk_last F hK dL_device_11 ?_
    refine sk_goto F 19 dL_device_12 (by decide) ?_
    refine sk_iconst (x := 0) F dL_device_19 (by decide) ?_
    exact sk_jiret (Ws := Wo cI cS cF cJ ad n Y ao) (v := (v1, vp_updL w 0 x2.toInt64)) F hK hr hlocks (by decide) (by decide) dL_device_20
  · refine sk_astore F dL_device_15 (by decide) rfl ?_
    refine sk_iconst (x := 1) F dL_device_17 (by decide) ?_
    exact sk_jiret (Ws := Wo cI cS cF cJ ad n Y ao) (v := (v1, w)) F hK hr hlocks (by decide) (by decide) dL_device_18
theorem tL_device {l : Launch} {D : va_G} {A : Nat → Prop} {cI cS cF cZ cJ : ClassId} {ad : Nat → Nat} {Y : va_W} {ao n : Nat} (hn : n ≤ 24) (hl : l.stackTraces = false) {p1 : Int32} {p2 : Int32} {p3 : Int32} (v : Mem) (w : Nat → Int64) : CJ l yL_device wsL_device rmL_device 3 18 D A (ty5 cI cS cF cZ cJ) (Wo cI cS cF cJ ad n Y ao) [.ref (ad 0), .int p1, .int p2, .int p3, .ref ao] (Wc cI cS cF ad n (Y ++ [(ao, oc cJ w)]) v) (fL_device p1 p2 p3 v w) :=
  CJ_of (cc := cL_device) (maxL := 6) (ret := (some .int)) (by decide) rfl (Nat.le_of_ble_eq_true rfl) (fun p e s m below meth c G => kL_device_0 G hn hl v w)
