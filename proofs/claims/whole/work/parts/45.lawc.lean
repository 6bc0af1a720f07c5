def fLaw_14 (kb : Mem → Mem → (Nat → Int64) → Option Int32) (n L : Nat) (xs : Nat → Int32) (v u : Mem) (w : Nat → Int64) (i : Int32) : Option Int32 := gd (inb (i + 1) L) (bd (fL_ticks n (xs (i + 1).toNatClampNeg) v w) fun x2 q3 => gd (inb (i + 1) L) (bd (fX5_ticks (xs (i + 1).toNatClampNeg) u) fun x6 v7 => bd (fX5_thrown v7) fun x9 v10 => if x9 = x2 then if x2 = 0 then if (lg_cmp (q3.2 0) x6.toInt64) = 0 then kb q3.1 v10 q3.2 else some 0 else kb q3.1 v10 q3.2 else some 0))
set_option maxRecDepth 100000 in
set_option maxHeartbeats 4000000 in
theorem kLaw_14 {p : Program} {l : Launch} {e : Env} {s : State} {m : MethodId} {below : List Frame} {meth : Method} {c : Code} {D : va_G} {cI cS cF cZ cJ : ClassId} {ad ar : Nat → Nat} {ao n b L : Nat} {xs : Nat → Int32} {kb : Mem → Mem → (Nat → Int64) → Option Int32} {c0 z0 : Nat} (F : CallFix p m c cL_law 7 s #[Value.ref b] wsL_law RL) (hK : va_K D vwCl (ty5 cI cS cF cZ cJ) s) (hZ : zz (fun q : Nat => s.heap.size ≤ q) s s.heap) (hX : va_X b L xs s s.heap) (hbl : b < s.heap.size) (hn : n ≤ 24) (hl : l.stackTraces = false) (hc0 : c0 + 6 ≤ 601024) (hz0 : z0 + 36 ≤ 7293000) {i : Int32} (hkb : ∀ (v u : Mem) (w : Nat → Int64), sk p l e room_1 s m #[Value.ref b] below meth c D (fun q : Nat => s.heap.size ≤ q) 7 (c0 + 6) (z0 + 36) (lQ below b s) (Wc cI cS cF ad n (ow Lr ar (shR cI cZ ar) u ++ [(ao, oc cJ w)]) v) 1454 [(0, .ref b), (1, .ref (ad 0)), (2, .ref (ar 0)), (3, .ref ao), (4, .int i)] [] (kb v u w)) (v u : Mem) (w : Nat → Int64) : sk p l e room_1 s m #[Value.ref b] below meth c D (fun q : Nat => s.heap.size ≤ q) 7 c0 z0 (lQ below b s) (Wc cI cS cF ad n (ow Lr ar (shR cI cZ ar) u ++ [(ao, oc cJ w)]) v) 1211 [(0, .ref b), (1, .ref (ad 0)), (2, .ref (ar 0)), (3, .ref ao), (4, .int i)] [] (fLaw_14 kb n L xs v u w i) := by
  have hA : ∀ q : Nat, s.heap.size ≤ q → (fun q : Nat => s.heap.size ≤ q) q := fun _ h => h
  have hbA : ¬ (fun q : Nat => s.heap.size ≤ q) b := Nat.not_le.mpr hbl
  refine sk_eq (K' := gd (inb (i + 1) L) (bd (fL_ticks n (xs (i + 1).toNatClampNeg) v w) fun x2 q3 => gd (inb (i + 1) L) (bd (fX5_ticks (xs (i + 1).toNatClampNeg) u) fun x6 v7 => bd (fX5_thrown v7) fun x9 v10 => if x9 = x2 then if x2 = 0 then if (lg_cmp (q3.2 0) x6.toInt64) = 0 then kb q3.1 v10 q3.2 else some 0 else kb q3.1 v10 q3.2 else some 0))) rfl ?_
  refine sk_aload_n F dL_law_1211 rfl 1 rfl ?_
  refine sk_aload_n F dL_law_1212 rfl 0 rfl ?_
  refine sk_iload F dL_law_1213 4 rfl ?_
  refine sk_iconst (x := 1) F dL_law_1215 (by decide) ?_
  refine sk_iadd F dL_law_1216 ?_
  refine sk_sld F hX hbl hbA dL_law_1217 (fun h1 => ?_)
  refine sk_aload_n F dL_law_1218 rfl 3 rfl ?_
  refine sk_callJ (As := [.ref (ad 0), .int (xs (i + 1).toNatClampNeg), .ref ao]) (rest := []) F hK hA hZ _ (tL_ticks hn hl _ _) (vx_cwSW 3 F.2.2.2.2 gL_law_L_ticks rfl rfl rfl (by decide +kernel) ⟨Nat.le_of_ble_eq_true rfl, Nat.le_of_ble_eq_true rfl⟩) rfl rfl (Nat.le_of_ble_eq_true rfl) ⟨by show _ ≤ 601024; omega, by show _ ≤ 7293000; omega⟩ dL_law_1219 (fun x2 q3 c4 => ?_)
  refine sk_istore F dL_law_1222 (by decide) rfl ?_
  refine sk_aload_n F dL_law_1224 rfl 3 rfl ?_
  refine sk_aload_n F dL_law_1225 rfl 1 rfl ?_
  refine sk_iload F dL_law_1226 5 rfl ?_
  refine sk_iconst (x := 1) F dL_law_1228 (by decide) ?_
  refine sk_iadd F dL_law_1229 ?_
  refine sk_sld F hX hbl hbA dL_law_1230 (fun h5 => ?_)
  refine sk_perm perm3 ?_
  refine sk_callVi (As := [.int (xs (i + 1).toNatClampNeg)]) (rest := []) F hK hA hZ _ (tX5_ticks _) (cwV 1 F.2.2.2.2 gL_law_X5_ticks rfl rfl rfl (by decide +kernel) ⟨Nat.le_of_ble_eq_true rfl, Nat.le_of_ble_eq_true rfl⟩) (rc5 hK) rfl rfl (Nat.le_of_ble_eq_true rfl) ⟨by show _ ≤ 601024; omega, by show _ ≤ 7293000; omega⟩ dL_law_1231 (fun x6 v7 c8 => ?_)
  refine sk_perm perm3 ?_
  refine sk_istore F dL_law_1234 (by decide) rfl ?_
  refine sk_aload_n F dL_law_1236 rfl 4 rfl ?_
  refine sk_perm perm3 ?_
  refine sk_callVi (As := []) (rest := []) F hK hA hZ _ (tX5_thrown _) (cwV 0 F.2.2.2.2 gL_law_X5_thrown rfl rfl rfl (by decide +kernel) ⟨Nat.le_of_ble_eq_true rfl, Nat.le_of_ble_eq_true rfl⟩) (rc5 hK) rfl rfl (Nat.le_of_ble_eq_true rfl) ⟨by show _ ≤ 601024; omega, by show _ ≤ 7293000; omega⟩ dL_law_1237 (fun x9 v10 c11 => ?_)
  refine sk_perm perm3 ?_
  refine sk_iload F dL_law_1240 1 rfl ?_
  refine sk_icmp_eq F 1247 dL_law_1242 (by decide) (fun h12 => ?_) (fun h12 => ?_)
  · refine sk_iload F dL_law_1247 1 rfl ?_
    refine sk_if_ne F 1264 dL_law_1249 (by decide) (fun h13 => ?_) (fun h13 => ?_)
    · refine sk_goto F 1454 dL_law_1264 (by decide) ?_
      exact sk_lv [2, 3, 4, 5, 6] rfl (sk_widen (by omega) (by omega) (hkb _ _ _))
    · refine sk_aload_n F dL_law_1252 rfl 5 rfl ?_
      refine sk_iconst (x := 0) F dL_law_1253 (by decide) ?_
      refine sk_lald F hK dL_law_1254 ?_
      refine sk_iload F dL_law_1255 0 rfl ?_
      refine sk_i2l F dL_law_1257 ?_
      refine sk_lcmp F dL_law_1258 ?_
      refine sk_if_eq F 1264 dL_law_1259 (by decide) (fun h14 => ?_) (fun h14 => ?_)
      · refine sk_goto F 1454 dL_law_1264 (by decide) ?_
        exact sk_lv [2, 3, 4, 5, 6] rfl (sk_widen (by omega) (by omega) (hkb _ _ _))
      · exact sk_law0
  · exact sk_law0
def fLaw_15 (kb : Mem → Mem → (Nat → Int64) → Option Int32) (n L : Nat) (xs : Nat → Int32) (v u : Mem) (w : Nat → Int64) (i : Int32) : Option Int32 := gd (inb (i + 1) L) (gd (inb (i + 2) L) (bd (fL_tube (xs (i + 1).toNatClampNeg) (xs (i + 2).toNatClampNeg) v w) fun x3 q4 => gd (inb (i + 1) L) (gd (inb (i + 2) L) (bd (fX5_tube (xs (i + 1).toNatClampNeg) (xs (i + 2).toNatClampNeg) u) fun x8 v9 => bd (fX5_thrown v9) fun x11 v12 => if x11 = x3 then if x3 = 0 then if (lg_cmp (q4.2 0) x8.toInt64) = 0 then kb q4.1 v12 q4.2 else some 0 else kb q4.1 v12 q4.2 else some 0))))
set_option maxRecDepth 100000 in
set_option maxHeartbeats 4000000 in
theorem kLaw_15 {p : Program} {l : Launch} {e : Env} {s : State} {m : MethodId} {below : List Frame} {meth : Method} {c : Code} {D : va_G} {cI cS cF cZ cJ : ClassId} {ad ar : Nat → Nat} {ao n b L : Nat} {xs : Nat → Int32} {kb : Mem → Mem → (Nat → Int64) → Option Int32} {c0 z0 : Nat} (F : CallFix p m c cL_law 7 s #[Value.ref b] wsL_law RL) (hK : va_K D vwCl (ty5 cI cS cF cZ cJ) s) (hZ : zz (fun q : Nat => s.heap.size ≤ q) s s.heap) (hX : va_X b L xs s s.heap) (hbl : b < s.heap.size) (hn : n ≤ 24) (hl : l.stackTraces = false) (hc0 : c0 + 6 ≤ 601024) (hz0 : z0 + 36 ≤ 7293000) {i : Int32} (hkb : ∀ (v u : Mem) (w : Nat → Int64), sk p l e room_1 s m #[Value.ref b] below meth c D (fun q : Nat => s.heap.size ≤ q) 7 (c0 + 6) (z0 + 36) (lQ below b s) (Wc cI cS cF ad n (ow Lr ar (shR cI cZ ar) u ++ [(ao, oc cJ w)]) v) 1454 [(0, .ref b), (1, .ref (ad 0)), (2, .ref (ar 0)), (3, .ref ao), (4, .int i)] [] (kb v u w)) (v u : Mem) (w : Nat → Int64) : sk p l e room_1 s m #[Value.ref b] below meth c D (fun q : Nat => s.heap.size ≤ q) 7 c0 z0 (lQ below b s) (Wc cI cS cF ad n (ow Lr ar (shR cI cZ ar) u ++ [(ao, oc cJ w)]) v) 1267 [(0, .ref b), (1, .ref (ad 0)), (2, .ref (ar 0)), (3, .ref ao), (4, .int i)] [] (fLaw_15 kb n L xs v u w i) := by
  have hA : ∀ q : Nat, s.heap.size ≤ q → (fun q : Nat => s.heap.size ≤ q) q := fun _ h => h
  have hbA : ¬ (fun q : Nat => s.heap.size ≤ q) b := Nat.not_le.mpr hbl
  refine sk_eq (K' := gd (inb (i + 1) L) (gd (inb (i + 2) L) (bd (fL_tube (xs (i + 1).toNatClampNeg) (xs (i + 2).toNatClampNeg) v w) fun x3 q4 => gd (inb (i + 1) L) (gd (inb (i + 2) L) (bd (fX5_tube (xs (i + 1).toNatClampNeg) (xs (i + 2).toNatClampNeg) u) fun x8 v9 => bd (fX5_thrown v9) fun x11 v12 => if x11 = x3 then if x3 = 0 then if (lg_cmp (q4.2 0) x8.toInt64) = 0 then kb q4.1 v12 q4.2 else some 0 else kb q4.1 v12 q4.2 else some 0))))) rfl ?_
  refine sk_aload_n F dL_law_1267 rfl 1 rfl ?_
  refine sk_aload_n F dL_law_1268 rfl 0 rfl ?_
  refine sk_iload F dL_law_1269 4 rfl ?_
  refine sk_iconst (x := 1) F dL_law_1271 (by decide) ?_
  refine sk_iadd F dL_law_1272 ?_
  refine sk_sld F hX hbl hbA dL_law_1273 (fun h1 => ?_)
  refine sk_aload_n F dL_law_1274 rfl 0 rfl ?_
  refine sk_iload F dL_law_1275 4 rfl ?_
  refine sk_iconst (x := 2) F dL_law_1277 (by decide) ?_
  refine sk_iadd F dL_law_1278 ?_
  refine sk_sld F hX hbl hbA dL_law_1279 (fun h2 => ?_)
  refine sk_aload_n F dL_law_1280 rfl 3 rfl ?_
  refine sk_callJ (As := [.ref (ad 0), .int (xs (i + 1).toNatClampNeg), .int (xs (i + 2).toNatClampNeg), .ref ao]) (rest := []) F hK hA hZ _ (tL_tube hn hl _ _) (vx_cwSW 4 F.2.2.2.2 gL_law_L_tube rfl rfl rfl (by decide +kernel) ⟨Nat.le_of_ble_eq_true rfl, Nat.le_of_ble_eq_true rfl⟩) rfl rfl (Nat.le_of_ble_eq_true rfl) ⟨by show _ ≤ 601024; omega, by show _ ≤ 7293000; omega⟩ dL_law_1281 (fun x3 q4 c5 => ?_)
  refine sk_istore F dL_law_1284 (by decide) rfl ?_
  refine sk_aload_n F dL_law_1286 rfl 3 rfl ?_
  refine sk_aload_n F dL_law_1287 rfl 1 rfl ?_
  refine sk_iload F dL_law_1288 5 rfl ?_
  refine sk_iconst (x := 1) F dL_law_1290 (by decide) ?_
  refine sk_iadd F dL_law_1291 ?_
  refine sk_sld F hX hbl hbA dL_law_1292 (fun h6 => ?_)
  refine sk_aload_n F dL_law_1293 rfl 1 rfl ?_
  refine sk_iload F dL_law_1294 5 rfl ?_
  refine sk_iconst (x := 2) F dL_law_1296 (by decide) ?_
  refine sk_iadd F dL_law_1297 ?_
  refine sk_sld F hX hbl hbA dL_law_1298 (fun h7 => ?_)
  refine sk_perm perm3 ?_
  refine sk_callVi (As := [.int (xs (i + 1).toNatClampNeg), .int (xs (i + 2).toNatClampNeg)]) (rest := []) F hK hA hZ _ (tX5_tube _) (cwV 2 F.2.2.2.2 gL_law_X5_tube rfl rfl rfl (by decide +kernel) ⟨Nat.le_of_ble_eq_true rfl, Nat.le_of_ble_eq_true rfl⟩) (rc5 hK) rfl rfl (Nat.le_of_ble_eq_true rfl) ⟨by show _ ≤ 601024; omega, by show _ ≤ 7293000; omega⟩ dL_law_1299 (fun x8 v9 c10 => ?_)
  refine sk_perm perm3 ?_
  refine sk_istore F dL_law_1302 (by decide) rfl ?_
  refine sk_aload_n F dL_law_1304 rfl 4 rfl ?_
  refine sk_perm perm3 ?_
  refine sk_callVi (As := []) (rest := []) F hK hA hZ _ (tX5_thrown _) (cwV 0 F.2.2.2.2 gL_law_X5_thrown rfl rfl rfl (by decide +kernel) ⟨Nat.le_of_ble_eq_true rfl, Nat.le_of_ble_eq_true rfl⟩) (rc5 hK) rfl rfl (Nat.le_of_ble_eq_true rfl) ⟨by show _ ≤ 601024; omega, by show _ ≤ 7293000; omega⟩ dL_law_1305 (fun x11 v12 c13 => ?_)
  refine sk_perm perm3 ?_
  refine sk_iload F dL_law_1308 1 rfl ?_
  refine sk_icmp_eq F 1315 dL_law_1310 (by decide) (fun h14 => ?_) (fun h14 => ?_)
  · refine sk_iload F dL_law_1315 1 rfl ?_
    refine sk_if_ne F 1332 dL_law_1317 (by decide) (fun h15 => ?_) (fun h15 => ?_)
    · refine sk_goto F 1454 dL_law_1332 (by decide) ?_
      exact sk_lv [2, 3, 4, 5, 6] rfl (sk_widen (by omega) (by omega) (hkb _ _ _))
    · refine sk_aload_n F dL_law_1320 rfl 5 rfl ?_
      refine sk_iconst (x := 0) F dL_law_1321 (by decide) ?_
      refine sk_lald F hK dL_law_1322 ?_
      refine sk_iload F dL_law_1323 0 rfl ?_
      refine sk_i2l F dL_law_1325 ?_
      refine sk_lcmp F dL_law_1326 ?_
      refine sk_if_eq F 1332 dL_law_1327 (by decide) (fun h16 => ?_) (fun h16 => ?_)
      · refine sk_goto F 1454 dL_law_1332 (by decide) ?_
        exact sk_lv [2, 3, 4, 5, 6] rfl (sk_widen (by omega) (by omega) (hkb _ _ _))
      · exact sk_law0
  · exact sk_law0
def fLaw_16 (kb : Mem → Mem → (Nat → Int64) → Option Int32) (n L : Nat) (xs : Nat → Int32) (v u : Mem) (w : Nat → Int64) (i : Int32) : Option Int32 := gd (inb (i + 1) L) (gd (inb (i + 2) L) (gd (inb (i + 3) L) (bd (fL_device (xs (i + 1).toNatClampNeg) (xs (i + 2).toNatClampNeg) (xs (i + 3).toNatClampNeg) v w) fun x4 q5 => gd (inb (i + 1) L) (gd (inb (i + 2) L) (gd (inb (i + 3) L) (bd (fX5_device (xs (i + 1).toNatClampNeg) (xs (i + 2).toNatClampNeg) (xs (i + 3).toNatClampNeg) u) fun x10 v11 => bd (fX5_thrown v11) fun x13 v14 => if x13 = x4 then if x4 = 0 then if (lg_cmp (q5.2 0) x10.toInt64) = 0 then kb q5.1 v14 q5.2 else some 0 else kb q5.1 v14 q5.2 else some 0))))))
set_option maxRecDepth 100000 in
set_option maxHeartbeats 4000000 in
theorem kLaw_16 {p : Program} {l : Launch} {e : Env} {s : State} {m : MethodId} {below : List Frame} {meth : Method} {c : Code} {D : va_G} {cI cS cF cZ cJ : ClassId} {ad ar : Nat → Nat} {ao n b L : Nat} {xs : Nat → Int32} {kb : Mem → Mem → (Nat → Int64) → Option Int32} {c0 z0 : Nat} (F : CallFix p m c cL_law 7 s #[Value.ref b] wsL_law RL) (hK : va_K D vwCl (ty5 cI cS cF cZ cJ) s) (hZ : zz (fun q : Nat => s.heap.size ≤ q) s s.heap) (hX : va_X b L xs s s.heap) (hbl : b < s.heap.size) (hn : n ≤ 24) (hl : l.stackTraces = false) (hc0 : c0 + 6 ≤ 601024) (hz0 : z0 + 36 ≤ 7293000) {i : Int32} (hkb : ∀ (v u : Mem) (w : Nat → Int64), sk p l e room_1 s m #[Value.ref b] below meth c D (fun q : Nat => s.heap.size ≤ q) 7 (c0 + 6) (z0 + 36) (lQ below b s) (Wc cI cS cF ad n (ow Lr ar (shR cI cZ ar) u ++ [(ao, oc cJ w)]) v) 1454 [(0, .ref b), (1, .ref (ad 0)), (2, .ref (ar 0)), (3, .ref ao), (4, .int i)] [] (kb v u w)) (v u : Mem) (w : Nat → Int64) : sk p l e room_1 s m #[Value.ref b] below meth c D (fun q : Nat => s.heap.size ≤ q) 7 c0 z0 (lQ below b s) (Wc cI cS cF ad n (ow Lr ar (shR cI cZ ar) u ++ [(ao, oc cJ w)]) v) 1335 [(0, .ref b), (1, .ref (ad 0)), (2, .ref (ar 0)), (3, .ref ao), (4, .int i)] [] (fLaw_16 kb n L xs v u w i) := by
  have hA : ∀ q : Nat, s.heap.size ≤ q → (fun q : Nat => s.heap.size ≤ q) q := fun _ h => h
  have hbA : ¬ (fun q : Nat => s.heap.size ≤ q) b := Nat.not_le.mpr hbl
  refine sk_eq (K' := gd (inb (i + 1) L) (gd (inb (i + 2) L) (gd (inb (i + 3) L) (bd (fL_device (xs (i + 1).toNatClampNeg) (xs (i + 2).toNatClampNeg) (xs (i + 3).toNatClampNeg) v w) fun x4 q5 => gd (inb (i + 1) L) (gd (inb (i + 2) L) (gd (inb (i + 3) L) (bd (fX5_device (xs (i + 1).toNatClampNeg) (xs (i + 2).toNatClampNeg) (xs (i + 3).toNatClampNeg) u) fun x10 v11 => bd (fX5_thrown v11) fun x13 v14 => if x13 = x4 then if x4 = 0 then if (lg_cmp (q5.2 0) x10.toInt64) = 0 then kb q5.1 v14 q5.2 else some 0 else kb q5.1 v14 q5.2 else some 0))))))) rfl ?_
  refine sk_aload_n F dL_law_1335 rfl 1 rfl ?_
  refine sk_aload_n F dL_law_1336 rfl 0 rfl ?_
  refine sk_iload F dL_law_1337 4 rfl ?_
  refine sk_iconst (x := 1) F dL_law_1339 (by decide) ?_
  refine sk_iadd F dL_law_1340 ?_
  refine sk_sld F hX hbl hbA dL_law_1341 (fun h1 => ?_)
  refine sk_aload_n F dL_law_1342 rfl 0 rfl ?_
  refine sk_iload F dL_law_1343 4 rfl ?_
  refine sk_iconst (x := 2) F dL_law_1345 (by decide) ?_
  refine sk_iadd F dL_law_1346 ?_
  refine sk_sld F hX hbl hbA dL_law_1347 (fun h2 => ?_)
  refine sk_aload_n F dL_law_1348 rfl 0 rfl ?_
  refine sk_iload F dL_law_1349 4 rfl ?_
  refine sk_iconst (x := 3) F dL_law_1351 (by decide) ?_
  refine sk_iadd F dL_law_1352 ?_
  refine sk_sld F hX hbl hbA dL_law_1353 (fun h3 => ?_)
  refine sk_aload_n F dL_law_1354 rfl 3 rfl ?_
  refine sk_callJ (As := [.ref (ad 0), .int (xs (i + 1).toNatClampNeg), .int (xs (i + 2).toNatClampNeg), .int (xs (i + 3).toNatClampNeg), .ref ao]) (rest := []) F hK hA hZ _ (tL_device hn hl _ _) (vx_cwSW 5 F.2.2.2.2 gL_law_L_device rfl rfl rfl (by decide +kernel) ⟨Nat.le_of_ble_eq_true rfl, Nat.le_of_ble_eq_true rfl⟩) rfl rfl (Nat.le_of_ble_eq_true rfl) ⟨by show _ ≤ 601024; omega, by show _ ≤ 7293000; omega⟩ dL_law_1355 (fun x4 q5 c6 => ?_)
  refine sk_istore F dL_law_1358 (by decide) rfl ?_
  refine sk_aload_n F dL_law_1360 rfl 3 rfl ?_
  refine sk_aload_n F dL_law_1361 rfl 1 rfl ?_
  refine sk_iload F dL_law_1362 5 rfl ?_
  refine sk_iconst (x := 1) F dL_law_1364 (by decide) ?_
  refine sk_iadd F dL_law_1365 ?_
  refine sk_sld F hX hbl hbA dL_law_1366 (fun h7 => ?_)
  refine sk_aload_n F dL_law_1367 rfl 1 rfl ?_
  refine sk_iload F dL_law_1368 5 rfl ?_
  refine sk_iconst (x := 2) F dL_law_1370 (by decide) ?_
  refine sk_iadd F dL_law_1371 ?_
  refine sk_sld F hX hbl hbA dL_law_1372 (fun h8 => ?_)
  refine sk_aload_n F dL_law_1373 rfl 1 rfl ?_
  refine sk_iload F dL_law_1374 5 rfl ?_
  refine sk_iconst (x := 3) F dL_law_1376 (by decide) ?_
  refine sk_iadd F dL_law_1377 ?_
  refine sk_sld F hX hbl hbA dL_law_1378 (fun h9 => ?_)
  refine sk_perm perm3 ?_
  refine sk_callVi (As := [.int (xs (i + 1).toNatClampNeg), .int (xs (i + 2).toNatClampNeg), .int (xs (i + 3).toNatClampNeg)]) (rest := []) F hK hA hZ _ (tX5_device _) (cwV 3 F.2.2.2.2 gL_law_X5_device rfl rfl rfl (by decide +kernel) ⟨Nat.le_of_ble_eq_true rfl, Nat.le_of_ble_eq_true rfl⟩) (rc5 hK) rfl rfl (Nat.le_of_ble_eq_true rfl) ⟨by show _ ≤ 601024; omega, by show _ ≤ 7293000; omega⟩ dL_law_1379 (fun x10 v11 c12 => ?_)
  refine sk_perm perm3 ?_
  refine sk_istore F dL_law_1382 (by decide) rfl ?_
  refine sk_aload_n F dL_law_1384 rfl 4 rfl ?_
  refine sk_perm perm3 ?_
  refine sk_callVi (As := []) (rest := []) F hK hA hZ _ (tX5_thrown _) (cwV 0 F.2.2.2.2 gL_law_X5_thrown rfl rfl rfl (by decide +kernel) ⟨Nat.le_of_ble_eq_true rfl, Nat.le_of_ble_eq_true rfl⟩) (rc5 hK) rfl rfl (Nat.le_of_ble_eq_true rfl) ⟨by show _ ≤ 601024; omega, by show _ ≤ 7293000; omega⟩ dL_law_1385 (fun x13 v14 c15 => ?_)
  refine sk_perm perm3 ?_
  refine sk_iload F dL_law_1388 1 rfl ?_
  refine sk_icmp_eq F 1395 dL_law_1390 (by decide) (fun h16 => ?_) (fun h16 => ?_)
  · refine sk_iload F dL_law_1395 1 rfl ?_
    refine sk_if_ne F 1412 dL_law_1397 (by decide) (fun h17 => ?_) (fun h17 => ?_)
    · refine sk_goto F 1454 dL_law_1412 (by decide) ?_
      exact sk_lv [2, 3, 4, 5, 6] rfl (sk_widen (by omega) (by omega) (hkb _ _ _))
    · refine sk_aload_n F dL_law_1400 rfl 5 rfl ?_
      refine sk_iconst (x := 0) F dL_law_1401 (by decide) ?_
      refine sk_lald F hK dL_law_1402 ?_
      refine sk_iload F dL_law_1403 0 rfl ?_
      refine sk_i2l F dL_law_1405 ?_
      refine sk_lcmp F dL_law_1406 ?_
      refine sk_if_eq F 1412 dL_law_1407 (by decide) (fun h18 => ?_) (fun h18 => ?_)
      · refine sk_goto F 1454 dL_law_1412 (by decide) ?_
        exact sk_lv [2, 3, 4, 5, 6] rfl (sk_widen (by omega) (by omega) (hkb _ _ _))
      · exact sk_law0
  · exact sk_law0
def fLaw_17 (kb : Mem → Mem → (Nat → Int64) → Option Int32) (n L : Nat) (xs : Nat → Int32) (v u : Mem) (w : Nat → Int64) (i : Int32) : Option Int32 := bd (fX4_load v) fun x1 v2 => bd (fX5_load u) fun x4 v5 => if x1 = x4 then kb v2 v5 w else some 0
set_option maxRecDepth 100000 in
set_option maxHeartbeats 4000000 in
theorem kLaw_17 {p : Program} {l : Launch} {e : Env} {s : State} {m : MethodId} {below : List Frame} {meth : Method} {c : Code} {D : va_G} {cI cS cF cZ cJ : ClassId} {ad ar : Nat → Nat} {ao n b L : Nat} {xs : Nat → Int32} {kb : Mem → Mem → (Nat → Int64) → Option Int32} {c0 z0 : Nat} (F : CallFix p m c cL_law 7 s #[Value.ref b] wsL_law RL) (hK : va_K D vwCl (ty5 cI cS cF cZ cJ) s) (hZ : zz (fun q : Nat => s.heap.size ≤ q) s s.heap) (hX : va_X b L xs s s.heap) (hbl : b < s.heap.size) (hn : n ≤ 24) (hl : l.stackTraces = false) (hc0 : c0 + 6 ≤ 601024) (hz0 : z0 + 36 ≤ 7293000) {i : Int32} (hkb : ∀ (v u : Mem) (w : Nat → Int64), sk p l e room_1 s m #[Value.ref b] below meth c D (fun q : Nat => s.heap.size ≤ q) 7 (c0 + 6) (z0 + 36) (lQ below b s) (Wc cI cS cF ad n (ow Lr ar (shR cI cZ ar) u ++ [(ao, oc cJ w)]) v) 1454 [(0, .ref b), (1, .ref (ad 0)), (2, .ref (ar 0)), (3, .ref ao), (4, .int i)] [] (kb v u w)) (v u : Mem) (w : Nat → Int64) : sk p l e room_1 s m #[Value.ref b] below meth c D (fun q : Nat => s.heap.size ≤ q) 7 c0 z0 (lQ below b s) (Wc cI cS cF ad n (ow Lr ar (shR cI cZ ar) u ++ [(ao, oc cJ w)]) v) 1415 [(0, .ref b), (1, .ref (ad 0)), (2, .ref (ar 0)), (3, .ref ao), (4, .int i)] [] (fLaw_17 kb n L xs v u w i) := by
  have hA : ∀ q : Nat, s.heap.size ≤ q → (fun q : Nat => s.heap.size ≤ q) q := fun _ h => h
  have hbA : ¬ (fun q : Nat => s.heap.size ≤ q) b := Nat.not_le.mpr hbl
  refine sk_eq (K' := bd (fX4_load v) fun x1 v2 => bd (fX5_load u) fun x4 v5 => if x1 = x4 then kb v2 v5 w else some 0) rfl ?_
  refine sk_aload_n F dL_law_1415 rfl 1 rfl ?_
  refine sk_callVi (As := []) (rest := []) F hK hA hZ _ (tX4_load hn _) (cwV 0 F.2.2.2.2 gL_law_X4_load rfl rfl rfl (by decide +kernel) ⟨Nat.le_of_ble_eq_true rfl, Nat.le_of_ble_eq_true rfl⟩) (rc4 hK (kC_0 n)) rfl rfl (Nat.le_of_ble_eq_true rfl) ⟨by show _ ≤ 601024; omega, by show _ ≤ 7293000; omega⟩ dL_law_1416 (fun x1 v2 c3 => ?_)
  refine sk_aload_n F dL_law_1419 rfl 2 rfl ?_
  refine sk_perm perm3 ?_
  refine sk_callVi (As := []) (rest := [.int x1]) F hK hA hZ _ (tX5_load _) (cwV 0 F.2.2.2.2 gL_law_X5_load rfl rfl rfl (by decide +kernel) ⟨Nat.le_of_ble_eq_true rfl, Nat.le_of_ble_eq_true rfl⟩) (rc5 hK) rfl rfl (Nat.le_of_ble_eq_true rfl) ⟨by show _ ≤ 601024; omega, by show _ ≤ 7293000; omega⟩ dL_law_1420 (fun x4 v5 c6 => ?_)
  refine sk_perm perm3 ?_
  refine sk_icmp_eq F 1454 dL_law_1423 (by decide) (fun h7 => ?_) (fun h7 => ?_)
  · exact sk_lv [0, 1, 2, 3, 4] rfl (sk_widen (by omega) (by omega) (hkb _ _ _))
  · exact sk_law0
def fLaw_18 (kb : Mem → Mem → (Nat → Int64) → Option Int32) (n L : Nat) (xs : Nat → Int32) (v u : Mem) (w : Nat → Int64) (i : Int32) : Option Int32 := bd (fX4_starts v) fun x1 v2 => bd (fX5_starts u) fun x4 v5 => if x1 = x4 then kb v2 v5 w else some 0
set_option maxRecDepth 100000 in
set_option maxHeartbeats 4000000 in
theorem kLaw_18 {p : Program} {l : Launch} {e : Env} {s : State} {m : MethodId} {below : List Frame} {meth : Method} {c : Code} {D : va_G} {cI cS cF cZ cJ : ClassId} {ad ar : Nat → Nat} {ao n b L : Nat} {xs : Nat → Int32} {kb : Mem → Mem → (Nat → Int64) → Option Int32} {c0 z0 : Nat} (F : CallFix p m c cL_law 7 s #[Value.ref b] wsL_law RL) (hK : va_K D vwCl (ty5 cI cS cF cZ cJ) s) (hZ : zz (fun q : Nat => s.heap.size ≤ q) s s.heap) (hX : va_X b L xs s s.heap) (hbl : b < s.heap.size) (hn : n ≤ 24) (hl : l.stackTraces = false) (hc0 : c0 + 6 ≤ 601024) (hz0 : z0 + 36 ≤ 7293000) {i : Int32} (hkb : ∀ (v u : Mem) (w : Nat → Int64), sk p l e room_1 s m #[Value.ref b] below meth c D (fun q : Nat => s.heap.size ≤ q) 7 (c0 + 6) (z0 + 36) (lQ below b s) (Wc cI cS cF ad n (ow Lr ar (shR cI cZ ar) u ++ [(ao, oc cJ w)]) v) 1454 [(0, .ref b), (1, .ref (ad 0)), (2, .ref (ar 0)), (3, .ref ao), (4, .int i)] [] (kb v u w)) (v u : Mem) (w : Nat → Int64) : sk p l e room_1 s m #[Value.ref b] below meth c D (fun q : Nat => s.heap.size ≤ q) 7 c0 z0 (lQ below b s) (Wc cI cS cF ad n (ow Lr ar (shR cI cZ ar) u ++ [(ao, oc cJ w)]) v) 1428 [(0, .ref b), (1, .ref (ad 0)), (2, .ref (ar 0)), (3, .ref ao), (4, .int i)] [] (fLaw_18 kb n L xs v u w i) := by
  have hA : ∀ q : Nat, s.heap.size ≤ q → (fun q : Nat => s.heap.size ≤ q) q := fun _ h => h
  have hbA : ¬ (fun q : Nat => s.heap.size ≤ q) b := Nat.not_le.mpr hbl
  refine sk_eq (K' := bd (fX4_starts v) fun x1 v2 => bd (fX5_starts u) fun x4 v5 => if x1 = x4 then kb v2 v5 w else some 0) rfl ?_
  refine sk_aload_n F dL_law_1428 rfl 1 rfl ?_
  refine sk_callVi (As := []) (rest := []) F hK hA hZ _ (tX4_starts hn _) (cwV 0 F.2.2.2.2 gL_law_X4_starts rfl rfl rfl (by decide +kernel) ⟨Nat.le_of_ble_eq_true rfl, Nat.le_of_ble_eq_true rfl⟩) (rc4 hK (kC_0 n)) rfl rfl (Nat.le_of_ble_eq_true rfl) ⟨by show _ ≤ 601024; omega, by show _ ≤ 7293000; omega⟩ dL_law_1429 (fun x1 v2 c3 => ?_)
  refine sk_aload_n F dL_law_1432 rfl 2 rfl ?_
  refine sk_perm perm3 ?_
  refine sk_callVi (As := []) (rest := [.int x1]) F hK hA hZ _ (tX5_starts _) (cwV 0 F.2.2.2.2 gL_law_X5_starts rfl rfl rfl (by decide +kernel) ⟨Nat.le_of_ble_eq_true rfl, Nat.le_of_ble_eq_true rfl⟩) (rc5 hK) rfl rfl (Nat.le_of_ble_eq_true rfl) ⟨by show _ ≤ 601024; omega, by show _ ≤ 7293000; omega⟩ dL_law_1433 (fun x4 v5 c6 => ?_)
  refine sk_perm perm3 ?_
  refine sk_icmp_eq F 1454 dL_law_1436 (by decide) (fun h7 => ?_) (fun h7 => ?_)
  · exact sk_lv [0, 1, 2, 3, 4] rfl (sk_widen (by omega) (by omega) (hkb _ _ _))
  · exact sk_law0
def fLaw_19 (kb : Mem → Mem → (Nat → Int64) → Option Int32) (n L : Nat) (xs : Nat → Int32) (v u : Mem) (w : Nat → Int64) (i : Int32) : Option Int32 := bd (fX4_broken v) fun x1 v2 => bd (fX5_broken u) fun x4 v5 => if x1 = x4 then kb v2 v5 w else some 0
set_option maxRecDepth 100000 in
set_option maxHeartbeats 4000000 in
theorem kLaw_19 {p : Program} {l : Launch} {e : Env} {s : State} {m : MethodId} {below : List Frame} {meth : Method} {c : Code} {D : va_G} {cI cS cF cZ cJ : ClassId} {ad ar : Nat → Nat} {ao n b L : Nat} {xs : Nat → Int32} {kb : Mem → Mem → (Nat → Int64) → Option Int32} {c0 z0 : Nat} (F : CallFix p m c cL_law 7 s #[Value.ref b] wsL_law RL) (hK : va_K D vwCl (ty5 cI cS cF cZ cJ) s) (hZ : zz (fun q : Nat => s.heap.size ≤ q) s s.heap) (hX : va_X b L xs s s.heap) (hbl : b < s.heap.size) (hn : n ≤ 24) (hl : l.stackTraces = false) (hc0 : c0 + 6 ≤ 601024) (hz0 : z0 + 36 ≤ 7293000) {i : Int32} (hkb : ∀ (v u : Mem) (w : Nat → Int64), sk p l e room_1 s m #[Value.ref b] below meth c D (fun q : Nat => s.heap.size ≤ q) 7 (c0 + 6) (z0 + 36) (lQ below b s) (Wc cI cS cF ad n (ow Lr ar (shR cI cZ ar) u ++ [(ao, oc cJ w)]) v) 1454 [(0, .ref b), (1, .ref (ad 0)), (2, .ref (ar 0)), (3, .ref ao), (4, .int i)] [] (kb v u w)) (v u : Mem) (w : Nat → Int64) : sk p l e room_1 s m #[Value.ref b] below meth c D (fun q : Nat => s.heap.size ≤ q) 7 c0 z0 (lQ below b s) (Wc cI cS cF ad n (ow Lr ar (shR cI cZ ar) u ++ [(ao, oc cJ w)]) v) 1441 [(0, .ref b), (1, .ref (ad 0)), (2, .ref (ar 0)), (3, .ref ao), (4, .int i)] [] (fLaw_19 kb n L xs v u w i) := by
  have hA : ∀ q : Nat, s.heap.size ≤ q → (fun q : Nat => s.heap.size ≤ q) q := fun _ h => h
  have hbA : ¬ (fun q : Nat => s.heap.size ≤ q) b := Nat.not_le.mpr hbl
  refine sk_eq (K' := bd (fX4_broken v) fun x1 v2 => bd (fX5_broken u) fun x4 v5 => if x1 = x4 then kb v2 v5 w else some 0) rfl ?_
  refine sk_aload_n F dL_law_1441 rfl 1 rfl ?_
  refine sk_callVi (As := []) (rest := []) F hK hA hZ _ (tX4_broken hn _) (cwV 0 F.2.2.2.2 gL_law_X4_broken rfl rfl rfl (by decide +kernel) ⟨Nat.le_of_ble_eq_true rfl, Nat.le_of_ble_eq_true rfl⟩) (rc4 hK (kC_0 n)) rfl rfl (Nat.le_of_ble_eq_true rfl) ⟨by show _ ≤ 601024; omega, by show _ ≤ 7293000; omega⟩ dL_law_1442 (fun x1 v2 c3 => ?_)
  refine sk_aload_n F dL_law_1445 rfl 2 rfl ?_
  refine sk_perm perm3 ?_
  refine sk_callVi (As := []) (rest := [.int x1]) F hK hA hZ _ (tX5_broken _) (cwV 0 F.2.2.2.2 gL_law_X5_broken rfl rfl rfl (by decide +kernel) ⟨Nat.le_of_ble_eq_true rfl, Nat.le_of_ble_eq_true rfl⟩) (rc5 hK) rfl rfl (Nat.le_of_ble_eq_true rfl) ⟨by show _ ≤ 601024; omega, by show _ ≤ 7293000; omega⟩ dL_law_1446 (fun x4 v5 c6 => ?_)
  refine sk_perm perm3 ?_
  refine sk_icmp_eq F 1454 dL_law_1449 (by decide) (fun h7 => ?_) (fun h7 => ?_)
  · exact sk_lv [0, 1, 2, 3, 4] rfl (sk_widen (by omega) (by omega) (hkb _ _ _))
  · exact sk_law0
