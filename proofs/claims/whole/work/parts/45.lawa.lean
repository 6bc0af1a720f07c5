def fLaw_0 (kb : Mem → Mem → (Nat → Int64) → Option Int32) (n L : Nat) (xs : Nat → Int32) (v u : Mem) (w : Nat → Int64) (i : Int32) : Option Int32 := gd (inb (i + 1) L) (gd (inb (i + 2) L) (bd (fL_fan (xs (i + 1).toNatClampNeg) (xs (i + 2).toNatClampNeg) v w) fun x3 q4 => gd (inb (i + 1) L) (gd (inb (i + 2) L) (bd (fX5_fan (xs (i + 1).toNatClampNeg) (xs (i + 2).toNatClampNeg) u) fun x8 v9 => bd (fX5_thrown v9) fun x11 v12 => if x11 = x3 then if x3 = 0 then if (lg_cmp (q4.2 0) x8.toInt64) = 0 then kb q4.1 v12 q4.2 else some 0 else kb q4.1 v12 q4.2 else some 0))))
set_option maxRecDepth 100000 in
set_option maxHeartbeats 4000000 in
theorem kLaw_0 {p : Program} {l : Launch} {e : Env} {s : State} {m : MethodId} {below : List Frame} {meth : Method} {c : Code} {D : va_G} {cI cS cF cZ cJ : ClassId} {ad ar : Nat → Nat} {ao n b L : Nat} {xs : Nat → Int32} {kb : Mem → Mem → (Nat → Int64) → Option Int32} {c0 z0 : Nat} (F : CallFix p m c cL_law 7 s #[Value.ref b] wsL_law RL) (hK : va_K D vwCl (ty5 cI cS cF cZ cJ) s) (hZ : zz (fun q : Nat => s.heap.size ≤ q) s s.heap) (hX : va_X b L xs s s.heap) (hbl : b < s.heap.size) (hn : n ≤ 24) (hl : l.stackTraces = false) (hc0 : c0 + 6 ≤ 601024) (hz0 : z0 + 36 ≤ 7293000) {i : Int32} (hkb : ∀ (v u : Mem) (w : Nat → Int64), sk p l e room_1 s m #[Value.ref b] below meth c D (fun q : Nat => s.heap.size ≤ q) 7 (c0 + 6) (z0 + 36) (lQ below b s) (Wc cI cS cF ad n (ow Lr ar (shR cI cZ ar) u ++ [(ao, oc cJ w)]) v) 1454 [(0, .ref b), (1, .ref (ad 0)), (2, .ref (ar 0)), (3, .ref ao), (4, .int i)] [] (kb v u w)) (v u : Mem) (w : Nat → Int64) : sk p l e room_1 s m #[Value.ref b] below meth c D (fun q : Nat => s.heap.size ≤ q) 7 c0 z0 (lQ below b s) (Wc cI cS cF ad n (ow Lr ar (shR cI cZ ar) u ++ [(ao, oc cJ w)]) v) 164 [(0, .ref b), (1, .ref (ad 0)), (2, .ref (ar 0)), (3, .ref ao), (4, .int i)] [] (fLaw_0 kb n L xs v u w i) := by
  have hA : ∀ q : Nat, s.heap.size ≤ q → (fun q : Nat => s.heap.size ≤ q) q := fun _ h => h
  have hbA : ¬ (fun q : Nat => s.heap.size ≤ q) b := Nat.not_le.mpr hbl
  refine sk_eq (K' := gd (inb (i + 1) L) (gd (inb (i + 2) L) (bd (fL_fan (xs (i + 1).toNatClampNeg) (xs (i + 2).toNatClampNeg) v w) fun x3 q4 => gd (inb (i + 1) L) (gd (inb (i + 2) L) (bd (fX5_fan (xs (i + 1).toNatClampNeg) (xs (i + 2).toNatClampNeg) u) fun x8 v9 => bd (fX5_thrown v9) fun x11 v12 => if x11 = x3 then if x3 = 0 then if (lg_cmp (q4.2 0) x8.toInt64) = 0 then kb q4.1 v12 q4.2 else some 0 else kb q4.1 v12 q4.2 else some 0))))) rfl ?_
  refine sk_aload_n F dL_law_164 rfl 1 rfl ?_
  refine sk_aload_n F dL_law_165 rfl 0 rfl ?_
  refine sk_iload F dL_law_166 4 rfl ?_
  refine sk_iconst (x := 1) F dL_law_168 (by decide) ?_
  refine sk_iadd F dL_law_169 ?_
  refine sk_sld F hX hbl hbA dL_law_170 (fun h1 => ?_)
  refine sk_aload_n F dL_law_171 rfl 0 rfl ?_
  refine sk_iload F dL_law_172 4 rfl ?_
  refine sk_iconst (x := 2) F dL_law_174 (by decide) ?_
  refine sk_iadd F dL_law_175 ?_
  refine sk_sld F hX hbl hbA dL_law_176 (fun h2 => ?_)
  refine sk_aload_n F dL_law_177 rfl 3 rfl ?_
  refine sk_callJ (As := [.ref (ad 0), .int (xs (i + 1).toNatClampNeg), .int (xs (i + 2).toNatClampNeg), .ref ao]) (rest := []) F hK hA hZ _ (tL_fan hn hl _ _) (vx_cwSW 4 F.2.2.2.2 gL_law_L_fan rfl rfl rfl (by decide +kernel) ⟨Nat.le_of_ble_eq_true rfl, Nat.le_of_ble_eq_true rfl⟩) rfl rfl (Nat.le_of_ble_eq_true rfl) ⟨by show _ ≤ 601024; omega, by show _ ≤ 7293000; omega⟩ dL_law_178 (fun x3 q4 c5 => ?_)
  refine sk_istore F dL_law_181 (by decide) rfl ?_
  refine sk_aload_n F dL_law_183 rfl 3 rfl ?_
  refine sk_aload_n F dL_law_184 rfl 1 rfl ?_
  refine sk_iload F dL_law_185 5 rfl ?_
  refine sk_iconst (x := 1) F dL_law_187 (by decide) ?_
  refine sk_iadd F dL_law_188 ?_
  refine sk_sld F hX hbl hbA dL_law_189 (fun h6 => ?_)
  refine sk_aload_n F dL_law_190 rfl 1 rfl ?_
  refine sk_iload F dL_law_191 5 rfl ?_
  refine sk_iconst (x := 2) F dL_law_193 (by decide) ?_
  refine sk_iadd F dL_law_194 ?_
  refine sk_sld F hX hbl hbA dL_law_195 (fun h7 => ?_)
  refine sk_perm perm3 ?_
  refine sk_callVi (As := [.int (xs (i + 1).toNatClampNeg), .int (xs (i + 2).toNatClampNeg)]) (rest := []) F hK hA hZ _ (tX5_fan _) (cwV 2 F.2.2.2.2 gL_law_X5_fan rfl rfl rfl (by decide +kernel) ⟨Nat.le_of_ble_eq_true rfl, Nat.le_of_ble_eq_true rfl⟩) (rc5 hK) rfl rfl (Nat.le_of_ble_eq_true rfl) ⟨by show _ ≤ 601024; omega, by show _ ≤ 7293000; omega⟩ dL_law_196 (fun x8 v9 c10 => ?_)
  refine sk_perm perm3 ?_
  refine sk_istore F dL_law_199 (by decide) rfl ?_
  refine sk_aload_n F dL_law_201 rfl 4 rfl ?_
  refine sk_perm perm3 ?_
  refine sk_callVi (As := []) (rest := []) F hK hA hZ _ (tX5_thrown _) (cwV 0 F.2.2.2.2 gL_law_X5_thrown rfl rfl rfl (by decide +kernel) ⟨Nat.le_of_ble_eq_true rfl, Nat.le_of_ble_eq_true rfl⟩) (rc5 hK) rfl rfl (Nat.le_of_ble_eq_true rfl) ⟨by show _ ≤ 601024; omega, by show _ ≤ 7293000; omega⟩ dL_law_202 (fun x11 v12 c13 => ?_)
  refine sk_perm perm3 ?_
  refine sk_iload F dL_law_205 1 rfl ?_
  refine sk_icmp_eq F 212 dL_law_207 (by decide) (fun h14 => ?_) (fun h14 => ?_)
  · refine sk_iload F dL_law_212 1 rfl ?_
    refine sk_if_ne F 229 dL_law_214 (by decide) (fun h15 => ?_) (fun h15 => ?_)
    · refine sk_goto F 1454 dL_law_229 (by decide) ?_
      exact sk_lv [2, 3, 4, 5, 6] rfl (sk_widen (by omega) (by omega) (hkb _ _ _))
    · refine sk_aload_n F dL_law_217 rfl 5 rfl ?_
      refine sk_iconst (x := 0) F dL_law_218 (by decide) ?_
      refine sk_lald F hK dL_law_219 ?_
      refine sk_iload F dL_law_220 0 rfl ?_
      refine sk_i2l F dL_law_222 ?_
      refine sk_lcmp F dL_law_223 ?_
      refine sk_if_eq F 229 dL_law_224 (by decide) (fun h16 => ?_) (fun h16 => ?_)
      · refine sk_goto F 1454 dL_law_229 (by decide) ?_
        exact sk_lv [2, 3, 4, 5, 6] rfl (sk_widen (by omega) (by omega) (hkb _ _ _))
      · exact sk_law0
  · exact sk_law0
def fLaw_1 (kb : Mem → Mem → (Nat → Int64) → Option Int32) (n L : Nat) (xs : Nat → Int32) (v u : Mem) (w : Nat → Int64) (i : Int32) : Option Int32 := gd (inb (i + 1) L) (gd (inb (i + 2) L) (gd (inb (i + 3) L) (bd (fL_lag (xs (i + 1).toNatClampNeg) (xs (i + 2).toNatClampNeg) (xs (i + 3).toNatClampNeg) v w) fun x4 q5 => gd (inb (i + 1) L) (gd (inb (i + 2) L) (gd (inb (i + 3) L) (bd (fX5_lag (xs (i + 1).toNatClampNeg) (xs (i + 2).toNatClampNeg) (xs (i + 3).toNatClampNeg) u) fun x10 v11 => bd (fX5_thrown v11) fun x13 v14 => if x13 = x4 then if x4 = 0 then if (lg_cmp (q5.2 0) x10.toInt64) = 0 then kb q5.1 v14 q5.2 else some 0 else kb q5.1 v14 q5.2 else some 0))))))
set_option maxRecDepth 100000 in
set_option maxHeartbeats 4000000 in
theorem kLaw_1 {p : Program} {l : Launch} {e : Env} {s : State} {m : MethodId} {below : List Frame} {meth : Method} {c : Code} {D : va_G} {cI cS cF cZ cJ : ClassId} {ad ar : Nat → Nat} {ao n b L : Nat} {xs : Nat → Int32} {kb : Mem → Mem → (Nat → Int64) → Option Int32} {c0 z0 : Nat} (F : CallFix p m c cL_law 7 s #[Value.ref b] wsL_law RL) (hK : va_K D vwCl (ty5 cI cS cF cZ cJ) s) (hZ : zz (fun q : Nat => s.heap.size ≤ q) s s.heap) (hX : va_X b L xs s s.heap) (hbl : b < s.heap.size) (hn : n ≤ 24) (hl : l.stackTraces = false) (hc0 : c0 + 6 ≤ 601024) (hz0 : z0 + 36 ≤ 7293000) {i : Int32} (hkb : ∀ (v u : Mem) (w : Nat → Int64), sk p l e room_1 s m #[Value.ref b] below meth c D (fun q : Nat => s.heap.size ≤ q) 7 (c0 + 6) (z0 + 36) (lQ below b s) (Wc cI cS cF ad n (ow Lr ar (shR cI cZ ar) u ++ [(ao, oc cJ w)]) v) 1454 [(0, .ref b), (1, .ref (ad 0)), (2, .ref (ar 0)), (3, .ref ao), (4, .int i)] [] (kb v u w)) (v u : Mem) (w : Nat → Int64) : sk p l e room_1 s m #[Value.ref b] below meth c D (fun q : Nat => s.heap.size ≤ q) 7 c0 z0 (lQ below b s) (Wc cI cS cF ad n (ow Lr ar (shR cI cZ ar) u ++ [(ao, oc cJ w)]) v) 232 [(0, .ref b), (1, .ref (ad 0)), (2, .ref (ar 0)), (3, .ref ao), (4, .int i)] [] (fLaw_1 kb n L xs v u w i) := by
  have hA : ∀ q : Nat, s.heap.size ≤ q → (fun q : Nat => s.heap.size ≤ q) q := fun _ h => h
  have hbA : ¬ (fun q : Nat => s.heap.size ≤ q) b := Nat.not_le.mpr hbl
  refine sk_eq (K' := gd (inb (i + 1) L) (gd (inb (i + 2) L) (gd (inb (i + 3) L) (bd (fL_lag (xs (i + 1).toNatClampNeg) (xs (i + 2).toNatClampNeg) (xs (i + 3).toNatClampNeg) v w) fun x4 q5 => gd (inb (i + 1) L) (gd (inb (i + 2) L) (gd (inb (i + 3) L) (bd (fX5_lag (xs (i + 1).toNatClampNeg) (xs (i + 2).toNatClampNeg) (xs (i + 3).toNatClampNeg) u) fun x10 v11 => bd (fX5_thrown v11) fun x13 v14 => if x13 = x4 then if x4 = 0 then if (lg_cmp (q5.2 0) x10.toInt64) = 0 then kb q5.1 v14 q5.2 else some 0 else kb q5.1 v14 q5.2 else some 0))))))) rfl ?_
  refine sk_aload_n F dL_law_232 rfl 1 rfl ?_
  refine sk_aload_n F dL_law_233 rfl 0 rfl ?_
  refine sk_iload F dL_law_234 4 rfl ?_
  refine sk_iconst (x := 1) F dL_law_236 (by decide) ?_
  refine sk_iadd F dL_law_237 ?_
  refine sk_sld F hX hbl hbA dL_law_238 (fun h1 => ?_)
  refine sk_aload_n F dL_law_239 rfl 0 rfl ?_
  refine sk_iload F dL_law_240 4 rfl ?_
  refine sk_iconst (x := 2) F dL_law_242 (by decide) ?_
  refine sk_iadd F dL_law_243 ?_
  refine sk_sld F hX hbl hbA dL_law_244 (fun h2 => ?_)
  refine sk_aload_n F dL_law_245 rfl 0 rfl ?_
  refine sk_iload F dL_law_246 4 rfl ?_
  refine sk_iconst (x := 3) F dL_law_248 (by decide) ?_
  refine sk_iadd F dL_law_249 ?_
  refine sk_sld F hX hbl hbA dL_law_250 (fun h3 => ?_)
  refine sk_aload_n F dL_law_251 rfl 3 rfl ?_
  refine sk_callJ (As := [.ref (ad 0), .int (xs (i + 1).toNatClampNeg), .int (xs (i + 2).toNatClampNeg), .int (xs (i + 3).toNatClampNeg), .ref ao]) (rest := []) F hK hA hZ _ (tL_lag hn hl _ _) (vx_cwSW 5 F.2.2.2.2 gL_law_L_lag rfl rfl rfl (by decide +kernel) ⟨Nat.le_of_ble_eq_true rfl, Nat.le_of_ble_eq_true rfl⟩) rfl rfl (Nat.le_of_ble_eq_true rfl) ⟨by show _ ≤ 601024; omega, by show _ ≤ 7293000; omega⟩ dL_law_252 (fun x4 q5 c6 => ?_)
  refine sk_istore F dL_law_255 (by decide) rfl ?_
  refine sk_aload_n F dL_law_257 rfl 3 rfl ?_
  refine sk_aload_n F dL_law_258 rfl 1 rfl ?_
  refine sk_iload F dL_law_259 5 rfl ?_
  refine sk_iconst (x := 1) F dL_law_261 (by decide) ?_
  refine sk_iadd F dL_law_262 ?_
  refine sk_sld F hX hbl hbA dL_law_263 (fun h7 => ?_)
  refine sk_aload_n F dL_law_264 rfl 1 rfl ?_
  refine sk_iload F dL_law_265 5 rfl ?_
  refine sk_iconst (x := 2) F dL_law_267 (by decide) ?_
  refine sk_iadd F dL_law_268 ?_
  refine sk_sld F hX hbl hbA dL_law_269 (fun h8 => ?_)
  refine sk_aload_n F dL_law_270 rfl 1 rfl ?_
  refine sk_iload F dL_law_271 5 rfl ?_
  refine sk_iconst (x := 3) F dL_law_273 (by decide) ?_
  refine sk_iadd F dL_law_274 ?_
  refine sk_sld F hX hbl hbA dL_law_275 (fun h9 => ?_)
  refine sk_perm perm3 ?_
  refine sk_callVi (As := [.int (xs (i + 1).toNatClampNeg), .int (xs (i + 2).toNatClampNeg), .int (xs (i + 3).toNatClampNeg)]) (rest := []) F hK hA hZ _ (tX5_lag _) (cwV 3 F.2.2.2.2 gL_law_X5_lag rfl rfl rfl (by decide +kernel) ⟨Nat.le_of_ble_eq_true rfl, Nat.le_of_ble_eq_true rfl⟩) (rc5 hK) rfl rfl (Nat.le_of_ble_eq_true rfl) ⟨by show _ ≤ 601024; omega, by show _ ≤ 7293000; omega⟩ dL_law_276 (fun x10 v11 c12 => ?_)
  refine sk_perm perm3 ?_
  refine sk_istore F dL_law_279 (by decide) rfl ?_
  refine sk_aload_n F dL_law_281 rfl 4 rfl ?_
  refine sk_perm perm3 ?_
  refine sk_callVi (As := []) (rest := []) F hK hA hZ _ (tX5_thrown _) (cwV 0 F.2.2.2.2 gL_law_X5_thrown rfl rfl rfl (by decide +kernel) ⟨Nat.le_of_ble_eq_true rfl, Nat.le_of_ble_eq_true rfl⟩) (rc5 hK) rfl rfl (Nat.le_of_ble_eq_true rfl) ⟨by show _ ≤ 601024; omega, by show _ ≤ 7293000; omega⟩ dL_law_282 (fun x13 v14 c15 => ?_)
  refine sk_perm perm3 ?_
  refine sk_iload F dL_law_285 1 rfl ?_
  refine sk_icmp_eq F 292 dL_law_287 (by decide) (fun h16 => ?_) (fun h16 => ?_)
  · refine sk_iload F dL_law_292 1 rfl ?_
    refine sk_if_ne F 309 dL_law_294 (by decide) (fun h17 => ?_) (fun h17 => ?_)
    · refine sk_goto F 1454 dL_law_309 (by decide) ?_
      exact sk_lv [2, 3, 4, 5, 6] rfl (sk_widen (by omega) (by omega) (hkb _ _ _))
    · refine sk_aload_n F dL_law_297 rfl 5 rfl ?_
      refine sk_iconst (x := 0) F dL_law_298 (by decide) ?_
      refine sk_lald F hK dL_law_299 ?_
      refine sk_iload F dL_law_300 0 rfl ?_
      refine sk_i2l F dL_law_302 ?_
      refine sk_lcmp F dL_law_303 ?_
      refine sk_if_eq F 309 dL_law_304 (by decide) (fun h18 => ?_) (fun h18 => ?_)
      · refine sk_goto F 1454 dL_law_309 (by decide) ?_
        exact sk_lv [2, 3, 4, 5, 6] rfl (sk_widen (by omega) (by omega) (hkb _ _ _))
      · exact sk_law0
  · exact sk_law0
def fLaw_2 (kb : Mem → Mem → (Nat → Int64) → Option Int32) (n L : Nat) (xs : Nat → Int32) (v u : Mem) (w : Nat → Int64) (i : Int32) : Option Int32 := gd (inb (i + 1) L) (gd (inb (i + 2) L) (gd (inb (i + 3) L) (gd (inb (i + 4) L) (gd (inb (i + 5) L) (gd (inb (i + 6) L) (bd (fL_plan n (xs (i + 1).toNatClampNeg) (xs (i + 2).toNatClampNeg) (xs (i + 3).toNatClampNeg) (xs (i + 4).toNatClampNeg) (xs (i + 5).toNatClampNeg) (xs (i + 6).toNatClampNeg) v w) fun x7 q8 => gd (inb (i + 1) L) (gd (inb (i + 2) L) (gd (inb (i + 3) L) (gd (inb (i + 4) L) (gd (inb (i + 5) L) (gd (inb (i + 6) L) ((fX5_plan (xs (i + 1).toNatClampNeg) (xs (i + 2).toNatClampNeg) (xs (i + 3).toNatClampNeg) (xs (i + 4).toNatClampNeg) (xs (i + 5).toNatClampNeg) (xs (i + 6).toNatClampNeg) u).bind fun v17 => bd (fX5_thrown v17) fun x19 v20 => if x19 = x7 then kb q8.1 v20 q8.2 else some 0))))))))))))
set_option maxRecDepth 100000 in
set_option maxHeartbeats 4000000 in
theorem kLaw_2 {p : Program} {l : Launch} {e : Env} {s : State} {m : MethodId} {below : List Frame} {meth : Method} {c : Code} {D : va_G} {cI cS cF cZ cJ : ClassId} {ad ar : Nat → Nat} {ao n b L : Nat} {xs : Nat → Int32} {kb : Mem → Mem → (Nat → Int64) → Option Int32} {c0 z0 : Nat} (F : CallFix p m c cL_law 7 s #[Value.ref b] wsL_law RL) (hK : va_K D vwCl (ty5 cI cS cF cZ cJ) s) (hZ : zz (fun q : Nat => s.heap.size ≤ q) s s.heap) (hX : va_X b L xs s s.heap) (hbl : b < s.heap.size) (hn : n ≤ 24) (hl : l.stackTraces = false) (hc0 : c0 + 6 ≤ 601024) (hz0 : z0 + 36 ≤ 7293000) {i : Int32} (hkb : ∀ (v u : Mem) (w : Nat → Int64), sk p l e room_1 s m #[Value.ref b] below meth c D (fun q : Nat => s.heap.size ≤ q) 7 (c0 + 6) (z0 + 36) (lQ below b s) (Wc cI cS cF ad n (ow Lr ar (shR cI cZ ar) u ++ [(ao, oc cJ w)]) v) 1454 [(0, .ref b), (1, .ref (ad 0)), (2, .ref (ar 0)), (3, .ref ao), (4, .int i)] [] (kb v u w)) (v u : Mem) (w : Nat → Int64) : sk p l e room_1 s m #[Value.ref b] below meth c D (fun q : Nat => s.heap.size ≤ q) 7 c0 z0 (lQ below b s) (Wc cI cS cF ad n (ow Lr ar (shR cI cZ ar) u ++ [(ao, oc cJ w)]) v) 312 [(0, .ref b), (1, .ref (ad 0)), (2, .ref (ar 0)), (3, .ref ao), (4, .int i)] [] (fLaw_2 kb n L xs v u w i) := by
  have hA : ∀ q : Nat, s.heap.size ≤ q → (fun q : Nat => s.heap.size ≤ q) q := fun _ h => h
  have hbA : ¬ (fun q : Nat => s.heap.size ≤ q) b := Nat.not_le.mpr hbl
  refine sk_eq (K' := gd (inb (i + 1) L) (gd (inb (i + 2) L) (gd (inb (i + 3) L) (gd (inb (i + 4) L) (gd (inb (i + 5) L) (gd (inb (i + 6) L) (bd (fL_plan n (xs (i + 1).toNatClampNeg) (xs (i + 2).toNatClampNeg) (xs (i + 3).toNatClampNeg) (xs (i + 4).toNatClampNeg) (xs (i + 5).toNatClampNeg) (xs (i + 6).toNatClampNeg) v w) fun x7 q8 => gd (inb (i + 1) L) (gd (inb (i + 2) L) (gd (inb (i + 3) L) (gd (inb (i + 4) L) (gd (inb (i + 5) L) (gd (inb (i + 6) L) ((fX5_plan (xs (i + 1).toNatClampNeg) (xs (i + 2).toNatClampNeg) (xs (i + 3).toNatClampNeg) (xs (i + 4).toNatClampNeg) (xs (i + 5).toNatClampNeg) (xs (i + 6).toNatClampNeg) u).bind fun v17 => bd (fX5_thrown v17) fun x19 v20 => if x19 = x7 then kb q8.1 v20 q8.2 else some 0))))))))))))) rfl ?_
  refine sk_aload_n F dL_law_312 rfl 1 rfl ?_
  refine sk_aload_n F dL_law_313 rfl 0 rfl ?_
  refine sk_iload F dL_law_314 4 rfl ?_
  refine sk_iconst (x := 1) F dL_law_316 (by decide) ?_
  refine sk_iadd F dL_law_317 ?_
  refine sk_sld F hX hbl hbA dL_law_318 (fun h1 => ?_)
  refine sk_aload_n F dL_law_319 rfl 0 rfl ?_
  refine sk_iload F dL_law_320 4 rfl ?_
  refine sk_iconst (x := 2) F dL_law_322 (by decide) ?_
  refine sk_iadd F dL_law_323 ?_
  refine sk_sld F hX hbl hbA dL_law_324 (fun h2 => ?_)
  refine sk_aload_n F dL_law_325 rfl 0 rfl ?_
  refine sk_iload F dL_law_326 4 rfl ?_
  refine sk_iconst (x := 3) F dL_law_328 (by decide) ?_
  refine sk_iadd F dL_law_329 ?_
  refine sk_sld F hX hbl hbA dL_law_330 (fun h3 => ?_)
  refine sk_aload_n F dL_law_331 rfl 0 rfl ?_
  refine sk_iload F dL_law_332 4 rfl ?_
  refine sk_iconst (x := 4) F dL_law_334 (by decide) ?_
  refine sk_iadd F dL_law_335 ?_
  refine sk_sld F hX hbl hbA dL_law_336 (fun h4 => ?_)
  refine sk_aload_n F dL_law_337 rfl 0 rfl ?_
  refine sk_iload F dL_law_338 4 rfl ?_
  refine sk_iconst (x := 5) F dL_law_340 (by decide) ?_
  refine sk_iadd F dL_law_341 ?_
  refine sk_sld F hX hbl hbA dL_law_342 (fun h5 => ?_)
  refine sk_aload_n F dL_law_343 rfl 0 rfl ?_
  refine sk_iload F dL_law_344 4 rfl ?_
  refine sk_bipush (x := 6) F dL_law_346 (by decide) ?_
  refine sk_iadd F dL_law_348 ?_
  refine sk_sld F hX hbl hbA dL_law_349 (fun h6 => ?_)
  refine sk_callJ (As := [.ref (ad 0), .int (xs (i + 1).toNatClampNeg), .int (xs (i + 2).toNatClampNeg), .int (xs (i + 3).toNatClampNeg), .int (xs (i + 4).toNatClampNeg), .int (xs (i + 5).toNatClampNeg), .int (xs (i + 6).toNatClampNeg)]) (rest := []) F hK hA hZ _ (tL_plan hn hl _ _) (vx_cwSW 7 F.2.2.2.2 gL_law_L_plan rfl rfl rfl (by decide +kernel) ⟨Nat.le_of_ble_eq_true rfl, Nat.le_of_ble_eq_true rfl⟩) rfl rfl (Nat.le_of_ble_eq_true rfl) ⟨by show _ ≤ 601024; omega, by show _ ≤ 7293000; omega⟩ dL_law_350 (fun x7 q8 c9 => ?_)
  refine sk_istore F dL_law_353 (by decide) rfl ?_
  refine sk_aload_n F dL_law_355 rfl 3 rfl ?_
  refine sk_aload_n F dL_law_356 rfl 1 rfl ?_
  refine sk_iload F dL_law_357 5 rfl ?_
  refine sk_iconst (x := 1) F dL_law_359 (by decide) ?_
  refine sk_iadd F dL_law_360 ?_
  refine sk_sld F hX hbl hbA dL_law_361 (fun h10 => ?_)
  refine sk_aload_n F dL_law_362 rfl 1 rfl ?_
  refine sk_iload F dL_law_363 5 rfl ?_
  refine sk_iconst (x := 2) F dL_law_365 (by decide) ?_
  refine sk_iadd F dL_law_366 ?_
  refine sk_sld F hX hbl hbA dL_law_367 (fun h11 => ?_)
  refine sk_aload_n F dL_law_368 rfl 1 rfl ?_
  refine sk_iload F dL_law_369 5 rfl ?_
  refine sk_iconst (x := 3) F dL_law_371 (by decide) ?_
  refine sk_iadd F dL_law_372 ?_
  refine sk_sld F hX hbl hbA dL_law_373 (fun h12 => ?_)
  refine sk_aload_n F dL_law_374 rfl 1 rfl ?_
  refine sk_iload F dL_law_375 5 rfl ?_
  refine sk_iconst (x := 4) F dL_law_377 (by decide) ?_
  refine sk_iadd F dL_law_378 ?_
  refine sk_sld F hX hbl hbA dL_law_379 (fun h13 => ?_)
  refine sk_aload_n F dL_law_380 rfl 1 rfl ?_
  refine sk_iload F dL_law_381 5 rfl ?_
  refine sk_iconst (x := 5) F dL_law_383 (by decide) ?_
  refine sk_iadd F dL_law_384 ?_
  refine sk_sld F hX hbl hbA dL_law_385 (fun h14 => ?_)
  refine sk_aload_n F dL_law_386 rfl 1 rfl ?_
  refine sk_iload F dL_law_387 5 rfl ?_
  refine sk_bipush (x := 6) F dL_law_389 (by decide) ?_
  refine sk_iadd F dL_law_391 ?_
  refine sk_sld F hX hbl hbA dL_law_392 (fun h15 => ?_)
  refine sk_perm perm3 ?_
  refine sk_callVv (As := [.int (xs (i + 1).toNatClampNeg), .int (xs (i + 2).toNatClampNeg), .int (xs (i + 3).toNatClampNeg), .int (xs (i + 4).toNatClampNeg), .int (xs (i + 5).toNatClampNeg), .int (xs (i + 6).toNatClampNeg)]) (rest := []) F hK hA hZ _ (tX5_plan _) (cwV 6 F.2.2.2.2 gL_law_X5_plan rfl rfl rfl (by decide +kernel) ⟨Nat.le_of_ble_eq_true rfl, Nat.le_of_ble_eq_true rfl⟩) (rc5 hK) rfl rfl (Nat.le_of_ble_eq_true rfl) ⟨by show _ ≤ 601024; omega, by show _ ≤ 7293000; omega⟩ dL_law_393 (fun v17 c18 => ?_)
  refine sk_perm perm3 ?_
  refine sk_aload_n F dL_law_396 rfl 3 rfl ?_
  refine sk_perm perm3 ?_
  refine sk_callVi (As := []) (rest := []) F hK hA hZ _ (tX5_thrown _) (cwV 0 F.2.2.2.2 gL_law_X5_thrown rfl rfl rfl (by decide +kernel) ⟨Nat.le_of_ble_eq_true rfl, Nat.le_of_ble_eq_true rfl⟩) (rc5 hK) rfl rfl (Nat.le_of_ble_eq_true rfl) ⟨by show _ ≤ 601024; omega, by show _ ≤ 7293000; omega⟩ dL_law_397 (fun x19 v20 c21 => ?_)
  refine sk_perm perm3 ?_
  refine sk_iload F dL_law_400 0 rfl ?_
  refine sk_icmp_eq F 407 dL_law_402 (by decide) (fun h22 => ?_) (fun h22 => ?_)
  · refine sk_goto F 1454 dL_law_407 (by decide) ?_
    exact sk_lv [1, 2, 3, 4, 5] rfl (sk_widen (by omega) (by omega) (hkb _ _ _))
  · exact sk_law0
def fLaw_3 (kb : Mem → Mem → (Nat → Int64) → Option Int32) (n L : Nat) (xs : Nat → Int32) (v u : Mem) (w : Nat → Int64) (i : Int32) : Option Int32 := gd (inb (i + 1) L) (gd (inb (i + 2) L) (gd (inb (i + 3) L) (bd (fL_turn n (xs (i + 1).toNatClampNeg) (xs (i + 2).toNatClampNeg) (xs (i + 3).toNatClampNeg) v w) fun x4 q5 => gd (inb (i + 1) L) (gd (inb (i + 2) L) (gd (inb (i + 3) L) ((fX5_turn (xs (i + 1).toNatClampNeg) (xs (i + 2).toNatClampNeg) (xs (i + 3).toNatClampNeg) u).bind fun v11 => bd (fX5_thrown v11) fun x13 v14 => if x13 = x4 then kb q5.1 v14 q5.2 else some 0))))))
set_option maxRecDepth 100000 in
set_option maxHeartbeats 4000000 in
theorem kLaw_3 {p : Program} {l : Launch} {e : Env} {s : State} {m : MethodId} {below : List Frame} {meth : Method} {c : Code} {D : va_G} {cI cS cF cZ cJ : ClassId} {ad ar : Nat → Nat} {ao n b L : Nat} {xs : Nat → Int32} {kb : Mem → Mem → (Nat → Int64) → Option Int32} {c0 z0 : Nat} (F : CallFix p m c cL_law 7 s #[Value.ref b] wsL_law RL) (hK : va_K D vwCl (ty5 cI cS cF cZ cJ) s) (hZ : zz (fun q : Nat => s.heap.size ≤ q) s s.heap) (hX : va_X b L xs s s.heap) (hbl : b < s.heap.size) (hn : n ≤ 24) (hl : l.stackTraces = false) (hc0 : c0 + 6 ≤ 601024) (hz0 : z0 + 36 ≤ 7293000) {i : Int32} (hkb : ∀ (v u : Mem) (w : Nat → Int64), sk p l e room_1 s m #[Value.ref b] below meth c D (fun q : Nat => s.heap.size ≤ q) 7 (c0 + 6) (z0 + 36) (lQ below b s) (Wc cI cS cF ad n (ow Lr ar (shR cI cZ ar) u ++ [(ao, oc cJ w)]) v) 1454 [(0, .ref b), (1, .ref (ad 0)), (2, .ref (ar 0)), (3, .ref ao), (4, .int i)] [] (kb v u w)) (v u : Mem) (w : Nat → Int64) : sk p l e room_1 s m #[Value.ref b] below meth c D (fun q : Nat => s.heap.size ≤ q) 7 c0 z0 (lQ below b s) (Wc cI cS cF ad n (ow Lr ar (shR cI cZ ar) u ++ [(ao, oc cJ w)]) v) 410 [(0, .ref b), (1, .ref (ad 0)), (2, .ref (ar 0)), (3, .ref ao), (4, .int i)] [] (fLaw_3 kb n L xs v u w i) := by
  have hA : ∀ q : Nat, s.heap.size ≤ q → (fun q : Nat => s.heap.size ≤ q) q := fun _ h => h
  have hbA : ¬ (fun q : Nat => s.heap.size ≤ q) b := Nat.not_le.mpr hbl
  refine sk_eq (K' := gd (inb (i + 1) L) (gd (inb (i + 2) L) (gd (inb (i + 3) L) (bd (fL_turn n (xs (i + 1).toNatClampNeg) (xs (i + 2).toNatClampNeg) (xs (i + 3).toNatClampNeg) v w) fun x4 q5 => gd (inb (i + 1) L) (gd (inb (i + 2) L) (gd (inb (i + 3) L) ((fX5_turn (xs (i + 1).toNatClampNeg) (xs (i + 2).toNatClampNeg) (xs (i + 3).toNatClampNeg) u).bind fun v11 => bd (fX5_thrown v11) fun x13 v14 => if x13 = x4 then kb q5.1 v14 q5.2 else some 0))))))) rfl ?_
  refine sk_aload_n F dL_law_410 rfl 1 rfl ?_
  refine sk_aload_n F dL_law_411 rfl 0 rfl ?_
  refine sk_iload F dL_law_412 4 rfl ?_
  refine sk_iconst (x := 1) F dL_law_414 (by decide) ?_
  refine sk_iadd F dL_law_415 ?_
  refine sk_sld F hX hbl hbA dL_law_416 (fun h1 => ?_)
  refine sk_aload_n F dL_law_417 rfl 0 rfl ?_
  refine sk_iload F dL_law_418 4 rfl ?_
  refine sk_iconst (x := 2) F dL_law_420 (by decide) ?_
  refine sk_iadd F dL_law_421 ?_
  refine sk_sld F hX hbl hbA dL_law_422 (fun h2 => ?_)
  refine sk_aload_n F dL_law_423 rfl 0 rfl ?_
  refine sk_iload F dL_law_424 4 rfl ?_
  refine sk_iconst (x := 3) F dL_law_426 (by decide) ?_
  refine sk_iadd F dL_law_427 ?_
  refine sk_sld F hX hbl hbA dL_law_428 (fun h3 => ?_)
  refine sk_callJ (As := [.ref (ad 0), .int (xs (i + 1).toNatClampNeg), .int (xs (i + 2).toNatClampNeg), .int (xs (i + 3).toNatClampNeg)]) (rest := []) F hK hA hZ _ (tL_turn hn hl _ _) (vx_cwSW 4 F.2.2.2.2 gL_law_L_turn rfl rfl rfl (by decide +kernel) ⟨Nat.le_of_ble_eq_true rfl, Nat.le_of_ble_eq_true rfl⟩) rfl rfl (Nat.le_of_ble_eq_true rfl) ⟨by show _ ≤ 601024; omega, by show _ ≤ 7293000; omega⟩ dL_law_429 (fun x4 q5 c6 => ?_)
  refine sk_istore F dL_law_432 (by decide) rfl ?_
  refine sk_aload_n F dL_law_434 rfl 3 rfl ?_
  refine sk_aload_n F dL_law_435 rfl 1 rfl ?_
  refine sk_iload F dL_law_436 5 rfl ?_
  refine sk_iconst (x := 1) F dL_law_438 (by decide) ?_
  refine sk_iadd F dL_law_439 ?_
  refine sk_sld F hX hbl hbA dL_law_440 (fun h7 => ?_)
  refine sk_aload_n F dL_law_441 rfl 1 rfl ?_
  refine sk_iload F dL_law_442 5 rfl ?_
  refine sk_iconst (x := 2) F dL_law_444 (by decide) ?_
  refine sk_iadd F dL_law_445 ?_
  refine sk_sld F hX hbl hbA dL_law_446 (fun h8 => ?_)
  refine sk_aload_n F dL_law_447 rfl 1 rfl ?_
  refine sk_iload F dL_law_448 5 rfl ?_
  refine sk_iconst (x := 3) F dL_law_450 (by decide) ?_
  refine sk_iadd F dL_law_451 ?_
  refine sk_sld F hX hbl hbA dL_law_452 (fun h9 => ?_)
  refine sk_perm perm3 ?_
  refine sk_callVv (As := [.int (xs (i + 1).toNatClampNeg), .int (xs (i + 2).toNatClampNeg), .int (xs (i + 3).toNatClampNeg)]) (rest := []) F hK hA hZ _ (tX5_turn _) (cwV 3 F.2.2.2.2 gL_law_X5_turn rfl rfl rfl (by decide +kernel) ⟨Nat.le_of_ble_eq_true rfl, Nat.le_of_ble_eq_true rfl⟩) (rc5 hK) rfl rfl (Nat.le_of_ble_eq_true rfl) ⟨by show _ ≤ 601024; omega, by show _ ≤ 7293000; omega⟩ dL_law_453 (fun v11 c12 => ?_)
  refine sk_perm perm3 ?_
  refine sk_aload_n F dL_law_456 rfl 3 rfl ?_
  refine sk_perm perm3 ?_
  refine sk_callVi (As := []) (rest := []) F hK hA hZ _ (tX5_thrown _) (cwV 0 F.2.2.2.2 gL_law_X5_thrown rfl rfl rfl (by decide +kernel) ⟨Nat.le_of_ble_eq_true rfl, Nat.le_of_ble_eq_true rfl⟩) (rc5 hK) rfl rfl (Nat.le_of_ble_eq_true rfl) ⟨by show _ ≤ 601024; omega, by show _ ≤ 7293000; omega⟩ dL_law_457 (fun x13 v14 c15 => ?_)
  refine sk_perm perm3 ?_
  refine sk_iload F dL_law_460 0 rfl ?_
  refine sk_icmp_eq F 467 dL_law_462 (by decide) (fun h16 => ?_) (fun h16 => ?_)
  · refine sk_goto F 1454 dL_law_467 (by decide) ?_
    exact sk_lv [1, 2, 3, 4, 5] rfl (sk_widen (by omega) (by omega) (hkb _ _ _))
  · exact sk_law0
def fLaw_4 (kb : Mem → Mem → (Nat → Int64) → Option Int32) (n L : Nat) (xs : Nat → Int32) (v u : Mem) (w : Nat → Int64) (i : Int32) : Option Int32 := gd (inb (i + 1) L) (gd (inb (i + 2) L) (gd (inb (i + 3) L) (bd (fL_sense n (xs (i + 1).toNatClampNeg) (xs (i + 2).toNatClampNeg) (xs (i + 3).toNatClampNeg) v w) fun x4 q5 => gd (inb (i + 1) L) (gd (inb (i + 2) L) (gd (inb (i + 3) L) (bd (fX5_sense (xs (i + 1).toNatClampNeg) (xs (i + 2).toNatClampNeg) (xs (i + 3).toNatClampNeg) u) fun x10 v11 => bd (fX5_thrown v11) fun x13 v14 => if x13 = x4 then if x4 = 0 then if (lg_cmp (q5.2 0) x10.toInt64) = 0 then kb q5.1 v14 q5.2 else some 0 else kb q5.1 v14 q5.2 else some 0))))))
set_option maxRecDepth 100000 in
set_option maxHeartbeats 4000000 in
theorem kLaw_4 {p : Program} {l : Launch} {e : Env} {s : State} {m : MethodId} {below : List Frame} {meth : Method} {c : Code} {D : va_G} {cI cS cF cZ cJ : ClassId} {ad ar : Nat → Nat} {ao n b L : Nat} {xs : Nat → Int32} {kb : Mem → Mem → (Nat → Int64) → Option Int32} {c0 z0 : Nat} (F : CallFix p m c cL_law 7 s #[Value.ref b] wsL_law RL) (hK : va_K D vwCl (ty5 cI cS cF cZ cJ) s) (hZ : zz (fun q : Nat => s.heap.size ≤ q) s s.heap) (hX : va_X b L xs s s.heap) (hbl : b < s.heap.size) (hn : n ≤ 24) (hl : l.stackTraces = false) (hc0 : c0 + 6 ≤ 601024) (hz0 : z0 + 36 ≤ 7293000) {i : Int32} (hkb : ∀ (v u : Mem) (w : Nat → Int64), sk p l e room_1 s m #[Value.ref b] below meth c D (fun q : Nat => s.heap.size ≤ q) 7 (c0 + 6) (z0 + 36) (lQ below b s) (Wc cI cS cF ad n (ow Lr ar (shR cI cZ ar) u ++ [(ao, oc cJ w)]) v) 1454 [(0, .ref b), (1, .ref (ad 0)), (2, .ref (ar 0)), (3, .ref ao), (4, .int i)] [] (kb v u w)) (v u : Mem) (w : Nat → Int64) : sk p l e room_1 s m #[Value.ref b] below meth c D (fun q : Nat => s.heap.size ≤ q) 7 c0 z0 (lQ below b s) (Wc cI cS cF ad n (ow Lr ar (shR cI cZ ar) u ++ [(ao, oc cJ w)]) v) 470 [(0, .ref b), (1, .ref (ad 0)), (2, .ref (ar 0)), (3, .ref ao), (4, .int i)] [] (fLaw_4 kb n L xs v u w i) := by
  have hA : ∀ q : Nat, s.heap.size ≤ q → (fun q : Nat => s.heap.size ≤ q) q := fun _ h => h
  have hbA : ¬ (fun q : Nat => s.heap.size ≤ q) b := Nat.not_le.mpr hbl
  refine sk_eq (K' := gd (inb (i + 1) L) (gd (inb (i + 2) L) (gd (inb (i + 3) L) (bd (fL_sense n (xs (i + 1).toNatClampNeg) (xs (i + 2).toNatClampNeg) (xs (i + 3).toNatClampNeg) v w) fun x4 q5 => gd (inb (i + 1) L) (gd (inb (i + 2) L) (gd (inb (i + 3) L) (bd (fX5_sense (xs (i + 1).toNatClampNeg) (xs (i + 2).toNatClampNeg) (xs (i + 3).toNatClampNeg) u) fun x10 v11 => bd (fX5_thrown v11) fun x13 v14 => if x13 = x4 then if x4 = 0 then if (lg_cmp (q5.2 0) x10.toInt64) = 0 then kb q5.1 v14 q5.2 else some 0 else kb q5.1 v14 q5.2 else some 0))))))) rfl ?_
  refine sk_aload_n F dL_law_470 rfl 1 rfl ?_
  refine sk_aload_n F dL_law_471 rfl 0 rfl ?_
  refine sk_iload F dL_law_472 4 rfl ?_
  refine sk_iconst (x := 1) F dL_law_474 (by decide) ?_
  refine sk_iadd F dL_law_475 ?_
  refine sk_sld F hX hbl hbA dL_law_476 (fun h1 => ?_)
  refine sk_aload_n F dL_law_477 rfl 0 rfl ?_
  refine sk_iload F dL_law_478 4 rfl ?_
  refine sk_iconst (x := 2) F dL_law_480 (by decide) ?_
  refine sk_iadd F dL_law_481 ?_
  refine sk_sld F hX hbl hbA dL_law_482 (fun h2 => ?_)
  refine sk_aload_n F dL_law_483 rfl 0 rfl ?_
  refine sk_iload F dL_law_484 4 rfl ?_
  refine sk_iconst (x := 3) F dL_law_486 (by decide) ?_
  refine sk_iadd F dL_law_487 ?_
  refine sk_sld F hX hbl hbA dL_law_488 (fun h3 => ?_)
  refine sk_aload_n F dL_law_489 rfl 3 rfl ?_
  refine sk_callJ (As := [.ref (ad 0), .int (xs (i + 1).toNatClampNeg), .int (xs (i + 2).toNatClampNeg), .int (xs (i + 3).toNatClampNeg), .ref ao]) (rest := []) F hK hA hZ _ (tL_sense hn hl _ _) (vx_cwSW 5 F.2.2.2.2 gL_law_L_sense rfl rfl rfl (by decide +kernel) ⟨Nat.le_of_ble_eq_true rfl, Nat.le_of_ble_eq_true rfl⟩) rfl rfl (Nat.le_of_ble_eq_true rfl) ⟨by show _ ≤ 601024; omega, by show _ ≤ 7293000; omega⟩ dL_law_490 (fun x4 q5 c6 => ?_)
  refine sk_istore F dL_law_493 (by decide) rfl ?_
  refine sk_aload_n F dL_law_495 rfl 3 rfl ?_
  refine sk_aload_n F dL_law_496 rfl 1 rfl ?_
  refine sk_iload F dL_law_497 5 rfl ?_
  refine sk_iconst (x := 1) F dL_law_499 (by decide) ?_
  refine sk_iadd F dL_law_500 ?_
  refine sk_sld F hX hbl hbA dL_law_501 (fun h7 => ?_)
  refine sk_aload_n F dL_law_502 rfl 1 rfl ?_
  refine sk_iload F dL_law_503 5 rfl ?_
  refine sk_iconst (x := 2) F dL_law_505 (by decide) ?_
  refine sk_iadd F dL_law_506 ?_
  refine sk_sld F hX hbl hbA dL_law_507 (fun h8 => ?_)
  refine sk_aload_n F dL_law_508 rfl 1 rfl ?_
  refine sk_iload F dL_law_509 5 rfl ?_
  refine sk_iconst (x := 3) F dL_law_511 (by decide) ?_
  refine sk_iadd F dL_law_512 ?_
  refine sk_sld F hX hbl hbA dL_law_513 (fun h9 => ?_)
  refine sk_perm perm3 ?_
  refine sk_callVi (As := [.int (xs (i + 1).toNatClampNeg), .int (xs (i + 2).toNatClampNeg), .int (xs (i + 3).toNatClampNeg)]) (rest := []) F hK hA hZ _ (tX5_sense _) (cwV 3 F.2.2.2.2 gL_law_X5_sense rfl rfl rfl (by decide +kernel) ⟨Nat.le_of_ble_eq_true rfl, Nat.le_of_ble_eq_true rfl⟩) (rc5 hK) rfl rfl (Nat.le_of_ble_eq_true rfl) ⟨by show _ ≤ 601024; omega, by show _ ≤ 7293000; omega⟩ dL_law_514 (fun x10 v11 c12 => ?_)
  refine sk_perm perm3 ?_
  refine sk_istore F dL_law_517 (by decide) rfl ?_
  refine sk_aload_n F dL_law_519 rfl 4 rfl ?_
  refine sk_perm perm3 ?_
  refine sk_callVi (As := []) (rest := []) F hK hA hZ _ (tX5_thrown _) (cwV 0 F.2.2.2.2 gL_law_X5_thrown rfl rfl rfl (by decide +kernel) ⟨Nat.le_of_ble_eq_true rfl, Nat.le_of_ble_eq_true rfl⟩) (rc5 hK) rfl rfl (Nat.le_of_ble_eq_true rfl) ⟨by show _ ≤ 601024; omega, by show _ ≤ 7293000; omega⟩ dL_law_520 (fun x13 v14 c15 => ?_)
  refine sk_perm perm3 ?_
  refine sk_iload F dL_law_523 1 rfl ?_
  refine sk_icmp_eq F 530 dL_law_525 (by decide) (fun h16 => ?_) (fun h16 => ?_)
  · refine sk_iload F dL_law_530 1 rfl ?_
    refine sk_if_ne F 547 dL_law_532 (by decide) (fun h17 => ?_) (fun h17 => ?_)
    · refine sk_goto F 1454 dL_law_547 (by decide) ?_
      exact sk_lv [2, 3, 4, 5, 6] rfl (sk_widen (by omega) (by omega) (hkb _ _ _))
    · refine sk_aload_n F dL_law_535 rfl 5 rfl ?_
      refine sk_iconst (x := 0) F dL_law_536 (by decide) ?_
      refine sk_lald F hK dL_law_537 ?_
      refine sk_iload F dL_law_538 0 rfl ?_
      refine sk_i2l F dL_law_540 ?_
      refine sk_lcmp F dL_law_541 ?_
      refine sk_if_eq F 547 dL_law_542 (by decide) (fun h18 => ?_) (fun h18 => ?_)
      · refine sk_goto F 1454 dL_law_547 (by decide) ?_
        exact sk_lv [2, 3, 4, 5, 6] rfl (sk_widen (by omega) (by omega) (hkb _ _ _))
      · exact sk_law0
  · exact sk_law0
def fLaw_5 (kb : Mem → Mem → (Nat → Int64) → Option Int32) (n L : Nat) (xs : Nat → Int32) (v u : Mem) (w : Nat → Int64) (i : Int32) : Option Int32 := gd (inb (i + 1) L) (gd (inb (i + 2) L) (gd (inb (i + 3) L) (bd (fL_deafen n (xs (i + 1).toNatClampNeg) (xs (i + 2).toNatClampNeg) (if (xs (i + 3).toNatClampNeg) = 0 then 0 else 1) v w) fun x4 q5 => gd (inb (i + 1) L) (gd (inb (i + 2) L) (gd (inb (i + 3) L) (bd (fX5_deafen (xs (i + 1).toNatClampNeg) (xs (i + 2).toNatClampNeg) (if (xs (i + 3).toNatClampNeg) = 0 then 0 else 1) u) fun x10 v11 => bd (fX5_thrown v11) fun x13 v14 => if x13 = x4 then if x4 = 0 then if (lg_cmp (q5.2 0) (if x10 = 0 then 0 else 1)) = 0 then kb q5.1 v14 q5.2 else some 0 else kb q5.1 v14 q5.2 else some 0))))))
set_option maxRecDepth 100000 in
set_option maxHeartbeats 4000000 in
theorem kLaw_5 {p : Program} {l : Launch} {e : Env} {s : State} {m : MethodId} {below : List Frame} {meth : Method} {c : Code} {D : va_G} {cI cS cF cZ cJ : ClassId} {ad ar : Nat → Nat} {ao n b L : Nat} {xs : Nat → Int32} {kb : Mem → Mem → (Nat → Int64) → Option Int32} {c0 z0 : Nat} (F : CallFix p m c cL_law 7 s #[Value.ref b] wsL_law RL) (hK : va_K D vwCl (ty5 cI cS cF cZ cJ) s) (hZ : zz (fun q : Nat => s.heap.size ≤ q) s s.heap) (hX : va_X b L xs s s.heap) (hbl : b < s.heap.size) (hn : n ≤ 24) (hl : l.stackTraces = false) (hc0 : c0 + 6 ≤ 601024) (hz0 : z0 + 36 ≤ 7293000) {i : Int32} (hkb : ∀ (v u : Mem) (w : Nat → Int64), sk p l e room_1 s m #[Value.ref b] below meth c D (fun q : Nat => s.heap.size ≤ q) 7 (c0 + 6) (z0 + 36) (lQ below b s) (Wc cI cS cF ad n (ow Lr ar (shR cI cZ ar) u ++ [(ao, oc cJ w)]) v) 1454 [(0, .ref b), (1, .ref (ad 0)), (2, .ref (ar 0)), (3, .ref ao), (4, .int i)] [] (kb v u w)) (v u : Mem) (w : Nat → Int64) : sk p l e room_1 s m #[Value.ref b] below meth c D (fun q : Nat => s.heap.size ≤ q) 7 c0 z0 (lQ below b s) (Wc cI cS cF ad n (ow Lr ar (shR cI cZ ar) u ++ [(ao, oc cJ w)]) v) 550 [(0, .ref b), (1, .ref (ad 0)), (2, .ref (ar 0)), (3, .ref ao), (4, .int i)] [] (fLaw_5 kb n L xs v u w i) := by
  have hA : ∀ q : Nat, s.heap.size ≤ q → (fun q : Nat => s.heap.size ≤ q) q := fun _ h => h
  have hbA : ¬ (fun q : Nat => s.heap.size ≤ q) b := Nat.not_le.mpr hbl
  refine sk_eq (K' := gd (inb (i + 1) L) (gd (inb (i + 2) L) (gd (inb (i + 3) L) (bd (fL_deafen n (xs (i + 1).toNatClampNeg) (xs (i + 2).toNatClampNeg) (if (xs (i + 3).toNatClampNeg) = 0 then 0 else 1) v w) fun x4 q5 => gd (inb (i + 1) L) (gd (inb (i + 2) L) (gd (inb (i + 3) L) (bd (fX5_deafen (xs (i + 1).toNatClampNeg) (xs (i + 2).toNatClampNeg) (if (xs (i + 3).toNatClampNeg) = 0 then 0 else 1) u) fun x10 v11 => bd (fX5_thrown v11) fun x13 v14 => if x13 = x4 then if x4 = 0 then if (lg_cmp (q5.2 0) (if x10 = 0 then 0 else 1)) = 0 then kb q5.1 v14 q5.2 else some 0 else kb q5.1 v14 q5.2 else some 0))))))) rfl ?_
  refine sk_aload_n F dL_law_550 rfl 1 rfl ?_
  refine sk_aload_n F dL_law_551 rfl 0 rfl ?_
  refine sk_iload F dL_law_552 4 rfl ?_
  refine sk_iconst (x := 1) F dL_law_554 (by decide) ?_
  refine sk_iadd F dL_law_555 ?_
  refine sk_sld F hX hbl hbA dL_law_556 (fun h1 => ?_)
  refine sk_aload_n F dL_law_557 rfl 0 rfl ?_
  refine sk_iload F dL_law_558 4 rfl ?_
  refine sk_iconst (x := 2) F dL_law_560 (by decide) ?_
  refine sk_iadd F dL_law_561 ?_
  refine sk_sld F hX hbl hbA dL_law_562 (fun h2 => ?_)
  refine sk_aload_n F dL_law_563 rfl 0 rfl ?_
  refine sk_iload F dL_law_564 4 rfl ?_
  refine sk_iconst (x := 3) F dL_law_566 (by decide) ?_
  refine sk_iadd F dL_law_567 ?_
  refine sk_sld F hX hbl hbA dL_law_568 (fun h3 => ?_)
  refine sk_seli F 576 577 dL_law_569 (by decide) dL_law_572 dL_law_573 (by decide) dL_law_576 rfl ?_
  refine sk_aload_n F dL_law_577 rfl 3 rfl ?_
  refine sk_callJ (As := [.ref (ad 0), .int (xs (i + 1).toNatClampNeg), .int (xs (i + 2).toNatClampNeg), .int (if (xs (i + 3).toNatClampNeg) = 0 then 0 else 1), .ref ao]) (rest := []) F hK hA hZ _ (tL_deafen hn hl _ _) (vx_cwSW 5 F.2.2.2.2 gL_law_L_deafen rfl rfl rfl (by decide +kernel) ⟨Nat.le_of_ble_eq_true rfl, Nat.le_of_ble_eq_true rfl⟩) rfl rfl (Nat.le_of_ble_eq_true rfl) ⟨by show _ ≤ 601024; omega, by show _ ≤ 7293000; omega⟩ dL_law_578 (fun x4 q5 c6 => ?_)
  refine sk_istore F dL_law_581 (by decide) rfl ?_
  refine sk_aload_n F dL_law_583 rfl 3 rfl ?_
  refine sk_aload_n F dL_law_584 rfl 1 rfl ?_
  refine sk_iload F dL_law_585 5 rfl ?_
  refine sk_iconst (x := 1) F dL_law_587 (by decide) ?_
  refine sk_iadd F dL_law_588 ?_
  refine sk_sld F hX hbl hbA dL_law_589 (fun h7 => ?_)
  refine sk_aload_n F dL_law_590 rfl 1 rfl ?_
  refine sk_iload F dL_law_591 5 rfl ?_
  refine sk_iconst (x := 2) F dL_law_593 (by decide) ?_
  refine sk_iadd F dL_law_594 ?_
  refine sk_sld F hX hbl hbA dL_law_595 (fun h8 => ?_)
  refine sk_aload_n F dL_law_596 rfl 1 rfl ?_
  refine sk_iload F dL_law_597 5 rfl ?_
  refine sk_iconst (x := 3) F dL_law_599 (by decide) ?_
  refine sk_iadd F dL_law_600 ?_
  refine sk_sld F hX hbl hbA dL_law_601 (fun h9 => ?_)
  refine sk_seli F 609 610 dL_law_602 (by decide) dL_law_605 dL_law_606 (by decide) dL_law_609 rfl ?_
  refine sk_perm perm3 ?_
  refine sk_callVi (As := [.int (xs (i + 1).toNatClampNeg), .int (xs (i + 2).toNatClampNeg), .int (if (xs (i + 3).toNatClampNeg) = 0 then 0 else 1)]) (rest := []) F hK hA hZ _ (tX5_deafen _) (cwV 3 F.2.2.2.2 gL_law_X5_deafen rfl rfl rfl (by decide +kernel) ⟨Nat.le_of_ble_eq_true rfl, Nat.le_of_ble_eq_true rfl⟩) (rc5 hK) rfl rfl (Nat.le_of_ble_eq_true rfl) ⟨by show _ ≤ 601024; omega, by show _ ≤ 7293000; omega⟩ dL_law_610 (fun x10 v11 c12 => ?_)
  refine sk_perm perm3 ?_
  refine sk_istore F dL_law_613 (by decide) rfl ?_
  refine sk_aload_n F dL_law_615 rfl 4 rfl ?_
  refine sk_perm perm3 ?_
  refine sk_callVi (As := []) (rest := []) F hK hA hZ _ (tX5_thrown _) (cwV 0 F.2.2.2.2 gL_law_X5_thrown rfl rfl rfl (by decide +kernel) ⟨Nat.le_of_ble_eq_true rfl, Nat.le_of_ble_eq_true rfl⟩) (rc5 hK) rfl rfl (Nat.le_of_ble_eq_true rfl) ⟨by show _ ≤ 601024; omega, by show _ ≤ 7293000; omega⟩ dL_law_616 (fun x13 v14 c15 => ?_)
  refine sk_perm perm3 ?_
  refine sk_iload F dL_law_619 1 rfl ?_
  refine sk_icmp_eq F 626 dL_law_621 (by decide) (fun h16 => ?_) (fun h16 => ?_)
  · refine sk_iload F dL_law_626 1 rfl ?_
    refine sk_if_ne F 650 dL_law_628 (by decide) (fun h17 => ?_) (fun h17 => ?_)
    · refine sk_goto F 1454 dL_law_650 (by decide) ?_
      exact sk_lv [2, 3, 4, 5, 6] rfl (sk_widen (by omega) (by omega) (hkb _ _ _))
    · refine sk_aload_n F dL_law_631 rfl 5 rfl ?_
      refine sk_iconst (x := 0) F dL_law_632 (by decide) ?_
      refine sk_lald F hK dL_law_633 ?_
      refine sk_iload F dL_law_634 0 rfl ?_
      refine sk_sell F 643 644 dL_law_636 (by decide) dL_law_639 dL_law_640 (by decide) dL_law_643 rfl ?_
      refine sk_lcmp F dL_law_644 ?_
      refine sk_if_eq F 650 dL_law_645 (by decide) (fun h18 => ?_) (fun h18 => ?_)
      · refine sk_goto F 1454 dL_law_650 (by decide) ?_
        exact sk_lv [2, 3, 4, 5, 6] rfl (sk_widen (by omega) (by omega) (hkb _ _ _))
      · exact sk_law0
  · exact sk_law0
def fLaw_6 (kb : Mem → Mem → (Nat → Int64) → Option Int32) (n L : Nat) (xs : Nat → Int32) (v u : Mem) (w : Nat → Int64) (i : Int32) : Option Int32 := gd (inb (i + 1) L) (gd (inb (i + 2) L) (bd (fL_pull n (xs (i + 1).toNatClampNeg) (xs (i + 2).toNatClampNeg) v w) fun x3 q4 => gd (inb (i + 1) L) (gd (inb (i + 2) L) (bd (fX5_pull (xs (i + 1).toNatClampNeg) (xs (i + 2).toNatClampNeg) u) fun x8 v9 => bd (fX5_thrown v9) fun x11 v12 => if x11 = x3 then if x3 = 0 then if (lg_cmp (q4.2 0) (if x8 = 0 then 0 else 1)) = 0 then kb q4.1 v12 q4.2 else some 0 else kb q4.1 v12 q4.2 else some 0))))
set_option maxRecDepth 100000 in
set_option maxHeartbeats 4000000 in
theorem kLaw_6 {p : Program} {l : Launch} {e : Env} {s : State} {m : MethodId} {below : List Frame} {meth : Method} {c : Code} {D : va_G} {cI cS cF cZ cJ : ClassId} {ad ar : Nat → Nat} {ao n b L : Nat} {xs : Nat → Int32} {kb : Mem → Mem → (Nat → Int64) → Option Int32} {c0 z0 : Nat} (F : CallFix p m c cL_law 7 s #[Value.ref b] wsL_law RL) (hK : va_K D vwCl (ty5 cI cS cF cZ cJ) s) (hZ : zz (fun q : Nat => s.heap.size ≤ q) s s.heap) (hX : va_X b L xs s s.heap) (hbl : b < s.heap.size) (hn : n ≤ 24) (hl : l.stackTraces = false) (hc0 : c0 + 6 ≤ 601024) (hz0 : z0 + 36 ≤ 7293000) {i : Int32} (hkb : ∀ (v u : Mem) (w : Nat → Int64), sk p l e room_1 s m #[Value.ref b] below meth c D (fun q : Nat => s.heap.size ≤ q) 7 (c0 + 6) (z0 + 36) (lQ below b s) (Wc cI cS cF ad n (ow Lr ar (shR cI cZ ar) u ++ [(ao, oc cJ w)]) v) 1454 [(0, .ref b), (1, .ref (ad 0)), (2, .ref (ar 0)), (3, .ref ao), (4, .int i)] [] (kb v u w)) (v u : Mem) (w : Nat → Int64) : sk p l e room_1 s m #[Value.ref b] below meth c D (fun q : Nat => s.heap.size ≤ q) 7 c0 z0 (lQ below b s) (Wc cI cS cF ad n (ow Lr ar (shR cI cZ ar) u ++ [(ao, oc cJ w)]) v) 653 [(0, .ref b), (1, .ref (ad 0)), (2, .ref (ar 0)), (3, .ref ao), (4, .int i)] [] (fLaw_6 kb n L xs v u w i) := by
  have hA : ∀ q : Nat, s.heap.size ≤ q → (fun q : Nat => s.heap.size ≤ q) q := fun _ h => h
  have hbA : ¬ (fun q : Nat => s.heap.size ≤ q) b := Nat.not_le.mpr hbl
  refine sk_eq (K' := gd (inb (i + 1) L) (gd (inb (i + 2) L) (bd (fL_pull n (xs (i + 1).toNatClampNeg) (xs (i + 2).toNatClampNeg) v w) fun x3 q4 => gd (inb (i + 1) L) (gd (inb (i + 2) L) (bd (fX5_pull (xs (i + 1).toNatClampNeg) (xs (i + 2).toNatClampNeg) u) fun x8 v9 => bd (fX5_thrown v9) fun x11 v12 => if x11 = x3 then if x3 = 0 then if (lg_cmp (q4.2 0) (if x8 = 0 then 0 else 1)) = 0 then kb q4.1 v12 q4.2 else some 0 else kb q4.1 v12 q4.2 else some 0))))) rfl ?_
  refine sk_aload_n F dL_law_653 rfl 1 rfl ?_
  refine sk_aload_n F dL_law_654 rfl 0 rfl ?_
  refine sk_iload F dL_law_655 4 rfl ?_
  refine sk_iconst (x := 1) F dL_law_657 (by decide) ?_
  refine sk_iadd F dL_law_658 ?_
  refine sk_sld F hX hbl hbA dL_law_659 (fun h1 => ?_)
  refine sk_aload_n F dL_law_660 rfl 0 rfl ?_
  refine sk_iload F dL_law_661 4 rfl ?_
  refine sk_iconst (x := 2) F dL_law_663 (by decide) ?_
  refine sk_iadd F dL_law_664 ?_
  refine sk_sld F hX hbl hbA dL_law_665 (fun h2 => ?_)
  refine sk_aload_n F dL_law_666 rfl 3 rfl ?_
  refine sk_callJ (As := [.ref (ad 0), .int (xs (i + 1).toNatClampNeg), .int (xs (i + 2).toNatClampNeg), .ref ao]) (rest := []) F hK hA hZ _ (tL_pull hn hl _ _) (vx_cwSW 4 F.2.2.2.2 gL_law_L_pull rfl rfl rfl (by decide +kernel) ⟨Nat.le_of_ble_eq_true rfl, Nat.le_of_ble_eq_true rfl⟩) rfl rfl (Nat.le_of_ble_eq_true rfl) ⟨by show _ ≤ 601024; omega, by show _ ≤ 7293000; omega⟩ dL_law_667 (fun x3 q4 c5 => ?_)
  refine sk_istore F dL_law_670 (by decide) rfl ?_
  refine sk_aload_n F dL_law_672 rfl 3 rfl ?_
  refine sk_aload_n F dL_law_673 rfl 1 rfl ?_
  refine sk_iload F dL_law_674 5 rfl ?_
  refine sk_iconst (x := 1) F dL_law_676 (by decide) ?_
  refine sk_iadd F dL_law_677 ?_
  refine sk_sld F hX hbl hbA dL_law_678 (fun h6 => ?_)
  refine sk_aload_n F dL_law_679 rfl 1 rfl ?_
  refine sk_iload F dL_law_680 5 rfl ?_
  refine sk_iconst (x := 2) F dL_law_682 (by decide) ?_
  refine sk_iadd F dL_law_683 ?_
  refine sk_sld F hX hbl hbA dL_law_684 (fun h7 => ?_)
  refine sk_perm perm3 ?_
  refine sk_callVi (As := [.int (xs (i + 1).toNatClampNeg), .int (xs (i + 2).toNatClampNeg)]) (rest := []) F hK hA hZ _ (tX5_pull _) (cwV 2 F.2.2.2.2 gL_law_X5_pull rfl rfl rfl (by decide +kernel) ⟨Nat.le_of_ble_eq_true rfl, Nat.le_of_ble_eq_true rfl⟩) (rc5 hK) rfl rfl (Nat.le_of_ble_eq_true rfl) ⟨by show _ ≤ 601024; omega, by show _ ≤ 7293000; omega⟩ dL_law_685 (fun x8 v9 c10 => ?_)
  refine sk_perm perm3 ?_
  refine sk_istore F dL_law_688 (by decide) rfl ?_
  refine sk_aload_n F dL_law_690 rfl 4 rfl ?_
  refine sk_perm perm3 ?_
  refine sk_callVi (As := []) (rest := []) F hK hA hZ _ (tX5_thrown _) (cwV 0 F.2.2.2.2 gL_law_X5_thrown rfl rfl rfl (by decide +kernel) ⟨Nat.le_of_ble_eq_true rfl, Nat.le_of_ble_eq_true rfl⟩) (rc5 hK) rfl rfl (Nat.le_of_ble_eq_true rfl) ⟨by show _ ≤ 601024; omega, by show _ ≤ 7293000; omega⟩ dL_law_691 (fun x11 v12 c13 => ?_)
  refine sk_perm perm3 ?_
  refine sk_iload F dL_law_694 1 rfl ?_
  refine sk_icmp_eq F 701 dL_law_696 (by decide) (fun h14 => ?_) (fun h14 => ?_)
  · refine sk_iload F dL_law_701 1 rfl ?_
    refine sk_if_ne F 725 dL_law_703 (by decide) (fun h15 => ?_) (fun h15 => ?_)
    · refine sk_goto F 1454 dL_law_725 (by decide) ?_
      exact sk_lv [2, 3, 4, 5, 6] rfl (sk_widen (by omega) (by omega) (hkb _ _ _))
    · refine sk_aload_n F dL_law_706 rfl 5 rfl ?_
      refine sk_iconst (x := 0) F dL_law_707 (by decide) ?_
      refine sk_lald F hK dL_law_708 ?_
      refine sk_iload F dL_law_709 0 rfl ?_
      refine sk_sell F 718 719 dL_law_711 (by decide) dL_law_714 dL_law_715 (by decide) dL_law_718 rfl ?_
      refine sk_lcmp F dL_law_719 ?_
      refine sk_if_eq F 725 dL_law_720 (by decide) (fun h16 => ?_) (fun h16 => ?_)
      · refine sk_goto F 1454 dL_law_725 (by decide) ?_
        exact sk_lv [2, 3, 4, 5, 6] rfl (sk_widen (by omega) (by omega) (hkb _ _ _))
      · exact sk_law0
  · exact sk_law0
