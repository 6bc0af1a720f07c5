def fLaw (n L : Nat) (xs : Nat → Int32) : Nat → Mem → Mem → (Nat → Int64) → Int32 → Option Int32
  | 0, _, _, _, _ => none
  | fuel + 1, v, u, w, i => if ((nI L) - 7) < i then some 1 else gd (inb i L) (if (xs i.toNatClampNeg &&& 31) = 0 then fLaw_0 (fun v u w => fLaw n L xs fuel v u w (i + 7)) n L xs v u w i else if (xs i.toNatClampNeg &&& 31) = 1 then fLaw_1 (fun v u w => fLaw n L xs fuel v u w (i + 7)) n L xs v u w i else if (xs i.toNatClampNeg &&& 31) = 2 then fLaw_2 (fun v u w => fLaw n L xs fuel v u w (i + 7)) n L xs v u w i else if (xs i.toNatClampNeg &&& 31) = 3 then fLaw_3 (fun v u w => fLaw n L xs fuel v u w (i + 7)) n L xs v u w i else if (xs i.toNatClampNeg &&& 31) = 4 then fLaw_4 (fun v u w => fLaw n L xs fuel v u w (i + 7)) n L xs v u w i else if (xs i.toNatClampNeg &&& 31) = 5 then fLaw_5 (fun v u w => fLaw n L xs fuel v u w (i + 7)) n L xs v u w i else if (xs i.toNatClampNeg &&& 31) = 6 then fLaw_6 (fun v u w => fLaw n L xs fuel v u w (i + 7)) n L xs v u w i else if (xs i.toNatClampNeg &&& 31) = 7 then fLaw_7 (fun v u w => fLaw n L xs fuel v u w (i + 7)) n L xs v u w i else if (xs i.toNatClampNeg &&& 31) = 8 then fLaw_8 (fun v u w => fLaw n L xs fuel v u w (i + 7)) n L xs v u w i else if (xs i.toNatClampNeg &&& 31) = 9 then fLaw_9 (fun v u w => fLaw n L xs fuel v u w (i + 7)) n L xs v u w i else if (xs i.toNatClampNeg &&& 31) = 10 then fLaw_10 (fun v u w => fLaw n L xs fuel v u w (i + 7)) n L xs v u w i else if (xs i.toNatClampNeg &&& 31) = 11 then fLaw_11 (fun v u w => fLaw n L xs fuel v u w (i + 7)) n L xs v u w i else if (xs i.toNatClampNeg &&& 31) = 12 then fLaw_12 (fun v u w => fLaw n L xs fuel v u w (i + 7)) n L xs v u w i else if (xs i.toNatClampNeg &&& 31) = 13 then fLaw_13 (fun v u w => fLaw n L xs fuel v u w (i + 7)) n L xs v u w i else if (xs i.toNatClampNeg &&& 31) = 14 then fLaw_14 (fun v u w => fLaw n L xs fuel v u w (i + 7)) n L xs v u w i else if (xs i.toNatClampNeg &&& 31) = 15 then fLaw_15 (fun v u w => fLaw n L xs fuel v u w (i + 7)) n L xs v u w i else if (xs i.toNatClampNeg &&& 31) = 16 then fLaw_16 (fun v u w => fLaw n L xs fuel v u w (i + 7)) n L xs v u w i else if (xs i.toNatClampNeg &&& 31) = 17 then fLaw_17 (fun v u w => fLaw n L xs fuel v u w (i + 7)) n L xs v u w i else if (xs i.toNatClampNeg &&& 31) = 18 then fLaw_18 (fun v u w => fLaw n L xs fuel v u w (i + 7)) n L xs v u w i else if (xs i.toNatClampNeg &&& 31) = 19 then fLaw_19 (fun v u w => fLaw n L xs fuel v u w (i + 7)) n L xs v u w i else fLaw n L xs fuel v u w (i + 7))
set_option maxRecDepth 100000 in
set_option maxHeartbeats 4000000 in
theorem kLaw {p : Program} {l : Launch} {e : Env} {s : State} {m : MethodId} {below : List Frame} {meth : Method} {c : Code} {D : va_G} {cI cS cF cZ cJ : ClassId} {ad ar : Nat → Nat} {ao n b L : Nat} {xs : Nat → Int32} (F : CallFix p m c cL_law 7 s #[Value.ref b] wsL_law RL) (hK : va_K D vwCl (ty5 cI cS cF cZ cJ) s) (hZ : zz (fun q : Nat => s.heap.size ≤ q) s s.heap) (hX : va_X b L xs s s.heap) (hbl : b < s.heap.size) (hn : n ≤ 24) (hl : l.stackTraces = false) (hr : meth.sig.returnType = ret) (hlocks : meth.locks = false) {c0 z0 : Nat} (hc0 : c0 + 6006 ≤ 601024) (hz0 : z0 + 36036 ≤ 7293000) : ∀ (fuel : Nat) (hfu : fuel ≤ 1000) (v u : Mem) (w : Nat → Int64) (i : Int32), sk p l e room_1 s m #[Value.ref b] below meth c D (fun q : Nat => s.heap.size ≤ q) 7 (c0 + 6 * (1000 - fuel)) (z0 + 36 * (1000 - fuel)) (lQ below b s) (Wc cI cS cF ad n (ow Lr ar (shR cI cZ ar) u ++ [(ao, oc cJ w)]) v) 53 [(0, .ref b), (1, .ref (ad 0)), (2, .ref (ar 0)), (3, .ref ao), (4, .int i)] [] (fLaw n L xs fuel v u w i) := by
  have hA : ∀ q : Nat, s.heap.size ≤ q → (fun q : Nat => s.heap.size ≤ q) q := fun _ h => h
  have hbA : ¬ (fun q : Nat => s.heap.size ≤ q) b := Nat.not_le.mpr hbl
  intro fuel
  induction fuel with
  | zero => intro hfu v u w i; exact sk_none
  | succ fuel ih =>
    intro hfu v u w i
    have hkb : ∀ (v u : Mem) (w : Nat → Int64), sk p l e room_1 s m #[Value.ref b] below meth c D (fun q : Nat => s.heap.size ≤ q) 7 (c0 + 6 * (1000 - (fuel + 1)) + 6) (z0 + 36 * (1000 - (fuel + 1)) + 36) (lQ below b s) (Wc cI cS cF ad n (ow Lr ar (shR cI cZ ar) u ++ [(ao, oc cJ w)]) v) 1454 [(0, .ref b), (1, .ref (ad 0)), (2, .ref (ar 0)), (3, .ref ao), (4, .int i)] [] (fLaw n L xs fuel v u w (i + 7)) := by
      intro v u w
      refine sk_iinc (y := i + 7) F dL_law_1454 4 rfl rfl (by decide) rfl ?_
      refine sk_goto F 53 dL_law_1457 (by decide) ?_
      refine sk_widen (c1 := c0 + 6 * (1000 - fuel)) (z1 := z0 + 36 * (1000 - fuel)) (by omega) (by omega) ?_
      exact sk_lv [1, 2, 3, 4, 0] rfl (ih (by omega) v u w (i + 7))
    refine sk_eq (K' := if ((nI L) - 7) < i then some 1 else gd (inb i L) (if (xs i.toNatClampNeg &&& 31) = 0 then fLaw_0 (fun v u w => fLaw n L xs fuel v u w (i + 7)) n L xs v u w i else if (xs i.toNatClampNeg &&& 31) = 1 then fLaw_1 (fun v u w => fLaw n L xs fuel v u w (i + 7)) n L xs v u w i else if (xs i.toNatClampNeg &&& 31) = 2 then fLaw_2 (fun v u w => fLaw n L xs fuel v u w (i + 7)) n L xs v u w i else if (xs i.toNatClampNeg &&& 31) = 3 then fLaw_3 (fun v u w => fLaw n L xs fuel v u w (i + 7)) n L xs v u w i else if (xs i.toNatClampNeg &&& 31) = 4 then fLaw_4 (fun v u w => fLaw n L xs fuel v u w (i + 7)) n L xs v u w i else if (xs i.toNatClampNeg &&& 31) = 5 then fLaw_5 (fun v u w => fLaw n L xs fuel v u w (i + 7)) n L xs v u w i else if (xs i.toNatClampNeg &&& 31) = 6 then fLaw_6 (fun v u w => fLaw n L xs fuel v u w (i + 7)) n L xs v u w i else if (xs i.toNatClampNeg &&& 31) = 7 then fLaw_7 (fun v u w => fLaw n L xs fuel v u w (i + 7)) n L xs v u w i else if (xs i.toNatClampNeg &&& 31) = 8 then fLaw_8 (fun v u w => fLaw n L xs fuel v u w (i + 7)) n L xs v u w i else if (xs i.toNatClampNeg &&& 31) = 9 then fLaw_9 (fun v u w => fLaw n L xs fuel v u w (i + 7)) n L xs v u w i else if (xs i.toNatClampNeg &&& 31) = 10 then fLaw_10 (fun v u w => fLaw n L xs fuel v u w (i + 7)) n L xs v u w i else if (xs i.toNatClampNeg &&& 31) = 11 then fLaw_11 (fun v u w => fLaw n L xs fuel v u w (i + 7)) n L xs v u w i else if (xs i.toNatClampNeg &&& 31) = 12 then fLaw_12 (fun v u w => fLaw n L xs fuel v u w (i + 7)) n L xs v u w i else if (xs i.toNatClampNeg &&& 31) = 13 then fLaw_13 (fun v u w => fLaw n L xs fuel v u w (i + 7)) n L xs v u w i else if (xs i.toNatClampNeg &&& 31) = 14 then fLaw_14 (fun v u w => fLaw n L xs fuel v u w (i + 7)) n L xs v u w i else if (xs i.toNatClampNeg &&& 31) = 15 then fLaw_15 (fun v u w => fLaw n L xs fuel v u w (i + 7)) n L xs v u w i else if (xs i.toNatClampNeg &&& 31) = 16 then fLaw_16 (fun v u w => fLaw n L xs fuel v u w (i + 7)) n L xs v u w i else if (xs i.toNatClampNeg &&& 31) = 17 then fLaw_17 (fun v u w => fLaw n L xs fuel v u w (i + 7)) n L xs v u w i else if (xs i.toNatClampNeg &&& 31) = 18 then fLaw_18 (fun v u w => fLaw n L xs fuel v u w (i + 7)) n L xs v u w i else if (xs i.toNatClampNeg &&& 31) = 19 then fLaw_19 (fun v u w => fLaw n L xs fuel v u w (i + 7)) n L xs v u w i else fLaw n L xs fuel v u w (i + 7))) rfl ?_
    refine sk_iload F dL_law_53 4 rfl ?_
    refine sk_aload_n F dL_law_55 rfl 0 rfl ?_
    refine sk_slen F hX hbl hbA dL_law_56 ?_
    refine sk_bipush (x := 7) F dL_law_57 (by decide) ?_
    refine sk_isub F dL_law_59 ?_
    refine sk_icmp_gt F 1460 dL_law_60 (by decide) (fun h1 => ?_) (fun h1 => ?_)
    · refine sk_iconst (x := 1) F dL_law_1460 (by decide) ?_
      exact sk_law1 F.1 F.2.1 hr hlocks (by omega) (by omega) dL_law_1461
    · refine sk_aload_n F dL_law_63 rfl 0 rfl ?_
      refine sk_iload F dL_law_64 4 rfl ?_
      refine sk_sld F hX hbl hbA dL_law_66 (fun h2 => ?_)
      refine sk_bipush (x := 31) F dL_law_67 (by decide) ?_
      refine sk_iand F dL_law_69 ?_
      refine sk_tcase F 0 164 dL_law_70 (by decide) (by decide) rfl (by decide) (fun g0 => ?_) (fun g0 => ?_)
      · exact kLaw_0 F hK hZ hX hbl hn hl (by omega) (by omega) hkb v u w
      · skip
        refine sk_tcase F 1 232 dL_law_70 (by decide) (by decide) rfl (by decide) (fun g1 => ?_) (fun g1 => ?_)
        · exact kLaw_1 F hK hZ hX hbl hn hl (by omega) (by omega) hkb v u w
        · skip
          refine sk_tcase F 2 312 dL_law_70 (by decide) (by decide) rfl (by decide) (fun g2 => ?_) (fun g2 => ?_)
          · exact kLaw_2 F hK hZ hX hbl hn hl (by omega) (by omega) hkb v u w
          · skip
            refine sk_tcase F 3 410 dL_law_70 (by decide) (by decide) rfl (by decide) (fun g3 => ?_) (fun g3 => ?_)
            · exact kLaw_3 F hK hZ hX hbl hn hl (by omega) (by omega) hkb v u w
            · skip
              refine sk_tcase F 4 470 dL_law_70 (by decide) (by decide) rfl (by decide) (fun g4 => ?_) (fun g4 => ?_)
              · exact kLaw_4 F hK hZ hX hbl hn hl (by omega) (by omega) hkb v u w
              · skip
                refine sk_tcase F 5 550 dL_law_70 (by decide) (by decide) rfl (by decide) (fun g5 => ?_) (fun g5 => ?_)
                · exact kLaw_5 F hK hZ hX hbl hn hl (by omega) (by omega) hkb v u w
                · skip
                  refine sk_tcase F 6 653 dL_law_70 (by decide) (by decide) rfl (by decide) (fun g6 => ?_) (fun g6 => ?_)
                  · exact kLaw_6 F hK hZ hX hbl hn hl (by omega) (by omega) hkb v u w
                  · skip
                    refine sk_tcase F 7 728 dL_law_70 (by decide) (by decide) rfl (by decide) (fun g7 => ?_) (fun g7 => ?_)
                    · exact kLaw_7 F hK hZ hX hbl hn hl (by omega) (by omega) hkb v u w
                    · skip
                      refine sk_tcase F 8 791 dL_law_70 (by decide) (by decide) rfl (by decide) (fun g8 => ?_) (fun g8 => ?_)
                      · exact kLaw_8 F hK hZ hX hbl hn hl (by omega) (by omega) hkb v u w
                      · skip
                        refine sk_tcase F 9 854 dL_law_70 (by decide) (by decide) rfl (by decide) (fun g9 => ?_) (fun g9 => ?_)
                        · exact kLaw_9 F hK hZ hX hbl hn hl (by omega) (by omega) hkb v u w
                        · skip
                          refine sk_tcase F 10 914 dL_law_70 (by decide) (by decide) rfl (by decide) (fun g10 => ?_) (fun g10 => ?_)
                          · exact kLaw_10 F hK hZ hX hbl hn hl (by omega) (by omega) hkb v u w
                          · skip
                            refine sk_tcase F 11 1005 dL_law_70 (by decide) (by decide) rfl (by decide) (fun g11 => ?_) (fun g11 => ?_)
                            · exact kLaw_11 F hK hZ hX hbl hn hl (by omega) (by omega) hkb v u w
                            · skip
                              refine sk_tcase F 12 1061 dL_law_70 (by decide) (by decide) rfl (by decide) (fun g12 => ?_) (fun g12 => ?_)
                              · exact kLaw_12 F hK hZ hX hbl hn hl (by omega) (by omega) hkb v u w
                              · skip
                                refine sk_tcase F 13 1136 dL_law_70 (by decide) (by decide) rfl (by decide) (fun g13 => ?_) (fun g13 => ?_)
                                · exact kLaw_13 F hK hZ hX hbl hn hl (by omega) (by omega) hkb v u w
                                · skip
                                  refine sk_tcase F 14 1211 dL_law_70 (by decide) (by decide) rfl (by decide) (fun g14 => ?_) (fun g14 => ?_)
                                  · exact kLaw_14 F hK hZ hX hbl hn hl (by omega) (by omega) hkb v u w
                                  · skip
                                    refine sk_tcase F 15 1267 dL_law_70 (by decide) (by decide) rfl (by decide) (fun g15 => ?_) (fun g15 => ?_)
                                    · exact kLaw_15 F hK hZ hX hbl hn hl (by omega) (by omega) hkb v u w
                                    · skip
                                      refine sk_tcase F 16 1335 dL_law_70 (by decide) (by decide) rfl (by decide) (fun g16 => ?_) (fun g16 => ?_)
                                      · exact kLaw_16 F hK hZ hX hbl hn hl (by omega) (by omega) hkb v u w
                                      · skip
                                        refine sk_tcase F 17 1415 dL_law_70 (by decide) (by decide) rfl (by decide) (fun g17 => ?_) (fun g17 => ?_)
                                        · exact kLaw_17 F hK hZ hX hbl hn hl (by omega) (by omega) hkb v u w
                                        · skip
                                          refine sk_tcase F 18 1428 dL_law_70 (by decide) (by decide) rfl (by decide) (fun g18 => ?_) (fun g18 => ?_)
                                          · exact kLaw_18 F hK hZ hX hbl hn hl (by omega) (by omega) hkb v u w
                                          · skip
                                            refine sk_tcase F 19 1441 dL_law_70 (by decide) (by decide) rfl (by decide) (fun g19 => ?_) (fun g19 => ?_)
                                            · exact kLaw_19 F hK hZ hX hbl hn hl (by omega) (by omega) hkb v u w
                                            · skip
                                              refine sk_tdef F 1454 dL_law_70 (ts_out (m := 19) (by decide) (fun j hj => match j, hj with | 0, _ => g0 | 1, _ => g1 | 2, _ => g2 | 3, _ => g3 | 4, _ => g4 | 5, _ => g5 | 6, _ => g6 | 7, _ => g7 | 8, _ => g8 | 9, _ => g9 | 10, _ => g10 | 11, _ => g11 | 12, _ => g12 | 13, _ => g13 | 14, _ => g14 | 15, _ => g15 | 16, _ => g16 | 17, _ => g17 | 18, _ => g18 | 19, _ => g19 | k + 20, hj => absurd hj (by omega))) (by decide) ?_
                                              exact sk_widen (by omega) (by omega) (hkb v u w)
