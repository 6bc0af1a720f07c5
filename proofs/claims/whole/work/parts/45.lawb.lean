def fLaw_7 (kb : Mem → Mem → (Nat → Int64) → Option Int32) (n L : Nat) (xs : Nat → Int32) (v u : Mem) (w : Nat → Int64) (i : Int32) : Option Int32 := gd (inb (i + 1) L) (bd (fL_confirm n (xs (i + 1).toNatClampNeg) v w) fun x2 q3 => gd (inb (i + 1) L) (bd (fX5_confirm (xs (i + 1).toNatClampNeg) u) fun x6 v7 => bd (fX5_thrown v7) fun x9 v10 => if x9 = x2 then if x2 = 0 then if (lg_cmp (q3.2 0) (if x6 = 0 then 0 else 1)) = 0 then kb q3.1 v10 q3.2 else some 0 else kb q3.1 v10 q3.2 else some 0))
set_option maxRecDepth 100000 in
set_option maxHeartbeats 4000000 in
theorem kLaw_7 {p : Program} {l : Launch} {e : Env} {s : State} {m : MethodId} {below : List Frame} {meth : Method} {c : Code} {D : va_G} {cI cS cF cZ cJ : ClassId} {ad ar : Nat → Nat} {ao n b L : Nat} {xs : Nat → Int32} {kb : Mem → Mem → (Nat → Int64) → Option Int32} {c0 z0 : Nat} (F : CallFix p m c cL_law 7 s #[Value.ref b] wsL_law RL) (hK : va_K D vwCl (ty5 cI cS cF cZ cJ) s) (hZ : zz (fun q : Nat => s.heap.size ≤ q) s s.heap) (hX : va_X b L xs s s.heap) (hbl : b < s.heap.size) (hn : n ≤ 24) (hl : l.stackTraces = false) (hc0 : c0 + 6 ≤ 601024) (hz0 : z0 + 36 ≤ 7293000) {i : Int32} (hkb : ∀ (v u : Mem) (w : Nat → Int64), sk p l e room_1 s m #[Value.ref b] below meth c D (fun q : Nat => s.heap.size ≤ q) 7 (c0 + 6) (z0 + 36) (lQ below b s) (Wc cI cS cF ad n (ow Lr ar (shR cI cZ ar) u ++ [(ao, oc cJ w)]) v) 1454 [(0, .ref b), (1, .ref (ad 0)), (2, .ref (ar 0)), (3, .ref ao), (4, .int i)] [] (kb v u w)) (v u : Mem) (w : Nat → Int64) : sk p l e room_1 s m #[Value.ref b] below meth c D (fun q : Nat => s.heap.size ≤ q) 7 c0 z0 (lQ below b s) (Wc cI cS cF ad n (ow Lr ar (shR cI cZ ar) u ++ [(ao, oc cJ w)]) v) 728 [(0, .ref b), (1, .ref (ad 0)), (2, .ref (ar 0)), (3, .ref ao), (4, .int i)] [] (fLaw_7 kb n L xs v u w i) := by
  have hA : ∀ q : Nat, s.heap.size ≤ q → (fun q : Nat => s.heap.size ≤ q) q := fun _ h => h
  have hbA : ¬ (fun q : Nat => s.heap.size ≤ q) b := Nat.not_le.mpr hbl
  refine sk_eq (K' := gd (inb (i + 1) L) (bd (fL_confirm n (xs (i + 1).toNatClampNeg) v w) fun x2 q3 => gd (inb (i + 1) L) (bd (fX5_confirm (xs (i + 1).toNatClampNeg) u) fun x6 v7 => bd (fX5_thrown v7) fun x9 v10 => if x9 = x2 then if x2 = 0 then if (lg_cmp (q3.2 0) (if x6 = 0 then 0 else 1)) = 0 then kb q3.1 v10 q3.2 else some 0 else kb q3.1 v10 q3.2 else some 0))) rfl ?_
  refine sk_aload_n F dL_law_728 rfl 1 rfl ?_
  refine sk_aload_n F dL_law_729 rfl 0 rfl ?_
  refine sk_iload F dL_law_730 4 rfl ?_
  refine sk_iconst (x := 1) F dL_law_732 (by decide) ?_
  refine sk_iadd F dL_law_733 ?_
  refine sk_sld F hX hbl hbA dL_law_734 (fun h1 => ?_)
  refine sk_aload_n F dL_law_735 rfl 3 rfl ?_
  refine sk_callJ (As := [.ref (ad 0), .int (xs (i + 1).toNatClampNeg), .ref ao]) (rest := []) F hK hA hZ _ (tL_confirm hn hl _ _) (vx_cwSW 3 F.2.2.2.2 gL_law_L_confirm rfl rfl rfl (by decide +kernel) ⟨Nat.le_of_ble_eq_true rfl, Nat.le_of_ble_eq_true rfl⟩) rfl rfl (Nat.le_of_ble_eq_true rfl) ⟨by show _ ≤ 601024; omega, by show _ ≤ 7293000; omega⟩ dL_law_736 (fun x2 q3 c4 => ?_)
  refine sk_istore F dL_law_739 (by decide) rfl ?_
  refine sk_aload_n F dL_law_741 rfl 3 rfl ?_
  refine sk_aload_n F dL_law_742 rfl 1 rfl ?_
  refine sk_iload F dL_law_743 5 rfl ?_
  refine sk_iconst (x := 1) F dL_law_745 (by decide) ?_
  refine sk_iadd F dL_law_746 ?_
  refine sk_sld F hX hbl hbA dL_law_747 (fun h5 => ?_)
  refine sk_perm perm3 ?_
  refine sk_callVi (As := [.int (xs (i + 1).toNatClampNeg)]) (rest := []) F hK hA hZ _ (tX5_confirm _) (cwV 1 F.2.2.2.2 gL_law_X5_confirm rfl rfl rfl (by decide +kernel) ⟨Nat.le_of_ble_eq_true rfl, Nat.le_of_ble_eq_true rfl⟩) (rc5 hK) rfl rfl (Nat.le_of_ble_eq_true rfl) ⟨by show _ ≤ 601024; omega, by show _ ≤ 7293000; omega⟩ dL_law_748 (fun x6 v7 c8 => ?_)
  refine sk_perm perm3 ?_
  refine sk_istore F dL_law_751 (by decide) rfl ?_
  refine sk_aload_n F dL_law_753 rfl 4 rfl ?_
  refine sk_perm perm3 ?_
  refine sk_callVi (As := []) (rest := []) F hK hA hZ _ (tX5_thrown _) (cwV 0 F.2.2.2.2 gL_law_X5_thrown rfl rfl rfl (by decide +kernel) ⟨Nat.le_of_ble_eq_true rfl, Nat.le_of_ble_eq_true rfl⟩) (rc5 hK) rfl rfl (Nat.le_of_ble_eq_true rfl) ⟨by show _ ≤ 601024; omega, by show _ ≤ 7293000; omega⟩ dL_law_754 (fun x9 v10 c11 => ?_)
  refine sk_perm perm3 ?_
  refine sk_iload F dL_law_757 1 rfl ?_
  refine sk_icmp_eq F 764 dL_law_759 (by decide) (fun h12 => ?_) (fun h12 => ?_)
  · refine sk_iload F dL_law_764 1 rfl ?_
    refine sk_if_ne F 788 dL_law_766 (by decide) (fun h13 => ?_) (fun h13 => ?_)
    · refine sk_goto F 1454 dL_law_788 (by decide) ?_
      exact sk_lv [2, 3, 4, 5, 6] rfl (sk_widen (by omega) (by omega) (hkb _ _ _))
    · refine sk_aload_n F dL_law_769 rfl 5 rfl ?_
      refine sk_iconst (x := 0) F dL_law_770 (by decide) ?_
      refine sk_lald F hK dL_law_771 ?_
      refine sk_iload F dL_law_772 0 rfl ?_
      refine sk_sell F 781 782 dL_law_774 (by decide) dL_law_777 dL_law_778 (by decide) dL_law_781 rfl ?_
      refine sk_lcmp F dL_law_782 ?_
      refine sk_if_eq F 788 dL_law_783 (by decide) (fun h14 => ?_) (fun h14 => ?_)
      · refine sk_goto F 1454 dL_law_788 (by decide) ?_
        exact sk_lv [2, 3, 4, 5, 6] rfl (sk_widen (by omega) (by omega) (hkb _ _ _))
      · exact sk_law0
  · exact sk_law0
def fLaw_8 (kb : Mem → Mem → (Nat → Int64) → Option Int32) (n L : Nat) (xs : Nat → Int32) (v u : Mem) (w : Nat → Int64) (i : Int32) : Option Int32 := gd (inb (i + 1) L) (bd (fL_reset n (xs (i + 1).toNatClampNeg) v w) fun x2 q3 => gd (inb (i + 1) L) (bd (fX5_reset (xs (i + 1).toNatClampNeg) u) fun x6 v7 => bd (fX5_thrown v7) fun x9 v10 => if x9 = x2 then if x2 = 0 then if (lg_cmp (q3.2 0) (if x6 = 0 then 0 else 1)) = 0 then kb q3.1 v10 q3.2 else some 0 else kb q3.1 v10 q3.2 else some 0))
set_option maxRecDepth 100000 in
set_option maxHeartbeats 4000000 in
theorem kLaw_8 {p : Program} {l : Launch} {e : Env} {s : State} {m : MethodId} {below : List Frame} {meth : Method} {c : Code} {D : va_G} {cI cS cF cZ cJ : ClassId} {ad ar : Nat → Nat} {ao n b L : Nat} {xs : Nat → Int32} {kb : Mem → Mem → (Nat → Int64) → Option Int32} {c0 z0 : Nat} (F : CallFix p m c cL_law 7 s #[Value.ref b] wsL_law RL) (hK : va_K D vwCl (ty5 cI cS cF cZ cJ) s) (hZ : zz (fun q : Nat => s.heap.size ≤ q) s s.heap) (hX : va_X b L xs s s.heap) (hbl : b < s.heap.size) (hn : n ≤ 24) (hl : l.stackTraces = false) (hc0 : c0 + 6 ≤ 601024) (hz0 : z0 + 36 ≤ 7293000) {i : Int32} (hkb : ∀ (v u : Mem) (w : Nat → Int64), sk p l e room_1 s m #[Value.ref b] below meth c D (fun q : Nat => s.heap.size ≤ q) 7 (c0 + 6) (z0 + 36) (lQ below b s) (Wc cI cS cF ad n (ow Lr ar (shR cI cZ ar) u ++ [(ao, oc cJ w)]) v) 1454 [(0, .ref b), (1, .ref (ad 0)), (2, .ref (ar 0)), (3, .ref ao), (4, .int i)] [] (kb v u w)) (v u : Mem) (w : Nat → Int64) : sk p l e room_1 s m #[Value.ref b] below meth c D (fun q : Nat => s.heap.size ≤ q) 7 c0 z0 (lQ below b s) (Wc cI cS cF ad n (ow Lr ar (shR cI cZ ar) u ++ [(ao, oc cJ w)]) v) 791 [(0, .ref b), (1, .ref (ad 0)), (2, .ref (ar 0)), (3, .ref ao), (4, .int i)] [] (fLaw_8 kb n L xs v u w i) := by
  have hA : ∀ q : Nat, s.heap.size ≤ q → (fun q : Nat => s.heap.size ≤ q) q := fun _ h => h
  have hbA : ¬ (fun q : Nat => s.heap.size ≤ q) b := Nat.not_le.mpr hbl
  refine sk_eq (K' := gd (inb (i + 1) L) (bd (fL_reset n (xs (i + 1).toNatClampNeg) v w) fun x2 q3 => gd (inb (i + 1) L) (bd (fX5_reset (xs (i + 1).toNatClampNeg) u) fun x6 v7 => bd (fX5_thrown v7) fun x9 v10 => if x9 = x2 then if x2 = 0 then if (lg_cmp (q3.2 0) (if x6 = 0 then 0 else 1)) = 0 then kb q3.1 v10 q3.2 else some 0 else kb q3.1 v10 q3.2 else some 0))) rfl ?_
  refine sk_aload_n F dL_law_791 rfl 1 rfl ?_
  refine sk_aload_n F dL_law_792 rfl 0 rfl ?_
  refine sk_iload F dL_law_793 4 rfl ?_
  refine sk_iconst (x := 1) F dL_law_795 (by decide) ?_
  refine sk_iadd F dL_law_796 ?_
  refine sk_sld F hX hbl hbA dL_law_797 (fun h1 => ?_)
  refine sk_aload_n F dL_law_798 rfl 3 rfl ?_
  refine sk_callJ (As := [.ref (ad 0), .int (xs (i + 1).toNatClampNeg), .ref ao]) (rest := []) F hK hA hZ _ (tL_reset hn hl _ _) (vx_cwSW 3 F.2.2.2.2 gL_law_L_reset rfl rfl rfl (by decide +kernel) ⟨Nat.le_of_ble_eq_true rfl, Nat.le_of_ble_eq_true rfl⟩) rfl rfl (Nat.le_of_ble_eq_true rfl) ⟨by show _ ≤ 601024; omega, by show _ ≤ 7293000; omega⟩ dL_law_799 (fun x2 q3 c4 => ?_)
  refine sk_istore F dL_law_802 (by decide) rfl ?_
  refine sk_aload_n F dL_law_804 rfl 3 rfl ?_
  refine sk_aload_n F dL_law_805 rfl 1 rfl ?_
  refine sk_iload F dL_law_806 5 rfl ?_
  refine sk_iconst (x := 1) F dL_law_808 (by decide) ?_
  refine sk_iadd F dL_law_809 ?_
  refine sk_sld F hX hbl hbA dL_law_810 (fun h5 => ?_)
  refine sk_perm perm3 ?_
  refine sk_callVi (As := [.int (xs (i + 1).toNatClampNeg)]) (rest := []) F hK hA hZ _ (tX5_reset _) (cwV 1 F.2.2.2.2 gL_law_X5_reset rfl rfl rfl (by decide +kernel) ⟨Nat.le_of_ble_eq_true rfl, Nat.le_of_ble_eq_true rfl⟩) (rc5 hK) rfl rfl (Nat.le_of_ble_eq_true rfl) ⟨by show _ ≤ 601024; omega, by show _ ≤ 7293000; omega⟩ dL_law_811 (fun x6 v7 c8 => ?_)
  refine sk_perm perm3 ?_
  refine sk_istore F dL_law_814 (by decide) rfl ?_
  refine sk_aload_n F dL_law_816 rfl 4 rfl ?_
  refine sk_perm perm3 ?_
  refine sk_callVi (As := []) (rest := []) F hK hA hZ _ (tX5_thrown _) (cwV 0 F.2.2.2.2 gL_law_X5_thrown rfl rfl rfl (by decide +kernel) ⟨Nat.le_of_ble_eq_true rfl, Nat.le_of_ble_eq_true rfl⟩) (rc5 hK) rfl rfl (Nat.le_of_ble_eq_true rfl) ⟨by show _ ≤ 601024; omega, by show _ ≤ 7293000; omega⟩ dL_law_817 (fun x9 v10 c11 => ?_)
  refine sk_perm perm3 ?_
  refine sk_iload F dL_law_820 1 rfl ?_
  refine sk_icmp_eq F 827 dL_law_822 (by decide) (fun h12 => ?_) (fun h12 => ?_)
  · refine sk_iload F dL_law_827 1 rfl ?_
    refine sk_if_ne F 851 dL_law_829 (by decide) (fun h13 => ?_) (fun h13 => ?_)
    · refine sk_goto F 1454 dL_law_851 (by decide) ?_
      exact sk_lv [2, 3, 4, 5, 6] rfl (sk_widen (by omega) (by omega) (hkb _ _ _))
    · refine sk_aload_n F dL_law_832 rfl 5 rfl ?_
      refine sk_iconst (x := 0) F dL_law_833 (by decide) ?_
      refine sk_lald F hK dL_law_834 ?_
      refine sk_iload F dL_law_835 0 rfl ?_
      refine sk_sell F 844 845 dL_law_837 (by decide) dL_law_840 dL_law_841 (by decide) dL_law_844 rfl ?_
      refine sk_lcmp F dL_law_845 ?_
      refine sk_if_eq F 851 dL_law_846 (by decide) (fun h14 => ?_) (fun h14 => ?_)
      · refine sk_goto F 1454 dL_law_851 (by decide) ?_
        exact sk_lv [2, 3, 4, 5, 6] rfl (sk_widen (by omega) (by omega) (hkb _ _ _))
      · exact sk_law0
  · exact sk_law0
def fLaw_9 (kb : Mem → Mem → (Nat → Int64) → Option Int32) (n L : Nat) (xs : Nat → Int32) (v u : Mem) (w : Nat → Int64) (i : Int32) : Option Int32 := gd (inb (i + 1) L) (gd (inb (i + 2) L) (gd (inb (i + 3) L) (bd (fL_wish (xs (i + 1).toNatClampNeg) (xs (i + 2).toNatClampNeg) (xs (i + 3).toNatClampNeg) v w) fun x4 q5 => gd (inb (i + 1) L) (gd (inb (i + 2) L) (gd (inb (i + 3) L) ((fX5_wish (xs (i + 1).toNatClampNeg) (xs (i + 2).toNatClampNeg) (xs (i + 3).toNatClampNeg) u).bind fun v11 => bd (fX5_thrown v11) fun x13 v14 => if x13 = x4 then kb q5.1 v14 q5.2 else some 0))))))
set_option maxRecDepth 100000 in
set_option maxHeartbeats 4000000 in
theorem kLaw_9 {p : Program} {l : Launch} {e : Env} {s : State} {m : MethodId} {below : List Frame} {meth : Method} {c : Code} {D : va_G} {cI cS cF cZ cJ : ClassId} {ad ar : Nat → Nat} {ao n b L : Nat} {xs : Nat → Int32} {kb : Mem → Mem → (Nat → Int64) → Option Int32} {c0 z0 : Nat} (F : CallFix p m c cL_law 7 s #[Value.ref b] wsL_law RL) (hK : va_K D vwCl (ty5 cI cS cF cZ cJ) s) (hZ : zz (fun q : Nat => s.heap.size ≤ q) s s.heap) (hX : va_X b L xs s s.heap) (hbl : b < s.heap.size) (hn : n ≤ 24) (hl : l.stackTraces = false) (hc0 : c0 + 6 ≤ 601024) (hz0 : z0 + 36 ≤ 7293000) {i : Int32} (hkb : ∀ (v u : Mem) (w : Nat → Int64), sk p l e room_1 s m #[Value.ref b] below meth c D (fun q : Nat => s.heap.size ≤ q) 7 (c0 + 6) (z0 + 36) (lQ below b s) (Wc cI cS cF ad n (ow Lr ar (shR cI cZ ar) u ++ [(ao, oc cJ w)]) v) 1454 [(0, .ref b), (1, .ref (ad 0)), (2, .ref (ar 0)), (3, .ref ao), (4, .int i)] [] (kb v u w)) (v u : Mem) (w : Nat → Int64) : sk p l e room_1 s m #[Value.ref b] below meth c D (fun q : Nat => s.heap.size ≤ q) 7 c0 z0 (lQ below b s) (Wc cI cS cF ad n (ow Lr ar (shR cI cZ ar) u ++ [(ao, oc cJ w)]) v) 854 [(0, .ref b), (1, .ref (ad 0)), (2, .ref (ar 0)), (3, .ref ao), (4, .int i)] [] (fLaw_9 kb n L xs v u w i) := by
  have hA : ∀ q : Nat, s.heap.size ≤ q → (fun q : Nat => s.heap.size ≤ q) q := fun _ h => h
  have hbA : ¬ (fun q : Nat => s.heap.size ≤ q) b := Nat.not_le.mpr hbl
  refine sk_eq (K' := gd (inb (i + 1) L) (gd (inb (i + 2) L) (gd (inb (i + 3) L) (bd (fL_wish (xs (i + 1).toNatClampNeg) (xs (i + 2).toNatClampNeg) (xs (i + 3).toNatClampNeg) v w) fun x4 q5 => gd (inb (i + 1) L) (gd (inb (i + 2) L) (gd (inb (i + 3) L) ((fX5_wish (xs (i + 1).toNatClampNeg) (xs (i + 2).toNatClampNeg) (xs (i + 3).toNatClampNeg) u).bind fun v11 => bd (fX5_thrown v11) fun x13 v14 => if x13 = x4 then kb q5.1 v14 q5.2 else some 0))))))) rfl ?_
  refine sk_aload_n F dL_law_854 rfl 1 rfl ?_
  refine sk_aload_n F dL_law_855 rfl 0 rfl ?_
  refine sk_iload F dL_law_856 4 rfl ?_
  refine sk_iconst (x := 1) F dL_law_858 (by decide) ?_
  refine sk_iadd F dL_law_859 ?_
  refine sk_sld F hX hbl hbA dL_law_860 (fun h1 => ?_)
  refine sk_aload_n F dL_law_861 rfl 0 rfl ?_
  refine sk_iload F dL_law_862 4 rfl ?_
  refine sk_iconst (x := 2) F dL_law_864 (by decide) ?_
  refine sk_iadd F dL_law_865 ?_
  refine sk_sld F hX hbl hbA dL_law_866 (fun h2 => ?_)
  refine sk_aload_n F dL_law_867 rfl 0 rfl ?_
  refine sk_iload F dL_law_868 4 rfl ?_
  refine sk_iconst (x := 3) F dL_law_870 (by decide) ?_
  refine sk_iadd F dL_law_871 ?_
  refine sk_sld F hX hbl hbA dL_law_872 (fun h3 => ?_)
  refine sk_callJ (As := [.ref (ad 0), .int (xs (i + 1).toNatClampNeg), .int (xs (i + 2).toNatClampNeg), .int (xs (i + 3).toNatClampNeg)]) (rest := []) F hK hA hZ _ (tL_wish hn hl _ _) (vx_cwSW 4 F.2.2.2.2 gL_law_L_wish rfl rfl rfl (by decide +kernel) ⟨Nat.le_of_ble_eq_true rfl, Nat.le_of_ble_eq_true rfl⟩) rfl rfl (Nat.le_of_ble_eq_true rfl) ⟨by show _ ≤ 601024; omega, by show _ ≤ 7293000; omega⟩ dL_law_873 (fun x4 q5 c6 => ?_)
  refine sk_istore F dL_law_876 (by decide) rfl ?_
  refine sk_aload_n F dL_law_878 rfl 3 rfl ?_
  refine sk_aload_n F dL_law_879 rfl 1 rfl ?_
  refine sk_iload F dL_law_880 5 rfl ?_
  refine sk_iconst (x := 1) F dL_law_882 (by decide) ?_
  refine sk_iadd F dL_law_883 ?_
  refine sk_sld F hX hbl hbA dL_law_884 (fun h7 => ?_)
  refine sk_aload_n F dL_law_885 rfl 1 rfl ?_
  refine sk_iload F dL_law_886 5 rfl ?_
  refine sk_iconst (x := 2) F dL_law_888 (by decide) ?_
  refine sk_iadd F dL_law_889 ?_
  refine sk_sld F hX hbl hbA dL_law_890 (fun h8 => ?_)
  refine sk_aload_n F dL_law_891 rfl 1 rfl ?_
  refine sk_iload F dL_law_892 5 rfl ?_
  refine sk_iconst (x := 3) F dL_law_894 (by decide) ?_
  refine sk_iadd F dL_law_895 ?_
  refine sk_sld F hX hbl hbA dL_law_896 (fun h9 => ?_)
  refine sk_perm perm3 ?_
  refine sk_callVv (As := [.int (xs (i + 1).toNatClampNeg), .int (xs (i + 2).toNatClampNeg), .int (xs (i + 3).toNatClampNeg)]) (rest := []) F hK hA hZ _ (tX5_wish _) (cwV 3 F.2.2.2.2 gL_law_X5_wish rfl rfl rfl (by decide +kernel) ⟨Nat.le_of_ble_eq_true rfl, Nat.le_of_ble_eq_true rfl⟩) (rc5 hK) rfl rfl (Nat.le_of_ble_eq_true rfl) ⟨by show _ ≤ 601024; omega, by show _ ≤ 7293000; omega⟩ dL_law_897 (fun v11 c12 => ?_)
  refine sk_perm perm3 ?_
  refine sk_aload_n F dL_law_900 rfl 3 rfl ?_
  refine sk_perm perm3 ?_
  refine sk_callVi (As := []) (rest := []) F hK hA hZ _ (tX5_thrown _) (cwV 0 F.2.2.2.2 gL_law_X5_thrown rfl rfl rfl (by decide +kernel) ⟨Nat.le_of_ble_eq_true rfl, Nat.le_of_ble_eq_true rfl⟩) (rc5 hK) rfl rfl (Nat.le_of_ble_eq_true rfl) ⟨by show _ ≤ 601024; omega, by show _ ≤ 7293000; omega⟩ dL_law_901 (fun x13 v14 c15 => ?_)
  refine sk_perm perm3 ?_
  refine sk_iload F dL_law_904 0 rfl ?_
  refine sk_icmp_eq F 911 dL_law_906 (by decide) (fun h16 => ?_) (fun h16 => ?_)
  · refine sk_goto F 1454 dL_law_911 (by decide) ?_
    exact sk_lv [1, 2, 3, 4, 5] rfl (sk_widen (by omega) (by omega) (hkb _ _ _))
  · exact sk_law0
def fLaw_10 (kb : Mem → Mem → (Nat → Int64) → Option Int32) (n L : Nat) (xs : Nat → Int32) (v u : Mem) (w : Nat → Int64) (i : Int32) : Option Int32 := gd (inb (i + 1) L) (gd (inb (i + 2) L) (bd (fL_order (xs (i + 1).toNatClampNeg) (if (xs (i + 2).toNatClampNeg) = 0 then 0 else 1) v w) fun x3 q4 => gd (inb (i + 1) L) (gd (inb (i + 2) L) (bd (fX5_order (xs (i + 1).toNatClampNeg) (if (xs (i + 2).toNatClampNeg) = 0 then 0 else 1) u) fun x8 v9 => bd (fX5_thrown v9) fun x11 v12 => if x11 = x3 then if x3 = 0 then if (lg_cmp (q4.2 0) (if x8 = 0 then 0 else 1)) = 0 then kb q4.1 v12 q4.2 else some 0 else kb q4.1 v12 q4.2 else some 0))))
set_option maxRecDepth 100000 in
set_option maxHeartbeats 4000000 in
theorem kLaw_10 {p : Program} {l : Launch} {e : Env} {s : State} {m : MethodId} {below : List Frame} {meth : Method} {c : Code} {D : va_G} {cI cS cF cZ cJ : ClassId} {ad ar : Nat → Nat} {ao n b L : Nat} {xs : Nat → Int32} {kb : Mem → Mem → (Nat → Int64) → Option Int32} {c0 z0 : Nat} (F : CallFix p m c cL_law 7 s #[Value.ref b] wsL_law RL) (hK : va_K D vwCl (ty5 cI cS cF cZ cJ) s) (hZ : zz (fun q : Nat => s.heap.size ≤ q) s s.heap) (hX : va_X b L xs s s.heap) (hbl : b < s.heap.size) (hn : n ≤ 24) (hl : l.stackTraces = false) (hc0 : c0 + 6 ≤ 601024) (hz0 : z0 + 36 ≤ 7293000) {i : Int32} (hkb : ∀ (v u : Mem) (w : Nat → Int64), sk p l e room_1 s m #[Value.ref b] below meth c D (fun q : Nat => s.heap.size ≤ q) 7 (c0 + 6) (z0 + 36) (lQ below b s) (Wc cI cS cF ad n (ow Lr ar (shR cI cZ ar) u ++ [(ao, oc cJ w)]) v) 1454 [(0, .ref b), (1, .ref (ad 0)), (2, .ref (ar 0)), (3, .ref ao), (4, .int i)] [] (kb v u w)) (v u : Mem) (w : Nat → Int64) : sk p l e room_1 s m #[Value.ref b] below meth c D (fun q : Nat => s.heap.size ≤ q) 7 c0 z0 (lQ below b s) (Wc cI cS cF ad n (ow Lr ar (shR cI cZ ar) u ++ [(ao, oc cJ w)]) v) 914 [(0, .ref b), (1, .ref (ad 0)), (2, .ref (ar 0)), (3, .ref ao), (4, .int i)] [] (fLaw_10 kb n L xs v u w i) := by
  have hA : ∀ q : Nat, s.heap.size ≤ q → (fun q : Nat => s.heap.size ≤ q) q := fun _ h => h
  have hbA : ¬ (fun q : Nat => s.heap.size ≤ q) b := Nat.not_le.mpr hbl
  refine sk_eq (K' := gd (inb (i + 1) L) (gd (inb (i + 2) L) (bd (fL_order (xs (i + 1).toNatClampNeg) (if (xs (i + 2).toNatClampNeg) = 0 then 0 else 1) v w) fun x3 q4 => gd (inb (i + 1) L) (gd (inb (i + 2) L) (bd (fX5_order (xs (i + 1).toNatClampNeg) (if (xs (i + 2).toNatClampNeg) = 0 then 0 else 1) u) fun x8 v9 => bd (fX5_thrown v9) fun x11 v12 => if x11 = x3 then if x3 = 0 then if (lg_cmp (q4.2 0) (if x8 = 0 then 0 else 1)) = 0 then kb q4.1 v12 q4.2 else some 0 else kb q4.1 v12 q4.2 else some 0))))) rfl ?_
  refine sk_aload_n F dL_law_914 rfl 1 rfl ?_
  refine sk_aload_n F dL_law_915 rfl 0 rfl ?_
  refine sk_iload F dL_law_916 4 rfl ?_
  refine sk_iconst (x := 1) F dL_law_918 (by decide) ?_
  refine sk_iadd F dL_law_919 ?_
  refine sk_sld F hX hbl hbA dL_law_920 (fun h1 => ?_)
  refine sk_aload_n F dL_law_921 rfl 0 rfl ?_
  refine sk_iload F dL_law_922 4 rfl ?_
  refine sk_iconst (x := 2) F dL_law_924 (by decide) ?_
  refine sk_iadd F dL_law_925 ?_
  refine sk_sld F hX hbl hbA dL_law_926 (fun h2 => ?_)
  refine sk_seli F 934 935 dL_law_927 (by decide) dL_law_930 dL_law_931 (by decide) dL_law_934 rfl ?_
  refine sk_aload_n F dL_law_935 rfl 3 rfl ?_
  refine sk_callJ (As := [.ref (ad 0), .int (xs (i + 1).toNatClampNeg), .int (if (xs (i + 2).toNatClampNeg) = 0 then 0 else 1), .ref ao]) (rest := []) F hK hA hZ _ (tL_order hn hl _ _) (vx_cwSW 4 F.2.2.2.2 gL_law_L_order rfl rfl rfl (by decide +kernel) ⟨Nat.le_of_ble_eq_true rfl, Nat.le_of_ble_eq_true rfl⟩) rfl rfl (Nat.le_of_ble_eq_true rfl) ⟨by show _ ≤ 601024; omega, by show _ ≤ 7293000; omega⟩ dL_law_936 (fun x3 q4 c5 => ?_)
  refine sk_istore F dL_law_939 (by decide) rfl ?_
  refine sk_aload_n F dL_law_941 rfl 3 rfl ?_
  refine sk_aload_n F dL_law_942 rfl 1 rfl ?_
  refine sk_iload F dL_law_943 5 rfl ?_
  refine sk_iconst (x := 1) F dL_law_945 (by decide) ?_
  refine sk_iadd F dL_law_946 ?_
  refine sk_sld F hX hbl hbA dL_law_947 (fun h6 => ?_)
  refine sk_aload_n F dL_law_948 rfl 1 rfl ?_
  refine sk_iload F dL_law_949 5 rfl ?_
  refine sk_iconst (x := 2) F dL_law_951 (by decide) ?_
  refine sk_iadd F dL_law_952 ?_
  refine sk_sld F hX hbl hbA dL_law_953 (fun h7 => ?_)
  refine sk_seli F 961 962 dL_law_954 (by decide) dL_law_957 dL_law_958 (by decide) dL_law_961 rfl ?_
  refine sk_perm perm3 ?_
  refine sk_callVi (As := [.int (xs (i + 1).toNatClampNeg), .int (if (xs (i + 2).toNatClampNeg) = 0 then 0 else 1)]) (rest := []) F hK hA hZ _ (tX5_order _) (cwV 2 F.2.2.2.2 gL_law_X5_order rfl rfl rfl (by decide +kernel) ⟨Nat.le_of_ble_eq_true rfl, Nat.le_of_ble_eq_true rfl⟩) (rc5 hK) rfl rfl (Nat.le_of_ble_eq_true rfl) ⟨by show _ ≤ 601024; omega, by show _ ≤ 7293000; omega⟩ dL_law_962 (fun x8 v9 c10 => ?_)
  refine sk_perm perm3 ?_
  refine sk_istore F dL_law_965 (by decide) rfl ?_
  refine sk_aload_n F dL_law_967 rfl 4 rfl ?_
  refine sk_perm perm3 ?_
  refine sk_callVi (As := []) (rest := []) F hK hA hZ _ (tX5_thrown _) (cwV 0 F.2.2.2.2 gL_law_X5_thrown rfl rfl rfl (by decide +kernel) ⟨Nat.le_of_ble_eq_true rfl, Nat.le_of_ble_eq_true rfl⟩) (rc5 hK) rfl rfl (Nat.le_of_ble_eq_true rfl) ⟨by show _ ≤ 601024; omega, by show _ ≤ 7293000; omega⟩ dL_law_968 (fun x11 v12 c13 => ?_)
  refine sk_perm perm3 ?_
  refine sk_iload F dL_law_971 1 rfl ?_
  refine sk_icmp_eq F 978 dL_law_973 (by decide) (fun h14 => ?_) (fun h14 => ?_)
  · refine sk_iload F dL_law_978 1 rfl ?_
    refine sk_if_ne F 1002 dL_law_980 (by decide) (fun h15 => ?_) (fun h15 => ?_)
    · refine sk_goto F 1454 dL_law_1002 (by decide) ?_
      exact sk_lv [2, 3, 4, 5, 6] rfl (sk_widen (by omega) (by omega) (hkb _ _ _))
    · refine sk_aload_n F dL_law_983 rfl 5 rfl ?_
      refine sk_iconst (x := 0) F dL_law_984 (by decide) ?_
      refine sk_lald F hK dL_law_985 ?_
      refine sk_iload F dL_law_986 0 rfl ?_
      refine sk_sell F 995 996 dL_law_988 (by decide) dL_law_991 dL_law_992 (by decide) dL_law_995 rfl ?_
      refine sk_lcmp F dL_law_996 ?_
      refine sk_if_eq F 1002 dL_law_997 (by decide) (fun h16 => ?_) (fun h16 => ?_)
      · refine sk_goto F 1454 dL_law_1002 (by decide) ?_
        exact sk_lv [2, 3, 4, 5, 6] rfl (sk_widen (by omega) (by omega) (hkb _ _ _))
      · exact sk_law0
  · exact sk_law0
def fLaw_11 (kb : Mem → Mem → (Nat → Int64) → Option Int32) (n L : Nat) (xs : Nat → Int32) (v u : Mem) (w : Nat → Int64) (i : Int32) : Option Int32 := gd (inb (i + 1) L) (bd (fL_limit (xs (i + 1).toNatClampNeg) v w) fun x2 q3 => gd (inb (i + 1) L) (bd (fX5_limit (xs (i + 1).toNatClampNeg) u) fun x6 v7 => bd (fX5_thrown v7) fun x9 v10 => if x9 = x2 then if x2 = 0 then if (lg_cmp (q3.2 0) x6.toInt64) = 0 then kb q3.1 v10 q3.2 else some 0 else kb q3.1 v10 q3.2 else some 0))
set_option maxRecDepth 100000 in
set_option maxHeartbeats 4000000 in
theorem kLaw_11 {p : Program} {l : Launch} {e : Env} {s : State} {m : MethodId} {below : List Frame} {meth : Method} {c : Code} {D : va_G} {cI cS cF cZ cJ : ClassId} {ad ar : Nat → Nat} {ao n b L : Nat} {xs : Nat → Int32} {kb : Mem → Mem → (Nat → Int64) → Option Int32} {c0 z0 : Nat} (F : CallFix p m c cL_law 7 s #[Value.ref b] wsL_law RL) (hK : va_K D vwCl (ty5 cI cS cF cZ cJ) s) (hZ : zz (fun q : Nat => s.heap.size ≤ q) s s.heap) (hX : va_X b L xs s s.heap) (hbl : b < s.heap.size) (hn : n ≤ 24) (hl : l.stackTraces = false) (hc0 : c0 + 6 ≤ 601024) (hz0 : z0 + 36 ≤ 7293000) {i : Int32} (hkb : ∀ (v u : Mem) (w : Nat → Int64), sk p l e room_1 s m #[Value.ref b] below meth c D (fun q : Nat => s.heap.size ≤ q) 7 (c0 + 6) (z0 + 36) (lQ below b s) (Wc cI cS cF ad n (ow Lr ar (shR cI cZ ar) u ++ [(ao, oc cJ w)]) v) 1454 [(0, .ref b), (1, .ref (ad 0)), (2, .ref (ar 0)), (3, .ref ao), (4, .int i)] [] (kb v u w)) (v u : Mem) (w : Nat → Int64) : sk p l e room_1 s m #[Value.ref b] below meth c D (fun q : Nat => s.heap.size ≤ q) 7 c0 z0 (lQ below b s) (Wc cI cS cF ad n (ow Lr ar (shR cI cZ ar) u ++ [(ao, oc cJ w)]) v) 1005 [(0, .ref b), (1, .ref (ad 0)), (2, .ref (ar 0)), (3, .ref ao), (4, .int i)] [] (fLaw_11 kb n L xs v u w i) := by
  have hA : ∀ q : Nat, s.heap.size ≤ q → (fun q : Nat => s.heap.size ≤ q) q := fun _ h => h
  have hbA : ¬ (fun q : Nat => s.heap.size ≤ q) b := Nat.not_le.mpr hbl
  refine sk_eq (K' := gd (inb (i + 1) L) (bd (fL_limit (xs (i + 1).toNatClampNeg) v w) fun x2 q3 => gd (inb (i + 1) L) (bd (fX5_limit (xs (i + 1).toNatClampNeg) u) fun x6 v7 => bd (fX5_thrown v7) fun x9 v10 => if x9 = x2 then if x2 = 0 then if (lg_cmp (q3.2 0) x6.toInt64) = 0 then kb q3.1 v10 q3.2 else some 0 else kb q3.1 v10 q3.2 else some 0))) rfl ?_
  refine sk_aload_n F dL_law_1005 rfl 1 rfl ?_
  refine sk_aload_n F dL_law_1006 rfl 0 rfl ?_
  refine sk_iload F dL_law_1007 4 rfl ?_
  refine sk_iconst (x := 1) F dL_law_1009 (by decide) ?_
  refine sk_iadd F dL_law_1010 ?_
  refine sk_sld F hX hbl hbA dL_law_1011 (fun h1 => ?_)
  refine sk_aload_n F dL_law_1012 rfl 3 rfl ?_
  refine sk_callJ (As := [.ref (ad 0), .int (xs (i + 1).toNatClampNeg), .ref ao]) (rest := []) F hK hA hZ _ (tL_limit hn hl _ _) (vx_cwSW 3 F.2.2.2.2 gL_law_L_limit rfl rfl rfl (by decide +kernel) ⟨Nat.le_of_ble_eq_true rfl, Nat.le_of_ble_eq_true rfl⟩) rfl rfl (Nat.le_of_ble_eq_true rfl) ⟨by show _ ≤ 601024; omega, by show _ ≤ 7293000; omega⟩ dL_law_1013 (fun x2 q3 c4 => ?_)
  refine sk_istore F dL_law_1016 (by decide) rfl ?_
  refine sk_aload_n F dL_law_1018 rfl 3 rfl ?_
  refine sk_aload_n F dL_law_1019 rfl 1 rfl ?_
  refine sk_iload F dL_law_1020 5 rfl ?_
  refine sk_iconst (x := 1) F dL_law_1022 (by decide) ?_
  refine sk_iadd F dL_law_1023 ?_
  refine sk_sld F hX hbl hbA dL_law_1024 (fun h5 => ?_)
  refine sk_perm perm3 ?_
  refine sk_callVi (As := [.int (xs (i + 1).toNatClampNeg)]) (rest := []) F hK hA hZ _ (tX5_limit _) (cwV 1 F.2.2.2.2 gL_law_X5_limit rfl rfl rfl (by decide +kernel) ⟨Nat.le_of_ble_eq_true rfl, Nat.le_of_ble_eq_true rfl⟩) (rc5 hK) rfl rfl (Nat.le_of_ble_eq_true rfl) ⟨by show _ ≤ 601024; omega, by show _ ≤ 7293000; omega⟩ dL_law_1025 (fun x6 v7 c8 => ?_)
  refine sk_perm perm3 ?_
  refine sk_istore F dL_law_1028 (by decide) rfl ?_
  refine sk_aload_n F dL_law_1030 rfl 4 rfl ?_
  refine sk_perm perm3 ?_
  refine sk_callVi (As := []) (rest := []) F hK hA hZ _ (tX5_thrown _) (cwV 0 F.2.2.2.2 gL_law_X5_thrown rfl rfl rfl (by decide +kernel) ⟨Nat.le_of_ble_eq_true rfl, Nat.le_of_ble_eq_true rfl⟩) (rc5 hK) rfl rfl (Nat.le_of_ble_eq_true rfl) ⟨by show _ ≤ 601024; omega, by show _ ≤ 7293000; omega⟩ dL_law_1031 (fun x9 v10 c11 => ?_)
  refine sk_perm perm3 ?_
  refine sk_iload F dL_law_1034 1 rfl ?_
  refine sk_icmp_eq F 1041 dL_law_1036 (by decide) (fun h12 => ?_) (fun h12 => ?_)
  · refine sk_iload F dL_law_1041 1 rfl ?_
    refine sk_if_ne F 1058 dL_law_1043 (by decide) (fun h13 => ?_) (fun h13 => ?_)
    · refine sk_goto F 1454 dL_law_1058 (by decide) ?_
      exact sk_lv [2, 3, 4, 5, 6] rfl (sk_widen (by omega) (by omega) (hkb _ _ _))
    · refine sk_aload_n F dL_law_1046 rfl 5 rfl ?_
      refine sk_iconst (x := 0) F dL_law_1047 (by decide) ?_
      refine sk_lald F hK dL_law_1048 ?_
      refine sk_iload F dL_law_1049 0 rfl ?_
      refine sk_i2l F dL_law_1051 ?_
      refine sk_lcmp F dL_law_1052 ?_
      refine sk_if_eq F 1058 dL_law_1053 (by decide) (fun h14 => ?_) (fun h14 => ?_)
      · refine sk_goto F 1454 dL_law_1058 (by decide) ?_
        exact sk_lv [2, 3, 4, 5, 6] rfl (sk_widen (by omega) (by omega) (hkb _ _ _))
      · exact sk_law0
  · exact sk_law0
def fLaw_12 (kb : Mem → Mem → (Nat → Int64) → Option Int32) (n L : Nat) (xs : Nat → Int32) (v u : Mem) (w : Nat → Int64) (i : Int32) : Option Int32 := gd (inb (i + 1) L) (gd (inb (i + 2) L) (bd (fL_fail (xs (i + 1).toNatClampNeg) (xs (i + 2).toNatClampNeg) v w) fun x3 q4 => gd (inb (i + 1) L) (gd (inb (i + 2) L) (bd (fX5_fail (xs (i + 1).toNatClampNeg) (xs (i + 2).toNatClampNeg) u) fun x8 v9 => bd (fX5_thrown v9) fun x11 v12 => if x11 = x3 then if x3 = 0 then if (lg_cmp (q4.2 0) (if x8 = 0 then 0 else 1)) = 0 then kb q4.1 v12 q4.2 else some 0 else kb q4.1 v12 q4.2 else some 0))))
set_option maxRecDepth 100000 in
set_option maxHeartbeats 4000000 in
theorem kLaw_12 {p : Program} {l : Launch} {e : Env} {s : State} {m : MethodId} {below : List Frame} {meth : Method} {c : Code} {D : va_G} {cI cS cF cZ cJ : ClassId} {ad ar : Nat → Nat} {ao n b L : Nat} {xs : Nat → Int32} {kb : Mem → Mem → (Nat → Int64) → Option Int32} {c0 z0 : Nat} (F : CallFix p m c cL_law 7 s #[Value.ref b] wsL_law RL) (hK : va_K D vwCl (ty5 cI cS cF cZ cJ) s) (hZ : zz (fun q : Nat => s.heap.size ≤ q) s s.heap) (hX : va_X b L xs s s.heap) (hbl : b < s.heap.size) (hn : n ≤ 24) (hl : l.stackTraces = false) (hc0 : c0 + 6 ≤ 601024) (hz0 : z0 + 36 ≤ 7293000) {i : Int32} (hkb : ∀ (v u : Mem) (w : Nat → Int64), sk p l e room_1 s m #[Value.ref b] below meth c D (fun q : Nat => s.heap.size ≤ q) 7 (c0 + 6) (z0 + 36) (lQ below b s) (Wc cI cS cF ad n (ow Lr ar (shR cI cZ ar) u ++ [(ao, oc cJ w)]) v) 1454 [(0, .ref b), (1, .ref (ad 0)), (2, .ref (ar 0)), (3, .ref ao), (4, .int i)] [] (kb v u w)) (v u : Mem) (w : Nat → Int64) : sk p l e room_1 s m #[Value.ref b] below meth c D (fun q : Nat => s.heap.size ≤ q) 7 c0 z0 (lQ below b s) (Wc cI cS cF ad n (ow Lr ar (shR cI cZ ar) u ++ [(ao, oc cJ w)]) v) 1061 [(0, .ref b), (1, .ref (ad 0)), (2, .ref (ar 0)), (3, .ref ao), (4, .int i)] [] (fLaw_12 kb n L xs v u w i) := by
  have hA : ∀ q : Nat, s.heap.size ≤ q → (fun q : Nat => s.heap.size ≤ q) q := fun _ h => h
  have hbA : ¬ (fun q : Nat => s.heap.size ≤ q) b := Nat.not_le.mpr hbl
  refine sk_eq (K' := gd (inb (i + 1) L) (gd (inb (i + 2) L) (bd (fL_fail (xs (i + 1).toNatClampNeg) (xs (i + 2).toNatClampNeg) v w) fun x3 q4 => gd (inb (i + 1) L) (gd (inb (i + 2) L) (bd (fX5_fail (xs (i + 1).toNatClampNeg) (xs (i + 2).toNatClampNeg) u) fun x8 v9 => bd (fX5_thrown v9) fun x11 v12 => if x11 = x3 then if x3 = 0 then if (lg_cmp (q4.2 0) (if x8 = 0 then 0 else 1)) = 0 then kb q4.1 v12 q4.2 else some 0 else kb q4.1 v12 q4.2 else some 0))))) rfl ?_
  refine sk_aload_n F dL_law_1061 rfl 1 rfl ?_
  refine sk_aload_n F dL_law_1062 rfl 0 rfl ?_
  refine sk_iload F dL_law_1063 4 rfl ?_
  refine sk_iconst (x := 1) F dL_law_1065 (by decide) ?_
  refine sk_iadd F dL_law_1066 ?_
  refine sk_sld F hX hbl hbA dL_law_1067 (fun h1 => ?_)
  refine sk_aload_n F dL_law_1068 rfl 0 rfl ?_
  refine sk_iload F dL_law_1069 4 rfl ?_
  refine sk_iconst (x := 2) F dL_law_1071 (by decide) ?_
  refine sk_iadd F dL_law_1072 ?_
  refine sk_sld F hX hbl hbA dL_law_1073 (fun h2 => ?_)
  refine sk_aload_n F dL_law_1074 rfl 3 rfl ?_
  refine sk_callJ (As := [.ref (ad 0), .int (xs (i + 1).toNatClampNeg), .int (xs (i + 2).toNatClampNeg), .ref ao]) (rest := []) F hK hA hZ _ (tL_fail hn hl _ _) (vx_cwSW 4 F.2.2.2.2 gL_law_L_fail rfl rfl rfl (by decide +kernel) ⟨Nat.le_of_ble_eq_true rfl, Nat.le_of_ble_eq_true rfl⟩) rfl rfl (Nat.le_of_ble_eq_true rfl) ⟨by show _ ≤ 601024; omega, by show _ ≤ 7293000; omega⟩ dL_law_1075 (fun x3 q4 c5 => ?_)
  refine sk_istore F dL_law_1078 (by decide) rfl ?_
  refine sk_aload_n F dL_law_1080 rfl 3 rfl ?_
  refine sk_aload_n F dL_law_1081 rfl 1 rfl ?_
  refine sk_iload F dL_law_1082 5 rfl ?_
  refine sk_iconst (x := 1) F dL_law_1084 (by decide) ?_
  refine sk_iadd F dL_law_1085 ?_
  refine sk_sld F hX hbl hbA dL_law_1086 (fun h6 => ?_)
  refine sk_aload_n F dL_law_1087 rfl 1 rfl ?_
  refine sk_iload F dL_law_1088 5 rfl ?_
  refine sk_iconst (x := 2) F dL_law_1090 (by decide) ?_
  refine sk_iadd F dL_law_1091 ?_
  refine sk_sld F hX hbl hbA dL_law_1092 (fun h7 => ?_)
  refine sk_perm perm3 ?_
  refine sk_callVi (As := [.int (xs (i + 1).toNatClampNeg), .int (xs (i + 2).toNatClampNeg)]) (rest := []) F hK hA hZ _ (tX5_fail _) (cwV 2 F.2.2.2.2 gL_law_X5_fail rfl rfl rfl (by decide +kernel) ⟨Nat.le_of_ble_eq_true rfl, Nat.le_of_ble_eq_true rfl⟩) (rc5 hK) rfl rfl (Nat.le_of_ble_eq_true rfl) ⟨by show _ ≤ 601024; omega, by show _ ≤ 7293000; omega⟩ dL_law_1093 (fun x8 v9 c10 => ?_)
  refine sk_perm perm3 ?_
  refine sk_istore F dL_law_1096 (by decide) rfl ?_
  refine sk_aload_n F dL_law_1098 rfl 4 rfl ?_
  refine sk_perm perm3 ?_
  refine sk_callVi (As := []) (rest := []) F hK hA hZ _ (tX5_thrown _) (cwV 0 F.2.2.2.2 gL_law_X5_thrown rfl rfl rfl (by decide +kernel) ⟨Nat.le_of_ble_eq_true rfl, Nat.le_of_ble_eq_true rfl⟩) (rc5 hK) rfl rfl (Nat.le_of_ble_eq_true rfl) ⟨by show _ ≤ 601024; omega, by show _ ≤ 7293000; omega⟩ dL_law_1099 (fun x11 v12 c13 => ?_)
  refine sk_perm perm3 ?_
  refine sk_iload F dL_law_1102 1 rfl ?_
  refine sk_icmp_eq F 1109 dL_law_1104 (by decide) (fun h14 => ?_) (fun h14 => ?_)
  · refine sk_iload F dL_law_1109 1 rfl ?_
    refine sk_if_ne F 1133 dL_law_1111 (by decide) (fun h15 => ?_) (fun h15 => ?_)
    · refine sk_goto F 1454 dL_law_1133 (by decide) ?_
      exact sk_lv [2, 3, 4, 5, 6] rfl (sk_widen (by omega) (by omega) (hkb _ _ _))
    · refine sk_aload_n F dL_law_1114 rfl 5 rfl ?_
      refine sk_iconst (x := 0) F dL_law_1115 (by decide) ?_
      refine sk_lald F hK dL_law_1116 ?_
      refine sk_iload F dL_law_1117 0 rfl ?_
      refine sk_sell F 1126 1127 dL_law_1119 (by decide) dL_law_1122 dL_law_1123 (by decide) dL_law_1126 rfl ?_
      refine sk_lcmp F dL_law_1127 ?_
      refine sk_if_eq F 1133 dL_law_1128 (by decide) (fun h16 => ?_) (fun h16 => ?_)
      · refine sk_goto F 1454 dL_law_1133 (by decide) ?_
        exact sk_lv [2, 3, 4, 5, 6] rfl (sk_widen (by omega) (by omega) (hkb _ _ _))
      · exact sk_law0
  · exact sk_law0
def fLaw_13 (kb : Mem → Mem → (Nat → Int64) → Option Int32) (n L : Nat) (xs : Nat → Int32) (v u : Mem) (w : Nat → Int64) (i : Int32) : Option Int32 := gd (inb (i + 1) L) (gd (inb (i + 2) L) (bd (fL_mend (xs (i + 1).toNatClampNeg) (xs (i + 2).toNatClampNeg) v w) fun x3 q4 => gd (inb (i + 1) L) (gd (inb (i + 2) L) (bd (fX5_mend (xs (i + 1).toNatClampNeg) (xs (i + 2).toNatClampNeg) u) fun x8 v9 => bd (fX5_thrown v9) fun x11 v12 => if x11 = x3 then if x3 = 0 then if (lg_cmp (q4.2 0) (if x8 = 0 then 0 else 1)) = 0 then kb q4.1 v12 q4.2 else some 0 else kb q4.1 v12 q4.2 else some 0))))
set_option maxRecDepth 100000 in
set_option maxHeartbeats 4000000 in
theorem kLaw_13 {p : Program} {l : Launch} {e : Env} {s : State} {m : MethodId} {below : List Frame} {meth : Method} {c : Code} {D : va_G} {cI cS cF cZ cJ : ClassId} {ad ar : Nat → Nat} {ao n b L : Nat} {xs : Nat → Int32} {kb : Mem → Mem → (Nat → Int64) → Option Int32} {c0 z0 : Nat} (F : CallFix p m c cL_law 7 s #[Value.ref b] wsL_law RL) (hK : va_K D vwCl (ty5 cI cS cF cZ cJ) s) (hZ : zz (fun q : Nat => s.heap.size ≤ q) s s.heap) (hX : va_X b L xs s s.heap) (hbl : b < s.heap.size) (hn : n ≤ 24) (hl : l.stackTraces = false) (hc0 : c0 + 6 ≤ 601024) (hz0 : z0 + 36 ≤ 7293000) {i : Int32} (hkb : ∀ (v u : Mem) (w : Nat → Int64), sk p l e room_1 s m #[Value.ref b] below meth c D (fun q : Nat => s.heap.size ≤ q) 7 (c0 + 6) (z0 + 36) (lQ below b s) (Wc cI cS cF ad n (ow Lr ar (shR cI cZ ar) u ++ [(ao, oc cJ w)]) v) 1454 [(0, .ref b), (1, .ref (ad 0)), (2, .ref (ar 0)), (3, .ref ao), (4, .int i)] [] (kb v u w)) (v u : Mem) (w : Nat → Int64) : sk p l e room_1 s m #[Value.ref b] below meth c D (fun q : Nat => s.heap.size ≤ q) 7 c0 z0 (lQ below b s) (Wc cI cS cF ad n (ow Lr ar (shR cI cZ ar) u ++ [(ao, oc cJ w)]) v) 1136 [(0, .ref b), (1, .ref (ad 0)), (2, .ref (ar 0)), (3, .ref ao), (4, .int i)] [] (fLaw_13 kb n L xs v u w i) := by
  have hA : ∀ q : Nat, s.heap.size ≤ q → (fun q : Nat => s.heap.size ≤ q) q := fun _ h => h
  have hbA : ¬ (fun q : Nat => s.heap.size ≤ q) b := Nat.not_le.mpr hbl
  refine sk_eq (K' := gd (inb (i + 1) L) (gd (inb (i + 2) L) (bd (fL_mend (xs (i + 1).toNatClampNeg) (xs (i + 2).toNatClampNeg) v w) fun x3 q4 => gd (inb (i + 1) L) (gd (inb (i + 2) L) (bd (fX5_mend (xs (i + 1).toNatClampNeg) (xs (i + 2).toNatClampNeg) u) fun x8 v9 => bd (fX5_thrown v9) fun x11 v12 => if x11 = x3 then if x3 = 0 then if (lg_cmp (q4.2 0) (if x8 = 0 then 0 else 1)) = 0 then kb q4.1 v12 q4.2 else some 0 else kb q4.1 v12 q4.2 else some 0))))) rfl ?_
  refine sk_aload_n F dL_law_1136 rfl 1 rfl ?_
  refine sk_aload_n F dL_law_1137 rfl 0 rfl ?_
  refine sk_iload F dL_law_1138 4 rfl ?_
  refine sk_iconst (x := 1) F dL_law_1140 (by decide) ?_
  refine sk_iadd F dL_law_1141 ?_
  refine sk_sld F hX hbl hbA dL_law_1142 (fun h1 => ?_)
  refine sk_aload_n F dL_law_1143 rfl 0 rfl ?_
  refine sk_iload F dL_law_1144 4 rfl ?_
  refine sk_iconst (x := 2) F dL_law_1146 (by decide) ?_
  refine sk_iadd F dL_law_1147 ?_
  refine sk_sld F hX hbl hbA dL_law_1148 (fun h2 => ?_)
  refine sk_aload_n F dL_law_1149 rfl 3 rfl ?_
  refine sk_callJ (As := [.ref (ad 0), .int (xs (i + 1).toNatClampNeg), .int (xs (i + 2).toNatClampNeg), .ref ao]) (rest := []) F hK hA hZ _ (tL_mend hn hl _ _) (vx_cwSW 4 F.2.2.2.2 gL_law_L_mend rfl rfl rfl (by decide +kernel) ⟨Nat.le_of_ble_eq_true rfl, Nat.le_of_ble_eq_true rfl⟩) rfl rfl (Nat.le_of_ble_eq_true rfl) ⟨by show _ ≤ 601024; omega, by show _ ≤ 7293000; omega⟩ dL_law_1150 (fun x3 q4 c5 => ?_)
  refine sk_istore F dL_law_1153 (by decide) rfl ?_
  refine sk_aload_n F dL_law_1155 rfl 3 rfl ?_
  refine sk_aload_n F dL_law_1156 rfl 1 rfl ?_
  refine sk_iload F dL_law_1157 5 rfl ?_
  refine sk_iconst (x := 1) F dL_law_1159 (by decide) ?_
  refine sk_iadd F dL_law_1160 ?_
  refine sk_sld F hX hbl hbA dL_law_1161 (fun h6 => ?_)
  refine sk_aload_n F dL_law_1162 rfl 1 rfl ?_
  refine sk_iload F dL_law_1163 5 rfl ?_
  refine sk_iconst (x := 2) F dL_law_1165 (by decide) ?_
  refine sk_iadd F dL_law_1166 ?_
  refine sk_sld F hX hbl hbA dL_law_1167 (fun h7 => ?_)
  refine sk_perm perm3 ?_
  refine sk_callVi (As := [.int (xs (i + 1).toNatClampNeg), .int (xs (i + 2).toNatClampNeg)]) (rest := []) F hK hA hZ _ (tX5_mend _) (cwV 2 F.2.2.2.2 gL_law_X5_mend rfl rfl rfl (by decide +kernel) ⟨Nat.le_of_ble_eq_true rfl, Nat.le_of_ble_eq_true rfl⟩) (rc5 hK) rfl rfl (Nat.le_of_ble_eq_true rfl) ⟨by show _ ≤ 601024; omega, by show _ ≤ 7293000; omega⟩ dL_law_1168 (fun x8 v9 c10 => ?_)
  refine sk_perm perm3 ?_
  refine sk_istore F dL_law_1171 (by decide) rfl ?_
  refine sk_aload_n F dL_law_1173 rfl 4 rfl ?_
  refine sk_perm perm3 ?_
  refine sk_callVi (As := []) (rest := []) F hK hA hZ _ (tX5_thrown _) (cwV 0 F.2.2.2.2 gL_law_X5_thrown rfl rfl rfl (by decide +kernel) ⟨Nat.le_of_ble_eq_true rfl, Nat.le_of_ble_eq_true rfl⟩) (rc5 hK) rfl rfl (Nat.le_of_ble_eq_true rfl) ⟨by show _ ≤ 601024; omega, by show _ ≤ 7293000; omega⟩ dL_law_1174 (fun x11 v12 c13 => ?_)
  refine sk_perm perm3 ?_
  refine sk_iload F dL_law_1177 1 rfl ?_
  refine sk_icmp_eq F 1184 dL_law_1179 (by decide) (fun h14 => ?_) (fun h14 => ?_)
  · refine sk_iload F dL_law_1184 1 rfl ?_
    refine sk_if_ne F 1208 dL_law_1186 (by decide) (fun h15 => ?_) (fun h15 => ?_)
    · refine sk_goto F 1454 dL_law_1208 (by decide) ?_
      exact sk_lv [2, 3, 4, 5, 6] rfl (sk_widen (by omega) (by omega) (hkb _ _ _))
    · refine sk_aload_n F dL_law_1189 rfl 5 rfl ?_
      refine sk_iconst (x := 0) F dL_law_1190 (by decide) ?_
      refine sk_lald F hK dL_law_1191 ?_
      refine sk_iload F dL_law_1192 0 rfl ?_
      refine sk_sell F 1201 1202 dL_law_1194 (by decide) dL_law_1197 dL_law_1198 (by decide) dL_law_1201 rfl ?_
      refine sk_lcmp F dL_law_1202 ?_
      refine sk_if_eq F 1208 dL_law_1203 (by decide) (fun h16 => ?_) (fun h16 => ?_)
      · refine sk_goto F 1454 dL_law_1208 (by decide) ?_
        exact sk_lv [2, 3, 4, 5, 6] rfl (sk_widen (by omega) (by omega) (hkb _ _ _))
      · exact sk_law0
  · exact sk_law0
