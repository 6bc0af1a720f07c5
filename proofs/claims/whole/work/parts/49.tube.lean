abbrev sec1 : List Value := [.int 0, .int 0, .int 0, .int 0, .int 1, .int 0, .int 1, .int 0]
abbrev fan1 : List Value := [.int 0, .int 0, .int 0, .int 1, .int 0, .int 0, .int 0, .int 0, .int 0]
abbrev dev1 : List Value := [.int 0, .int 0, .int 0, .int 1, .int 0, .int 0]
def gk (k : Nat) (a : Nat → Nat) : Nat → Option Nat := fun j => if j < k then some (a j) else none
def secs (k : Nat) (a : Nat → Nat) : va_W := (List.range k).map (fun j => (a j, .inr (2, sec1)))
def fans (k : Nat) (a : Nat → Nat) : va_W := (List.range k).map (fun j => (a j, .inr (1, fan1)))
def tl (cS cF : ClassId) (n h0 qS q1 q2 qF k : Nat) (sa : Nat → Nat) (m : Nat) (fa : Nat → Nat) : va_W := (h0, .inr (3, [.ref qS, .ref q1, .ref q2, .ref qF, .int 0, .int 0, .int 1, .int 0, .int 1, .int 0, .int 0, .int (-1)])) :: (q1, .inr (0, dev1)) :: (q2, .inr (0, dev1)) :: (qF, .inl (cF, 12, .inr (.inr (.inr (.inr (gk m fa)))))) :: (qS, .inl (cS, n, .inr (.inr (.inr (.inr (gk k sa)))))) :: (secs k sa ++ fans m fa)
theorem gk_up (k : Nat) (a : Nat → Nat) (q : Nat) : va_up (gk k a) k (some q) = gk (k + 1) (va_up a k q) := by
  funext j
  unfold va_up gk
  by_cases h : j = k
  · subst h
    simp
  · by_cases h2 : j < k
    · have h3 : j < k + 1 := by omega
      simp [h, h2, h3]
    · have h3 : ¬ j < k + 1 := by omega
      simp [h, h2, h3]
theorem secs_up (k : Nat) (a : Nat → Nat) (q : Nat) : secs (k + 1) (va_up a k q) = secs k a ++ [(q, .inr (2, sec1))] := by
  unfold secs
  rw [List.range_succ, List.map_append]
  congr 1
  · apply List.map_congr_left
    intro j hj
    have : j ≠ k := by have := List.mem_range.mp hj; omega
    simp [va_up, this]
  · simp [va_up]
theorem fans_up (k : Nat) (a : Nat → Nat) (q : Nat) : fans (k + 1) (va_up a k q) = fans k a ++ [(q, .inr (1, fan1))] := by
  unfold fans
  rw [List.range_succ, List.map_append]
  congr 1
  · apply List.map_congr_left
    intro j hj
    have : j ≠ k := by have := List.mem_range.mp hj; omega
    simp [va_up, this]
  · simp [va_up]
theorem secs_len (k : Nat) (a : Nat → Nat) : (secs k a).length = k := by simp [secs]
theorem fans_len (k : Nat) (a : Nat → Nat) : (fans k a).length = k := by simp [fans]
theorem fans_0 (a : Nat → Nat) : fans 0 a = [] := rfl
theorem tl_setS {cS cF : ClassId} {n h0 qS q1 q2 qF k : Nat} {sa fa : Nat → Nat} {q : Nat} : (tl cS cF n h0 qS q1 q2 qF k sa 0 fa ++ ([(q, .inr (2, sec1))] : va_W)).set 4 ((qS, .inl (cS, n, .inr (.inr (.inr (.inr (va_up (gk k sa) k (some q))))))) : Nat × va_E) = tl cS cF n h0 qS q1 q2 qF (k + 1) (va_up sa k q) 0 fa := by
  rw [gk_up]
  unfold tl
  rw [secs_up, fans_0]
  simp [List.set]
theorem tl_setF {cS cF : ClassId} {n h0 qS q1 q2 qF k m : Nat} {sa fa : Nat → Nat} {q : Nat} : (tl cS cF n h0 qS q1 q2 qF k sa m fa ++ ([(q, .inr (1, fan1))] : va_W)).set 3 ((qF, .inl (cF, 12, .inr (.inr (.inr (.inr (va_up (gk m fa) m (some q))))))) : Nat × va_E) = tl cS cF n h0 qS q1 q2 qF k sa (m + 1) (va_up fa m q) := by
  rw [gk_up]
  unfold tl
  rw [fans_up]
  simp [List.set]
theorem tl_len {cS cF : ClassId} {n h0 qS q1 q2 qF k m : Nat} {sa fa : Nat → Nat} : (tl cS cF n h0 qS q1 q2 qF k sa m fa).length = 5 + k + m := by
  simp [tl, secs_len, fans_len]
  omega
theorem tl_last {cS cF : ClassId} {n h0 qS q1 q2 qF k m : Nat} {sa fa : Nat → Nat} {c : Nat × va_E} : (tl cS cF n h0 qS q1 q2 qF k sa m fa ++ [c])[5 + k + m]? = some c := by
  rw [List.getElem?_append_right (by rw [tl_len]; exact Nat.le_refl _), tl_len, Nat.sub_self]
  rfl
def rmX3_init : Room := { frames := 3, cells := 40, slots := 348, locals := 70 }
section TUBE
variable {p : Program} {l : Launch} {e : Env} {s : State} {m : MethodId} {args : Array Value} {below : List Frame} {meth : Method} {c : Code} {D : va_G} {A : Nat → Prop} {cI cS cF cZ cJ : ClassId} {X : va_W} {n h0 qS q1 q2 qF : Nat} {Q : Unit → State → Prop}
set_option maxRecDepth 100000 in
set_option maxHeartbeats 4000000 in
theorem kX3_fans (G : cxn p s m args meth c cX3_init 3 wsX3_init RX3 D (ty5 cI cS cF cZ cJ) A) (hn : n ≤ 24) {sa : Nat → Nat}
    (kk : ∀ (fa : Nat → Nat) (x : Int32), sk p l e rmX3_init s m args below meth c D A 3 40 348 Q (X ++ tl cS cF n h0 qS q1 q2 qF n sa 12 fa) 116 [(0, .ref h0), (1, .int (nI n)), (2, .int x)] [] (some ())) :
    ∀ (r k : Nat) (fa : Nat → Nat), k + r = 12 → sk p l e rmX3_init s m args below meth c D A 3 (4 + n + k) (24 + n + 8 * n + 9 * k) Q (X ++ tl cS cF n h0 qS q1 q2 qF n sa k fa) 91 [(0, .ref h0), (1, .int (nI n)), (2, .int (nI k))] [] (some ()) := by
  obtain ⟨F, hK, hA, hZ, hN, hr, hlocks, hin2⟩ := G
  intro r
  induction r with
  | zero =>
    intro k fa hk
    have hk : k = 12 := by omega
    subst hk
    refine sk_iload_n F dX3_init_91 rfl 2 rfl ?_
    refine sk_bipush (x := 12) F dX3_init_92 (by decide) ?_
    refine sk_eq (K' := if (12 : Int32) ≤ nI 12 then some () else some ()) (ite_self _).symm ?_
    refine sk_icmp_ge F 116 dX3_init_94 (by decide) (fun h => ?_) (fun h => absurd (by decide) h)
    exact sk_widen (by omega) (by omega) (kk fa _)
  | succ r ih =>
    intro k fa hk
    refine sk_iload_n F dX3_init_91 rfl 2 rfl ?_
    refine sk_bipush (x := 12) F dX3_init_92 (by decide) ?_
    refine sk_eq (K' := if (12 : Int32) ≤ nI k then some () else some ()) (ite_self _).symm ?_
    refine sk_icmp_ge F 116 dX3_init_94 (by decide) (fun h => absurd h (nI_ge (a := k) (b := 12) (by omega) (by decide))) (fun h => ?_)
    refine sk_aload_n F dX3_init_97 rfl 0 rfl ?_
    refine sk_gx (ref := "TunnelWatch$Tube") (x := .ref qF) F hK 0 rfl rfl (by decide +kernel) 3 (by decide) (by decide +kernel) (fun _ h9 => h9) rfl dX3_init_98 ?_
    refine sk_iload_n F dX3_init_101 rfl 2 rfl ?_
    refine sk_nx (ci := 1) (fs := [.int 0, .int 0, .int 0, .int 0, .int 0, .int 0, .int 0, .int 0, .int 0]) F hK hA rfl (by decide +kernel) tyX1 tyX1_ok (by decide +kernel) (by decide +kernel) (by decide +kernel) (fun j hj => by rcases (show j = 0 ∨ j = 1 ∨ j = 2 ∨ j = 3 ∨ j = 4 ∨ j = 5 ∨ j = 6 ∨ j = 7 ∨ j = 8 by omega) with rfl | rfl | rfl | rfl | rfl | rfl | rfl | rfl | rfl <;> rfl) (by show _ ≤ 40; omega) (by show _ ≤ 348; omega) dX3_init_102 (fun q => ?_)
    refine sk_dup F dX3_init_105 rfl ?_
    refine sk_eqw (List.append_assoc _ _ _).symm ?_
    refine sk_ctorN (As := []) (rest := [.ref q, .int (nI k), .ref qF]) F hK hA hZ hN nX1 ⟨va_cnB 0 F.2.2.2.2 gX3_init_X1_init_n47 rfl rfl rfl hN.2.2.2.1 (F.2.2.2.2 _ (by decide +kernel)) (by decide +kernel) ⟨Nat.le_of_ble_eq_true rfl, Nat.le_of_ble_eq_true rfl⟩, rfl, F.2.2.2.2 _ (by decide +kernel)⟩ rfl rfl (Nat.le_of_ble_eq_true rfl) ⟨by show _ ≤ 40; omega, by show _ ≤ 348; omega⟩ dX3_init_106 (fun u hu => ?_)
    refine sk_eqw (List.append_assoc _ _ _) ?_
    refine sk_aasx (r := (RX1, TX1, 9)) (l1 := tl cS cF n h0 qS q1 q2 qF n sa (k + 1) (va_up fa k q)) F hK 3 2 (5 + n + k) 1 rfl rfl tl_last rfl (nI_in (by omega) (by decide)) (by rw [nI_clamp (by omega)]; exact tl_setF) dX3_init_109 ?_
    refine sk_iinc (y := nI k + 1) F dX3_init_110 2 rfl rfl (by decide) rfl ?_
    refine sk_goto F 91 dX3_init_113 (by decide) ?_
    rw [nI_1]
    exact sk_widen (by omega) (by omega) (sk_lv [1, 2, 0] rfl (ih (k + 1) (va_up fa k q) (by omega)))
set_option maxRecDepth 100000 in
set_option maxHeartbeats 4000000 in
theorem kX3_secs (G : cxn p s m args meth c cX3_init 3 wsX3_init RX3 D (ty5 cI cS cF cZ cJ) A) (hn : n ≤ 24) {fa : Nat → Nat}
    (kk : ∀ (sa : Nat → Nat) (x : Int32), sk p l e rmX3_init s m args below meth c D A 3 (4 + n) (24 + n + 8 * n) Q (X ++ tl cS cF n h0 qS q1 q2 qF n sa 0 fa) 89 [(0, .ref h0), (1, .int (nI n)), (2, .int x)] [] (some ())) :
    ∀ (r k : Nat) (sa : Nat → Nat), k + r = n → sk p l e rmX3_init s m args below meth c D A 3 (4 + k) (24 + n + 8 * k) Q (X ++ tl cS cF n h0 qS q1 q2 qF k sa 0 fa) 65 [(0, .ref h0), (1, .int (nI n)), (2, .int (nI k))] [] (some ()) := by
  obtain ⟨F, hK, hA, hZ, hN, hr, hlocks, hin2⟩ := G
  intro r
  induction r with
  | zero =>
    intro k sa hk
    have hk : k = n := by omega
    subst hk
    refine sk_iload_n F dX3_init_65 rfl 2 rfl ?_
    refine sk_iload_n F dX3_init_66 rfl 1 rfl ?_
    refine sk_eq (K' := if nI k ≤ nI k then some () else some ()) (ite_self _).symm ?_
    refine sk_icmp_ge F 89 dX3_init_67 (by decide) (fun h => ?_) (fun h => absurd (nI_le (Nat.le_refl k) (by omega)) h)
    exact kk sa _
  | succ r ih =>
    intro k sa hk
    refine sk_iload_n F dX3_init_65 rfl 2 rfl ?_
    refine sk_iload_n F dX3_init_66 rfl 1 rfl ?_
    refine sk_eq (K' := if nI n ≤ nI k then some () else some ()) (ite_self _).symm ?_
    refine sk_icmp_ge F 89 dX3_init_67 (by decide) (fun h => absurd h (nI_ge (by omega) (by omega))) (fun h => ?_)
    refine sk_aload_n F dX3_init_70 rfl 0 rfl ?_
    refine sk_gx (ref := "TunnelWatch$Tube") (x := .ref qS) F hK 0 rfl rfl (by decide +kernel) 0 (by decide) (by decide +kernel) (fun _ h9 => h9) rfl dX3_init_71 ?_
    refine sk_iload_n F dX3_init_74 rfl 2 rfl ?_
    refine sk_nx (ci := 2) (fs := [.int 0, .int 0, .int 0, .int 0, .int 0, .int 0, .int 0, .int 0]) F hK hA rfl (by decide +kernel) tyX2 tyX2_ok (by decide +kernel) (by decide +kernel) (by decide +kernel) (fun j hj => by rcases (show j = 0 ∨ j = 1 ∨ j = 2 ∨ j = 3 ∨ j = 4 ∨ j = 5 ∨ j = 6 ∨ j = 7 by omega) with rfl | rfl | rfl | rfl | rfl | rfl | rfl | rfl <;> rfl) (by show _ ≤ 40; omega) (by show _ ≤ 348; omega) dX3_init_75 (fun q => ?_)
    refine sk_dup F dX3_init_78 rfl ?_
    refine sk_eqw (List.append_assoc _ _ _).symm ?_
    refine sk_ctorN (As := []) (rest := [.ref q, .int (nI k), .ref qS]) F hK hA hZ hN nX2 ⟨va_cnB 0 F.2.2.2.2 gX3_init_X2_init_n46 rfl rfl rfl hN.2.2.1 (F.2.2.2.2 _ (by decide +kernel)) (by decide +kernel) ⟨Nat.le_of_ble_eq_true rfl, Nat.le_of_ble_eq_true rfl⟩, rfl, F.2.2.2.2 _ (by decide +kernel)⟩ rfl rfl (Nat.le_of_ble_eq_true rfl) ⟨by show _ ≤ 40; omega, by show _ ≤ 348; omega⟩ dX3_init_79 (fun u hu => ?_)
    refine sk_eqw (List.append_assoc _ _ _) ?_
    refine sk_aasx (r := (RX2, TX2, 8)) (l1 := tl cS cF n h0 qS q1 q2 qF (k + 1) (va_up sa k q) 0 fa) F hK 4 1 (5 + k + 0) 2 rfl rfl tl_last rfl (nI_in (by omega) (by omega)) (by rw [nI_clamp (by omega)]; exact tl_setS) dX3_init_82 ?_
    refine sk_iinc (y := nI k + 1) F dX3_init_83 2 rfl rfl (by decide) rfl ?_
    refine sk_goto F 65 dX3_init_86 (by decide) ?_
    rw [nI_1]
    exact sk_widen (by omega) (by omega) (sk_lv [1, 2, 0] rfl (ih (k + 1) (va_up sa k q) (by omega)))
end TUBE
set_option maxRecDepth 100000 in
set_option maxHeartbeats 4000000 in
theorem nX3 {l : Launch} {D : va_G} {A : Nat → Prop} {cI cS cF cZ cJ : ClassId} {X : va_W} {h0 n : Nat} (hn : n ≤ 24) : CN l yX3_init wsX3_init rmX3_init 40 348 D A (ty5 cI cS cF cZ cJ) [.ref h0, .int (nI n)] (X ++ [(h0, .inr (3, [.null, .null, .null, .null, .int 0, .int 0, .int 0, .int 0, .int 0, .int 0, .int 0, .int 0]))]) (fun _ : (Nat × Nat × Nat × Nat) × (Nat → Nat) × (Nat → Nat) => True) (fun z => X ++ tl cS cF n h0 z.1.1 z.1.2.1 z.1.2.2.1 z.1.2.2.2 n z.2.1 12 z.2.2) := by
  refine CN_of (cc := cX3_init) (maxL := 3) (by decide) rfl rfl (Nat.le_of_ble_eq_true rfl) (fun p e s m below meth c G => ?_)
  have G0 := G
  obtain ⟨F, hK, hA, hZ, hN, hr, hlocks, hin2⟩ := G
  refine sk_aload_n F dX3_init_0 rfl 0 rfl ?_
  refine sk_objI F (by decide +kernel) (by decide +kernel) (by decide +kernel) dX3_init_1 (by decide) (by decide) ?_
  refine sk_aload_n F dX3_init_4 rfl 0 rfl ?_
  refine sk_nx (ci := 0) (fs := [.int 0, .int 0, .int 0, .int 0, .int 0, .int 0]) F hK hA rfl (by decide +kernel) tyX0 tyX0_ok (by decide +kernel) (by decide +kernel) (by decide +kernel) (fun j hj => by rcases (show j = 0 ∨ j = 1 ∨ j = 2 ∨ j = 3 ∨ j = 4 ∨ j = 5 by omega) with rfl | rfl | rfl | rfl | rfl | rfl <;> rfl) (by decide) (by decide) dX3_init_5 (fun q1 => ?_)
  refine sk_dup F dX3_init_8 rfl ?_
  refine sk_eqw (List.append_assoc _ _ _).symm ?_
  refine sk_ctorN (As := []) (rest := [.ref q1, .ref h0]) F hK hA hZ hN nX0_0 ⟨va_cnB 0 F.2.2.2.2 gX3_init_X0_init_n11 rfl rfl rfl hN.2.1 (F.2.2.2.2 _ (by decide +kernel)) (by decide +kernel) ⟨Nat.le_of_ble_eq_true rfl, Nat.le_of_ble_eq_true rfl⟩, rfl, F.2.2.2.2 _ (by decide +kernel)⟩ rfl rfl (Nat.le_of_ble_eq_true rfl) (by decide) dX3_init_9 (fun u hu => ?_)
  refine sk_eqw (List.append_assoc _ _ _) ?_
  refine sk_pxF (ref := "TunnelWatch$Tube") (ty := .object "TunnelWatch$Device") (l1 := [(h0, .inr (3, [.null, .ref q1, .null, .null, .int 0, .int 0, .int 0, .int 0, .int 0, .int 0, .int 0, .int 0])), (q1, .inr (0, dev1))]) F hK 0 rfl rfl (by decide +kernel) tyX3 tyX3_ok nmX3 1 (Nat.le_of_ble_eq_true rfl) (by decide +kernel) (fun _ h9 => h9) rfl hin2 rfl (by decide +kernel) rfl rfl (Nat.le_of_ble_eq_true rfl) rfl dX3_init_12 ?_
  refine sk_aload_n F dX3_init_15 rfl 0 rfl ?_
  refine sk_nx (ci := 0) (fs := [.int 0, .int 0, .int 0, .int 0, .int 0, .int 0]) F hK hA rfl (by decide +kernel) tyX0 tyX0_ok (by decide +kernel) (by decide +kernel) (by decide +kernel) (fun j hj => by rcases (show j = 0 ∨ j = 1 ∨ j = 2 ∨ j = 3 ∨ j = 4 ∨ j = 5 by omega) with rfl | rfl | rfl | rfl | rfl | rfl <;> rfl) (by decide) (by decide) dX3_init_16 (fun q2 => ?_)
  refine sk_dup F dX3_init_19 rfl ?_
  refine sk_eqw (List.append_assoc _ _ _).symm ?_
  refine sk_ctorN (As := []) (rest := [.ref q2, .ref h0]) F hK hA hZ hN nX0_0 ⟨va_cnB 0 F.2.2.2.2 gX3_init_X0_init_n11 rfl rfl rfl hN.2.1 (F.2.2.2.2 _ (by decide +kernel)) (by decide +kernel) ⟨Nat.le_of_ble_eq_true rfl, Nat.le_of_ble_eq_true rfl⟩, rfl, F.2.2.2.2 _ (by decide +kernel)⟩ rfl rfl (Nat.le_of_ble_eq_true rfl) (by decide) dX3_init_20 (fun u hu => ?_)
  refine sk_eqw (List.append_assoc _ _ _) ?_
  refine sk_pxF (ref := "TunnelWatch$Tube") (ty := .object "TunnelWatch$Device") (l1 := [(h0, .inr (3, [.null, .ref q1, .ref q2, .null, .int 0, .int 0, .int 0, .int 0, .int 0, .int 0, .int 0, .int 0])), (q1, .inr (0, dev1)), (q2, .inr (0, dev1))]) F hK 0 rfl rfl (by decide +kernel) tyX3 tyX3_ok nmX3 2 (Nat.le_of_ble_eq_true rfl) (by decide +kernel) (fun _ h9 => h9) rfl hin2 rfl (by decide +kernel) rfl rfl (Nat.le_of_ble_eq_true rfl) rfl dX3_init_23 ?_
  refine sk_aload_n F dX3_init_26 rfl 0 rfl ?_
  refine sk_bipush (x := 12) F dX3_init_27 (by decide) ?_
  refine sk_nqx (C := "TunnelWatch$Fan") (N' := 12) F hK hA 2 rfl (by decide +kernel) hN.2.2.2.2.2 (by decide) (by decide) (by decide) (by decide) (by decide) dX3_init_29 (fun qF => ?_)
  refine sk_pxF (ref := "TunnelWatch$Tube") (ty := .array (.object "TunnelWatch$Fan")) (l1 := [(h0, .inr (3, [.null, .ref q1, .ref q2, .ref qF, .int 0, .int 0, .int 0, .int 0, .int 0, .int 0, .int 0, .int 0])), (q1, .inr (0, dev1)), (q2, .inr (0, dev1)), (qF, .inl (cF, 12, .inr (.inr (.inr (.inr (fun _ => none))))))]) F hK 0 rfl rfl (by decide +kernel) tyX3 tyX3_ok nmX3 3 (Nat.le_of_ble_eq_true rfl) (by decide +kernel) (fun _ h9 => h9) rfl hin2 rfl (by decide +kernel) rfl rfl (Nat.le_of_ble_eq_true rfl) rfl dX3_init_32 ?_
  refine sk_aload_n F dX3_init_35 rfl 0 rfl ?_
  refine sk_iconst (x := 1) F dX3_init_36 (by decide) ?_
  refine sk_px (ref := "TunnelWatch$Tube") (ty := .int) (l1 := [(h0, .inr (3, [.null, .ref q1, .ref q2, .ref qF, .int 0, .int 0, .int 1, .int 0, .int 0, .int 0, .int 0, .int 0])), (q1, .inr (0, dev1)), (q2, .inr (0, dev1)), (qF, .inl (cF, 12, .inr (.inr (.inr (.inr (fun _ => none))))))]) F hK 0 rfl rfl (by decide +kernel) tyX3 tyX3_ok nmX3 6 (Nat.le_of_ble_eq_true rfl) (by decide +kernel) (fun _ h9 => h9) rfl (by decide +kernel) rfl rfl (Nat.le_of_ble_eq_true rfl) rfl dX3_init_37 ?_
  refine sk_aload_n F dX3_init_40 rfl 0 rfl ?_
  refine sk_iconst (x := 1) F dX3_init_41 (by decide) ?_
  refine sk_px (ref := "TunnelWatch$Tube") (ty := .int) (l1 := [(h0, .inr (3, [.null, .ref q1, .ref q2, .ref qF, .int 0, .int 0, .int 1, .int 0, .int 1, .int 0, .int 0, .int 0])), (q1, .inr (0, dev1)), (q2, .inr (0, dev1)), (qF, .inl (cF, 12, .inr (.inr (.inr (.inr (fun _ => none))))))]) F hK 0 rfl rfl (by decide +kernel) tyX3 tyX3_ok nmX3 8 (Nat.le_of_ble_eq_true rfl) (by decide +kernel) (fun _ h9 => h9) rfl (by decide +kernel) rfl rfl (Nat.le_of_ble_eq_true rfl) rfl dX3_init_42 ?_
  refine sk_aload_n F dX3_init_45 rfl 0 rfl ?_
  refine sk_iconst (x := 0) F dX3_init_46 (by decide) ?_
  refine sk_px (ref := "TunnelWatch$Tube") (ty := .int) (l1 := [(h0, .inr (3, [.null, .ref q1, .ref q2, .ref qF, .int 0, .int 0, .int 1, .int 0, .int 1, .int 0, .int 0, .int 0])), (q1, .inr (0, dev1)), (q2, .inr (0, dev1)), (qF, .inl (cF, 12, .inr (.inr (.inr (.inr (fun _ => none))))))]) F hK 0 rfl rfl (by decide +kernel) tyX3 tyX3_ok nmX3 10 (Nat.le_of_ble_eq_true rfl) (by decide +kernel) (fun _ h9 => h9) rfl (by decide +kernel) rfl rfl (Nat.le_of_ble_eq_true rfl) rfl dX3_init_47 ?_
  refine sk_aload_n F dX3_init_50 rfl 0 rfl ?_
  refine sk_iconst (x := (-1)) F dX3_init_51 (by decide) ?_
  refine sk_px (ref := "TunnelWatch$Tube") (ty := .int) (l1 := [(h0, .inr (3, [.null, .ref q1, .ref q2, .ref qF, .int 0, .int 0, .int 1, .int 0, .int 1, .int 0, .int 0, .int (-1)])), (q1, .inr (0, dev1)), (q2, .inr (0, dev1)), (qF, .inl (cF, 12, .inr (.inr (.inr (.inr (fun _ => none))))))]) F hK 0 rfl rfl (by decide +kernel) tyX3 tyX3_ok nmX3 11 (Nat.le_of_ble_eq_true rfl) (by decide +kernel) (fun _ h9 => h9) rfl (by decide +kernel) rfl rfl (Nat.le_of_ble_eq_true rfl) rfl dX3_init_52 ?_
  refine sk_aload_n F dX3_init_55 rfl 0 rfl ?_
  refine sk_iload_n F dX3_init_56 rfl 1 rfl ?_
  refine sk_nqx (C := "TunnelWatch$Section") (N' := n) F hK hA 1 rfl (by decide +kernel) hN.2.2.2.2.1 (nI_pos (by omega)) (nI_clamp (by omega)) (by omega) (by decide) (by show _ ≤ 348; omega) dX3_init_57 (fun qS => ?_)
  refine sk_pxF (ref := "TunnelWatch$Tube") (ty := .array (.object "TunnelWatch$Section")) (l1 := [(h0, .inr (3, [.ref qS, .ref q1, .ref q2, .ref qF, .int 0, .int 0, .int 1, .int 0, .int 1, .int 0, .int 0, .int (-1)])), (q1, .inr (0, dev1)), (q2, .inr (0, dev1)), (qF, .inl (cF, 12, .inr (.inr (.inr (.inr (fun _ => none)))))), (qS, .inl (cS, n, .inr (.inr (.inr (.inr (fun _ => none))))))]) F hK 0 rfl rfl (by decide +kernel) tyX3 tyX3_ok nmX3 0 (Nat.le_of_ble_eq_true rfl) (by decide +kernel) (fun _ h9 => h9) rfl hin2 rfl (by decide +kernel) rfl rfl (Nat.le_of_ble_eq_true rfl) rfl dX3_init_60 ?_
  refine sk_iconst (x := 0) F dX3_init_63 (by decide) ?_
  refine sk_istore_n F dX3_init_64 rfl (by decide) rfl ?_
  refine sk_eqw (ws' := X ++ tl cS cF n h0 qS q1 q2 qF 0 (fun _ => 0) 0 (fun _ => 0)) rfl ?_
  refine sk_widen (c1 := 4 + 0) (z1 := 24 + n + 8 * 0) (by decide) (by omega) ?_
  refine sk_lv [1, 2, 0] rfl ?_
  refine kX3_secs G0 hn (fun sa x => ?_) n 0 (fun _ => 0) (by omega)
  refine sk_iconst (x := 0) F dX3_init_89 (by decide) ?_
  refine sk_istore_n F dX3_init_90 rfl (by decide) rfl ?_
  refine sk_lv [1, 2, 0] rfl ?_
  refine sk_widen (c1 := 4 + n + 0) (z1 := 24 + n + 8 * n + 9 * 0) (by omega) (by omega) ?_
  refine kX3_fans G0 hn (fun fa x => ?_) 12 0 (fun _ => 0) (by omega)
  exact sk_nvret F hK hr hlocks ((qS, q1, q2, qF), sa, fa) trivial rfl (by decide) (by decide) dX3_init_116
