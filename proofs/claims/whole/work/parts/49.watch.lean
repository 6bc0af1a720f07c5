theorem vp_cell_cut (cA : ClassId) (n : Nat) (f : Nat → Option Nat) : vp_cell cA (n, .inr (.inr (.inr (.inr (fun j => if j < n then f j else none))))) = vp_cell cA (n, .inr (.inr (.inr (.inr f)))) := by
  rw [vp_cell_q, vp_cell_q]
  unfold arrV
  congr 1
  congr 1
  funext j
  show va_rf (if j.val < n then f j.val else none) = va_rf (f j.val)
  rw [if_pos j.isLt]
def cutq (q : Nat × va_E) : Nat × va_E := match q with
  | (a, .inl (cA, n, .inr (.inr (.inr (.inr f))))) => (a, .inl (cA, n, .inr (.inr (.inr (.inr (fun j => if j < n then f j else none))))))
  | q => q
theorem cutq_1 (q : Nat × va_E) : (cutq q).1 = q.1 := by
  unfold cutq
  split <;> rfl
theorem cutq_at {D : va_G} {cl : List vw_C} (q : Nat × va_E) (H : Heap) (h : va_at D cl (cutq q) H) : va_at D cl q H := by
  unfold cutq at h
  split at h
  · simp only [va_at] at h ⊢
    rw [vp_cell_cut] at h
    exact h
  · exact h
theorem cut_P {D : va_G} {cl : List vw_C} {X l l' : va_W} {H : Heap} (he : l.map cutq = l') (h : va_P D cl (X ++ l') H) : va_P D cl (X ++ l) H := by
  subst he
  intro k q hq
  have hm := List.mem_of_getElem? hq
  rcases List.mem_append.mp hm with h1 | h1
  · obtain ⟨i, hi⟩ := List.getElem?_of_mem (List.mem_append_left (l.map cutq) h1)
    exact h i q hi
  · obtain ⟨i, hi⟩ := List.getElem?_of_mem (List.mem_append_right X (List.mem_map_of_mem (f := cutq) h1))
    exact cutq_at q H (h i _ hi)
theorem cut_D {A : Nat → Prop} {X l l' : va_W} (he : l.map cutq = l') (h : va_D A (X ++ l')) : va_D A (X ++ l) := by
  subst he
  rw [va_D_nd] at h ⊢
  refine ⟨?_, fun q hq => ?_⟩
  · have e : (X ++ l.map cutq).map (fun q => q.1) = (X ++ l).map (fun q => q.1) := by
      rw [List.map_append, List.map_append, List.map_map]
      congr 1
      exact List.map_congr_left (fun q _ => cutq_1 q)
    rw [← e]
    exact h.1
  · rcases List.mem_append.mp hq with h1 | h1
    · exact h.2 q (List.mem_append_left _ h1)
    · have := h.2 (cutq q) (List.mem_append_right _ (List.mem_map_of_mem (f := cutq) h1))
      rw [cutq_1] at this
      exact this
theorem tl_congr {cS cF : ClassId} {n h0 qS q1 q2 qF : Nat} {sa sb fa fb : Nat → Nat} (hs : ∀ j, j < n → sa j = sb j) (hf : ∀ j, j < 12 → fa j = fb j) : tl cS cF n h0 qS q1 q2 qF n sa 12 fa = tl cS cF n h0 qS q1 q2 qF n sb 12 fb := by
  have e1 : gk n sa = gk n sb := by
    funext j
    unfold gk
    by_cases h : j < n
    · rw [if_pos h, if_pos h, hs j h]
    · rw [if_neg h, if_neg h]
  have e2 : gk 12 fa = gk 12 fb := by
    funext j
    unfold gk
    by_cases h : j < 12
    · rw [if_pos h, if_pos h, hf j h]
    · rw [if_neg h, if_neg h]
  have e3 : secs n sa = secs n sb := List.map_congr_left (fun j hj => by rw [hs j (List.mem_range.mp hj)])
  have e4 : fans 12 fa = fans 12 fb := List.map_congr_left (fun j hj => by rw [hf j (List.mem_range.mp hj)])
  unfold tl
  rw [e1, e2, e3, e4]
/-- a new watch: what lies where, by numbers of values -/
def cdq (q j : Nat) : Nat := if q = 0 then (if j = 6 then 1 else if j = 8 then 1 else if j = 11 then 2 else 0) else if q < 3 then 0 else if q < 17 then (if j = 3 then 1 else 0) else (if j = 4 then 1 else if j = 6 then 1 else 0)
def cdV (o j : Nat) : Nat := if o = 0 then (if j = 0 then 3 else if j = 1 then 4 else if j = 5 then 5 else 0) else if o = 1 then 0 else cdq (if o < 43 then o - 2 else o - 43) j
def vl (a b c : Int32) (k : Nat) : Int32 := if k = 0 then 0 else if k = 1 then 1 else if k = 2 then -1 else if k = 3 then a else if k = 4 then b else c
def v0 (n : Nat) (r m : Int32) : Mem := fun o k => vl (nI n) r m (cdV o k)
theorem cdV_q {t q j : Nat} (ht : t < 2) (hq : q < 41) : cdV (2 + 41 * t + q) j = cdq q j := by
  unfold cdV
  rcases (show t = 0 ∨ t = 1 by omega) with rfl | rfl
  · rw [if_neg (by omega), if_neg (by omega), if_pos (by omega)]
    congr 1
    omega
  · rw [if_neg (by omega), if_neg (by omega), if_neg (by omega)]
    congr 1
    omega
theorem cdq_f {q j : Nat} (h1 : 3 ≤ q) (h2 : q < 17) : cdq q j = if j = 3 then 1 else 0 := by
  unfold cdq
  rw [if_neg (by omega), if_neg (by omega), if_pos h2]
theorem cdq_s {q j : Nat} (h1 : 17 ≤ q) : cdq q j = if j = 4 then 1 else if j = 6 then 1 else 0 := by
  unfold cdq
  rw [if_neg (by omega), if_neg (by omega), if_neg (by omega)]
def tlo (o n : Nat) : List Nat := o :: (o + 3) :: (o + 4) :: (o + 2) :: (o + 1) :: ((List.range n).map (fun j => o + 17 + j) ++ (List.range 12).map (fun j => o + 5 + j))
def Mc (n : Nat) : List Nat := 0 :: (tlo 2 n ++ (tlo 43 n ++ [1]))
theorem Lc_perm : ∀ n, n < 25 → (Mc n).Perm (Lc n) := by
  have h : ∀ n, n < 25 → (Mc n).isPerm (Lc n) = true := by decide +kernel
  exact fun n hn => List.isPerm_iff.mp (h n hn)
theorem v0_q {n t q : Nat} {r m : Int32} (ht : t < 2) (hq : q < 41) (j : Nat) : v0 n r m (2 + 41 * t + q) j = vl (nI n) r m (cdq q j) := by
  unfold v0
  rw [cdV_q ht hq]
theorem tlo_ow {cI cS cF : ClassId} {ad : Nat → Nat} {n o : Nat} {r m : Int32} (hn : n ≤ 24) (h3 : kC n o = 3) : (ow (tlo o n) ad (shC cI cS cF ad n) (v0 n r m)).map cutq = tl cS cF n (ad o) (ad (o + 1)) (ad (o + 3)) (ad (o + 4)) (ad (o + 2)) n (fun j => ad (o + 17 + j)) 12 (fun j => ad (o + 5 + j)) := by
  obtain ⟨t, ht, eo⟩ : ∃ t, t < 2 ∧ o = 2 + 41 * t := by
    rcases kC_is3 h3 with rfl | rfl
    · exact ⟨0, by decide, rfl⟩
    · exact ⟨1, by decide, rfl⟩
  have f3 : ∀ j, v0 n r m o j = vl (nI n) r m (cdq 0 j) := fun j => by rw [eo]; exact v0_q (q := 0) ht (by decide) j
  have fd : ∀ q, 3 ≤ q → q < 17 → ∀ j, v0 n r m (o + q) j = vl (nI n) r m (if j = 3 then 1 else 0) := fun q h1 h2 j => by rw [eo, v0_q ht (by omega), cdq_f h1 h2]
  have fs : ∀ q, 17 ≤ q → q < 41 → ∀ j, v0 n r m (o + q) j = vl (nI n) r m (if j = 4 then 1 else if j = 6 then 1 else 0) := fun q h1 h2 j => by rw [eo, v0_q ht h2, cdq_s h1]
  unfold ow tlo tl
  simp only [List.map_cons, List.map_append, List.map_map]
  congr 1
  · rw [shC_3 h3]
    simp [cutq, f3, cdq, vl]
  congr 1
  · rw [shC_0 (kC_sig h3)]
    simp [cutq, fd 3 (by decide) (by decide), vl]
  congr 1
  · rw [shC_0 (kC_bar h3)]
    simp [cutq, fd 4 (by decide) (by decide), vl]
  congr 1
  · rw [shC_8 (kC_fan h3)]
    simp only [cutq]
    rfl
  congr 1
  · rw [shC_9 (kC_sec h3)]
    simp only [cutq]
    congr 6
  congr 1
  · refine List.map_congr_left (fun j hj => ?_)
    have hj := List.mem_range.mp hj
    simp only [Function.comp]
    rw [shC_2 (kC_s h3 hn hj)]
    have g := fs (17 + j) (by omega) (by omega)
    rw [show o + (17 + j) = o + 17 + j by omega] at g
    simp [cutq, g, vl]
  · refine List.map_congr_left (fun j hj => ?_)
    have hj := List.mem_range.mp hj
    simp only [Function.comp]
    rw [shC_1 (kC_f h3 hj)]
    have g := fd (5 + j) (by omega) (by omega)
    rw [show o + (5 + j) = o + 5 + j by omega] at g
    simp [cutq, g, vl]
def adT (h qS q1 q2 qF : Nat) (sa fa : Nat → Nat) (q : Nat) : Nat := if q = 0 then h else if q = 1 then qS else if q = 2 then qF else if q = 3 then q1 else if q = 4 then q2 else if q < 17 then fa (q - 5) else sa (q - 17)
def adW (h0 qc ht1 : Nat) (t1 : (Nat × Nat × Nat × Nat) × (Nat → Nat) × (Nat → Nat)) (ht2 : Nat) (t2 : (Nat × Nat × Nat × Nat) × (Nat → Nat) × (Nat → Nat)) (o : Nat) : Nat := if o = 0 then h0 else if o = 1 then qc else if o < 43 then adT ht1 t1.1.1 t1.1.2.1 t1.1.2.2.1 t1.1.2.2.2 t1.2.1 t1.2.2 (o - 2) else adT ht2 t2.1.1 t2.1.2.1 t2.1.2.2.1 t2.1.2.2.2 t2.2.1 t2.2.2 (o - 43)
theorem watch_ow {cI cS cF : ClassId} {n h0 qc ht1 ht2 : Nat} {t1 t2 : (Nat × Nat × Nat × Nat) × (Nat → Nat) × (Nat → Nat)} {r m : Int32} (hn : n ≤ 24) : (ow (Mc n) (adW h0 qc ht1 t1 ht2 t2) (shC cI cS cF (adW h0 qc ht1 t1 ht2 t2) n) (v0 n r m)).map cutq = (h0, .inr (4, [.int (nI n), .int r, .ref ht1, .ref ht2, .ref qc, .int m, .int 0, .int 0, .int 0])) :: (tl cS cF n ht1 t1.1.1 t1.1.2.1 t1.1.2.2.1 t1.1.2.2.2 n t1.2.1 12 t1.2.2 ++ (tl cS cF n ht2 t2.1.1 t2.1.2.1 t2.1.2.2.1 t2.1.2.2.2 n t2.2.1 12 t2.2.2 ++ [(qc, .inl (cI, 10, .inl (fun _ => 0)))])) := by
  have e : ∀ (L1 L2 : List Nat) (ad : Nat → Nat) (sh : Nat → (Nat → Int32) → va_E) (v : Mem), ow (L1 ++ L2) ad sh v = ow L1 ad sh v ++ ow L2 ad sh v := fun L1 L2 ad sh v => List.map_append
  have e0 : ow (Mc n) (adW h0 qc ht1 t1 ht2 t2) (shC cI cS cF (adW h0 qc ht1 t1 ht2 t2) n) (v0 n r m) = ow [0] (adW h0 qc ht1 t1 ht2 t2) (shC cI cS cF (adW h0 qc ht1 t1 ht2 t2) n) (v0 n r m) ++ (ow (tlo 2 n) (adW h0 qc ht1 t1 ht2 t2) (shC cI cS cF (adW h0 qc ht1 t1 ht2 t2) n) (v0 n r m) ++ (ow (tlo 43 n) (adW h0 qc ht1 t1 ht2 t2) (shC cI cS cF (adW h0 qc ht1 t1 ht2 t2) n) (v0 n r m) ++ ow [1] (adW h0 qc ht1 t1 ht2 t2) (shC cI cS cF (adW h0 qc ht1 t1 ht2 t2) n) (v0 n r m))) := by
    rw [← e, ← e, ← e]
    rfl
  rw [e0, List.map_append, List.map_append, List.map_append, tlo_ow hn (kC_2 n), tlo_ow hn (kC_43 n)]
  have a1 : ow [0] (adW h0 qc ht1 t1 ht2 t2) (shC cI cS cF (adW h0 qc ht1 t1 ht2 t2) n) (v0 n r m) = [(h0, .inr (4, [.int (nI n), .int r, .ref ht1, .ref ht2, .ref qc, .int m, .int 0, .int 0, .int 0]))] := by
    unfold ow
    simp only [List.map_cons, List.map_nil]
    rw [shC_4 (kC_0 n)]
    rfl
  have a2 : ow [1] (adW h0 qc ht1 t1 ht2 t2) (shC cI cS cF (adW h0 qc ht1 t1 ht2 t2) n) (v0 n r m) = [(qc, .inl (cI, 10, .inl (fun _ => 0)))] := by
    unfold ow
    simp only [List.map_cons, List.map_nil]
    rw [shC_6 (kC_1 n)]
    have : v0 n r m 1 = fun _ => 0 := by
      funext k
      rfl
    rw [this]
    rfl
  rw [a1, a2]
  have b1 : tl cS cF n (adW h0 qc ht1 t1 ht2 t2 2) (adW h0 qc ht1 t1 ht2 t2 (2 + 1)) (adW h0 qc ht1 t1 ht2 t2 (2 + 3)) (adW h0 qc ht1 t1 ht2 t2 (2 + 4)) (adW h0 qc ht1 t1 ht2 t2 (2 + 2)) n (fun j => adW h0 qc ht1 t1 ht2 t2 (2 + 17 + j)) 12 (fun j => adW h0 qc ht1 t1 ht2 t2 (2 + 5 + j)) = tl cS cF n ht1 t1.1.1 t1.1.2.1 t1.1.2.2.1 t1.1.2.2.2 n t1.2.1 12 t1.2.2 := by
    refine tl_congr (fun j hj => ?_) (fun j hj => ?_)
    · unfold adW adT
      rw [if_neg (by omega), if_neg (by omega), if_pos (by omega), if_neg (by omega), if_neg (by omega), if_neg (by omega), if_neg (by omega), if_neg (by omega), if_neg (by omega)]
      exact congrArg t1.2.1 (by omega)
    · unfold adW adT
      rw [if_neg (by omega), if_neg (by omega), if_pos (by omega), if_neg (by omega), if_neg (by omega), if_neg (by omega), if_neg (by omega), if_neg (by omega), if_pos (by omega)]
      exact congrArg t1.2.2 (by omega)
  have b2 : tl cS cF n (adW h0 qc ht1 t1 ht2 t2 43) (adW h0 qc ht1 t1 ht2 t2 (43 + 1)) (adW h0 qc ht1 t1 ht2 t2 (43 + 3)) (adW h0 qc ht1 t1 ht2 t2 (43 + 4)) (adW h0 qc ht1 t1 ht2 t2 (43 + 2)) n (fun j => adW h0 qc ht1 t1 ht2 t2 (43 + 17 + j)) 12 (fun j => adW h0 qc ht1 t1 ht2 t2 (43 + 5 + j)) = tl cS cF n ht2 t2.1.1 t2.1.2.1 t2.1.2.2.1 t2.1.2.2.2 n t2.2.1 12 t2.2.2 := by
    refine tl_congr (fun j hj => ?_) (fun j hj => ?_)
    · unfold adW adT
      rw [if_neg (by omega), if_neg (by omega), if_neg (by omega), if_neg (by omega), if_neg (by omega), if_neg (by omega), if_neg (by omega), if_neg (by omega), if_neg (by omega)]
      exact congrArg t2.2.1 (by omega)
    · unfold adW adT
      rw [if_neg (by omega), if_neg (by omega), if_neg (by omega), if_neg (by omega), if_neg (by omega), if_neg (by omega), if_neg (by omega), if_neg (by omega), if_pos (by omega)]
      exact congrArg t2.2.2 (by omega)
  rw [b1, b2]
  rfl
def rmX4_init : Room := { frames := 5, cells := 83, slots := 730, locals := 110 }
def kl (p0 p1 p2 : Int32) : Int32 := if p1 < (if p0 < p2 then p0 else p2) then (if p0 < p2 then p0 else p2) else p1
theorem sk_clamp {p : Program} {l : Launch} {e : Env} {s : State} {m : MethodId} {args : Array Value} {below : List Frame} {meth : Method} {c : Code} {D : va_G} {A : Nat → Prop} {tys : List (ClassId × FieldType)} {cells slots : Nat} {ρ : Type} {Q : ρ → State → Prop} {ws : va_W} {pc : Nat} {lv : List (Nat × Value)} {a : Nat} {K : Option ρ} {x y z : Int32} (F : CallFix p m c cX4_init 4 s args wsX4_init RX4) (hK : va_K D vwCl tys s) (hA : ∀ q, s.heap.size ≤ q → A q) (hZ : zz A s s.heap) (hd : decode cX4_init pc = .ok (.invokestatic 9, 3)) (hf : cells ≤ 83 ∧ slots ≤ 730) (kk : sk p l e rmX4_init s m args below meth c D A 4 cells slots Q ws (pc + 3) lv [.int (kl x y z), .ref a] K) : sk p l e rmX4_init s m args below meth c D A 4 cells slots Q ws pc lv [.int z, .int y, .int x, .ref a] K := by
  refine sk_eq (K' := bd (some (kl x y z, ws)) (fun _ _ => K)) rfl ?_
  refine sk_callSi (Ws := fun w : va_W => w) (v := ws) (Kc := some (kl x y z, ws)) (As := [.int x, .int y, .int z]) (rest := [.ref a]) F hK hA hZ (fun _ _ => K) (tclamp ws) (va_cwS 3 F.2.2.2.2 gX4_init_X4_clamp rfl rfl rfl (by decide +kernel) ⟨Nat.le_of_ble_eq_true rfl, Nat.le_of_ble_eq_true rfl⟩) rfl rfl (Nat.le_of_ble_eq_true rfl) hf hd (fun r v1 c1 => ?_)
  cases c1
  exact kk
set_option maxRecDepth 100000 in
set_option maxHeartbeats 4000000 in
theorem nX4 {l : Launch} {D : va_G} {A : Nat → Prop} {cI cS cF cZ cJ : ClassId} {X : va_W} {h0 n : Nat} (hn : n ≤ 24) {p1 p2 p3 : Int32} (hp : kl p1 2 24 = nI n) : CN l yX4_init wsX4_init rmX4_init 83 730 D A (ty5 cI cS cF cZ cJ) [.ref h0, .int p1, .int p2, .int p3] (X ++ [(h0, .inr (4, [.int 0, .int 0, .null, .null, .null, .int 0, .int 0, .int 0, .int 0]))]) (fun ad : Nat → Nat => ad 0 = h0) (fun ad => Wc cI cS cF ad n X (v0 n (kl p2 0 300) (kl p3 0 100000))) := by
  refine CN_of (cc := cX4_init) (maxL := 4) (by decide) rfl rfl (Nat.le_of_ble_eq_true rfl) (fun p e s m below meth c G => ?_)
  obtain ⟨F, hK, hA, hZ, hN, hr, hlocks, hin2⟩ := G
  refine sk_aload_n F dX4_init_0 rfl 0 rfl ?_
  refine sk_objI F (by decide +kernel) (by decide +kernel) (by decide +kernel) dX4_init_1 (by decide) (by decide) ?_
  refine sk_aload_n F dX4_init_4 rfl 0 rfl ?_
  refine sk_iload_n F dX4_init_5 rfl 1 rfl ?_
  refine sk_iconst (x := 2) F dX4_init_6 (by decide) ?_
  refine sk_bipush (x := 24) F dX4_init_7 (by decide) ?_
  refine sk_clamp F hK hA hZ dX4_init_9 (by decide) ?_
  rw [hp]
  refine sk_pxF (ref := "TunnelWatch") (ty := .int) (l1 := [(h0, .inr (4, [.int (nI n), .int 0, .null, .null, .null, .int 0, .int 0, .int 0, .int 0]))]) F hK 0 rfl rfl (by decide +kernel) tyX4 tyX4_ok nmX4 0 (Nat.le_of_ble_eq_true rfl) (by decide +kernel) (fun _ h9 => h9) rfl hin2 rfl (by decide +kernel) rfl rfl (Nat.le_of_ble_eq_true rfl) rfl dX4_init_12 ?_
  refine sk_aload_n F dX4_init_15 rfl 0 rfl ?_
  refine sk_iload_n F dX4_init_16 rfl 2 rfl ?_
  refine sk_iconst (x := 0) F dX4_init_17 (by decide) ?_
  refine sk_sipush (x := 300) F dX4_init_18 (by decide) ?_
  refine sk_clamp F hK hA hZ dX4_init_21 (by decide) ?_
  refine sk_pxF (ref := "TunnelWatch") (ty := .int) (l1 := [(h0, .inr (4, [.int (nI n), .int (kl p2 0 300), .null, .null, .null, .int 0, .int 0, .int 0, .int 0]))]) F hK 0 rfl rfl (by decide +kernel) tyX4 tyX4_ok nmX4 1 (Nat.le_of_ble_eq_true rfl) (by decide +kernel) (fun _ h9 => h9) rfl hin2 rfl (by decide +kernel) rfl rfl (Nat.le_of_ble_eq_true rfl) rfl dX4_init_24 ?_
  refine sk_aload_n F dX4_init_27 rfl 0 rfl ?_
  refine sk_iload_n F dX4_init_28 rfl 3 rfl ?_
  refine sk_iconst (x := 0) F dX4_init_29 (by decide) ?_
  refine sk_ldc (x := 100000) F dX4_init_30 (F.2.2.2.2 _ (by decide +kernel)) ?_
  refine sk_clamp F hK hA hZ dX4_init_32 (by decide) ?_
  refine sk_px (ref := "TunnelWatch") (ty := .int) (l1 := [(h0, .inr (4, [.int (nI n), .int (kl p2 0 300), .null, .null, .null, .int (kl p3 0 100000), .int 0, .int 0, .int 0]))]) F hK 0 rfl rfl (by decide +kernel) tyX4 tyX4_ok nmX4 5 (Nat.le_of_ble_eq_true rfl) (by decide +kernel) (fun _ h9 => h9) rfl (by decide +kernel) rfl rfl (Nat.le_of_ble_eq_true rfl) rfl dX4_init_35 ?_
  refine sk_aload_n F dX4_init_38 rfl 0 rfl ?_
  refine sk_nx (ci := 3) (fs := [.null, .null, .null, .null, .int 0, .int 0, .int 0, .int 0, .int 0, .int 0, .int 0, .int 0]) F hK hA rfl (by decide +kernel) tyX3 tyX3_ok (by decide +kernel) (by decide +kernel) (by decide +kernel) (fun j hj => by rcases (show j = 0 ∨ j = 1 ∨ j = 2 ∨ j = 3 ∨ j = 4 ∨ j = 5 ∨ j = 6 ∨ j = 7 ∨ j = 8 ∨ j = 9 ∨ j = 10 ∨ j = 11 by omega) with rfl | rfl | rfl | rfl | rfl | rfl | rfl | rfl | rfl | rfl | rfl | rfl <;> rfl) (by decide) (by decide) dX4_init_39 (fun t1 => ?_)
  refine sk_dup F dX4_init_42 rfl ?_
  refine sk_aload_n F dX4_init_43 rfl 0 rfl ?_
  refine sk_gx (ref := "TunnelWatch") (x := .int (nI n)) F hK 0 rfl rfl (by decide +kernel) 0 (by decide) (by decide +kernel) (fun _ h9 => h9) rfl dX4_init_44 ?_
  refine sk_eqw (List.append_assoc _ _ _).symm ?_
  refine sk_ctorI (As := [.int (nI n)]) (rest := [.ref t1, .ref h0]) F hK hA hZ hN (nX3 hn) ⟨callB_of 1 F.2.2.2.2 gX4_init_X3_init rfl rfl rfl (F.2.2.2.2 _ (by decide +kernel)) (F.2.2.2.2 _ (by decide +kernel)) (by decide +kernel) ⟨Nat.le_of_ble_eq_true rfl, Nat.le_of_ble_eq_true rfl⟩, rfl, F.2.2.2.2 _ (by decide +kernel)⟩ rfl rfl (Nat.le_of_ble_eq_true rfl) (by decide) dX4_init_47 (fun z1 hu => ?_)
  refine sk_eqw (List.append_assoc _ _ _) ?_
  refine sk_pxF (ref := "TunnelWatch") (ty := .object "TunnelWatch$Tube") (l1 := ((h0, .inr (4, [.int (nI n), .int (kl p2 0 300), .ref t1, .null, .null, .int (kl p3 0 100000), .int 0, .int 0, .int 0])) :: tl cS cF n t1 z1.1.1 z1.1.2.1 z1.1.2.2.1 z1.1.2.2.2 n z1.2.1 12 z1.2.2)) F hK 0 rfl rfl (by decide +kernel) tyX4 tyX4_ok nmX4 2 (Nat.le_of_ble_eq_true rfl) (by decide +kernel) (fun _ h9 => h9) rfl hin2 rfl (by decide +kernel) rfl rfl (Nat.le_of_ble_eq_true rfl) rfl dX4_init_50 ?_
  refine sk_aload_n F dX4_init_53 rfl 0 rfl ?_
  refine sk_nx (ci := 3) (fs := [.null, .null, .null, .null, .int 0, .int 0, .int 0, .int 0, .int 0, .int 0, .int 0, .int 0]) F hK hA rfl (by decide +kernel) tyX3 tyX3_ok (by decide +kernel) (by decide +kernel) (by decide +kernel) (fun j hj => by rcases (show j = 0 ∨ j = 1 ∨ j = 2 ∨ j = 3 ∨ j = 4 ∨ j = 5 ∨ j = 6 ∨ j = 7 ∨ j = 8 ∨ j = 9 ∨ j = 10 ∨ j = 11 by omega) with rfl | rfl | rfl | rfl | rfl | rfl | rfl | rfl | rfl | rfl | rfl | rfl <;> rfl) (by decide) (by decide) dX4_init_54 (fun t2 => ?_)
  refine sk_dup F dX4_init_57 rfl ?_
  refine sk_aload_n F dX4_init_58 rfl 0 rfl ?_
  refine sk_gx (ref := "TunnelWatch") (x := .int (nI n)) F hK 0 rfl rfl (by decide +kernel) 0 (by decide) (by decide +kernel) (fun _ h9 => h9) rfl dX4_init_59 ?_
  refine sk_eqw (List.append_assoc _ _ _).symm ?_
  refine sk_ctorI (As := [.int (nI n)]) (rest := [.ref t2, .ref h0]) F hK hA hZ hN (nX3 hn) ⟨callB_of 1 F.2.2.2.2 gX4_init_X3_init rfl rfl rfl (F.2.2.2.2 _ (by decide +kernel)) (F.2.2.2.2 _ (by decide +kernel)) (by decide +kernel) ⟨Nat.le_of_ble_eq_true rfl, Nat.le_of_ble_eq_true rfl⟩, rfl, F.2.2.2.2 _ (by decide +kernel)⟩ rfl rfl (Nat.le_of_ble_eq_true rfl) (by decide) dX4_init_62 (fun z2 hu => ?_)
  refine sk_eqw (List.append_assoc _ _ _) ?_
  refine sk_pxF (ref := "TunnelWatch") (ty := .object "TunnelWatch$Tube") (l1 := ((h0, .inr (4, [.int (nI n), .int (kl p2 0 300), .ref t1, .ref t2, .null, .int (kl p3 0 100000), .int 0, .int 0, .int 0])) :: (tl cS cF n t1 z1.1.1 z1.1.2.1 z1.1.2.2.1 z1.1.2.2.2 n z1.2.1 12 z1.2.2 ++ tl cS cF n t2 z2.1.1 z2.1.2.1 z2.1.2.2.1 z2.1.2.2.2 n z2.2.1 12 z2.2.2))) F hK 0 rfl rfl (by decide +kernel) tyX4 tyX4_ok nmX4 3 (Nat.le_of_ble_eq_true rfl) (by decide +kernel) (fun _ h9 => h9) rfl hin2 rfl (by decide +kernel) rfl rfl (Nat.le_of_ble_eq_true rfl) rfl dX4_init_65 ?_
  refine sk_aload_n F dX4_init_68 rfl 0 rfl ?_
  refine sk_bipush (x := 10) F dX4_init_69 (by decide) ?_
  refine sk_nax F hK hA 0 (a0 := (10, .inl (fun _ => 0))) (ty := .int) rfl (by decide +kernel) rfl (fun _ => rfl) (by decide) (by decide) (by decide) (by decide) (by decide) dX4_init_71 (fun qc => ?_)
  refine sk_pxF (ref := "TunnelWatch") (ty := .array .int) (l1 := ((h0, .inr (4, [.int (nI n), .int (kl p2 0 300), .ref t1, .ref t2, .ref qc, .int (kl p3 0 100000), .int 0, .int 0, .int 0])) :: ((tl cS cF n t1 z1.1.1 z1.1.2.1 z1.1.2.2.1 z1.1.2.2.2 n z1.2.1 12 z1.2.2 ++ tl cS cF n t2 z2.1.1 z2.1.2.1 z2.1.2.2.1 z2.1.2.2.2 n z2.2.1 12 z2.2.2) ++ [(qc, .inl (cI, 10, .inl (fun _ => 0)))]))) F hK 0 rfl rfl (by decide +kernel) tyX4 tyX4_ok nmX4 4 (Nat.le_of_ble_eq_true rfl) (by decide +kernel) (fun _ h9 => h9) rfl hin2 rfl (by decide +kernel) rfl rfl (Nat.le_of_ble_eq_true rfl) rfl dX4_init_73 ?_
  have ee := watch_ow (cI := cI) (cS := cS) (cF := cF) (h0 := h0) (qc := qc) (ht1 := t1) (ht2 := t2) (t1 := z1) (t2 := z2) (r := kl p2 0 300) (m := kl p3 0 100000) hn
  rw [← List.append_assoc] at ee
  refine sk_imp (fun H hP => cut_P ee hP) (fun hD => cut_D ee hD) ?_
  refine sk_perm (List.perm_append_comm.trans (List.Perm.append_right X ((Lc_perm n (by omega)).map _))) ?_
  exact sk_nvret F hK hr hlocks (adW h0 qc t1 z1 t2 z2) rfl rfl (by decide) (by decide) dX4_init_76
