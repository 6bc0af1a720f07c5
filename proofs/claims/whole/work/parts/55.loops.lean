/-! loops that only read -/
def cn (g : Nat → Int32) (d : Int32) : Nat → Nat
  | 0 => 0
  | k + 1 => cn g d k + (if g k = d then 1 else 0)
theorem cn_le (g : Nat → Int32) (d : Int32) : ∀ k, cn g d k ≤ k
  | 0 => Nat.le_refl 0
  | k + 1 => by
    have := cn_le g d k
    unfold cn
    by_cases h : g k = d
    · rw [if_pos h]; omega
    · rw [if_neg h]; omega
theorem cn_congr {g g' : Nat → Int32} {d : Int32} : ∀ {k}, (∀ j, j < k → g j = g' j) → cn g d k = cn g' d k
  | 0, _ => rfl
  | k + 1, h => by
    unfold cn
    rw [cn_congr (fun j hj => h j (by omega)), h k (by omega)]
def sm (g : Nat → Int32) : Nat → Int32
  | 0 => 0
  | k + 1 => sm g k + g k
theorem sm_congr {g g' : Nat → Int32} : ∀ {k}, (∀ j, j < k → g j = g' j) → sm g k = sm g' k
  | 0, _ => rfl
  | k + 1, h => by
    unfold sm
    rw [sm_congr (fun j hj => h j (by omega)), h k (by omega)]
theorem sm_more {g : Nat → Int32} {k : Nat} : ∀ r, (∀ j, k ≤ j → j < k + r → g j = 0) → sm g (k + r) = sm g k
  | 0, _ => rfl
  | r + 1, h => by
    show sm g (k + r) + g (k + r) = sm g k
    rw [sm_more r (fun j a b => h j a (by omega)), h (k + r) (by omega) (by omega), Int32.add_zero]
theorem sm_zero {g : Nat → Int32} : ∀ {k}, (∀ j, j < k → g j = 0) → sm g k = 0
  | 0, _ => rfl
  | k + 1, h => by
    unfold sm
    rw [sm_zero (fun j hj => h j (by omega)), h k (by omega)]; rfl
theorem i0 : (0 : Int32) = nI 0 := by decide
section LP
variable {n T : Nat} {v u : Mem}
theorem cb_loop {o k : Nat} {d : Int32} (hk : k ≤ 12) (hc : v o 4 = nI k) : ∀ r i, i + r = k → ∀ fuel, r < fuel → fX3_countBlowing_4 o d fuel v (nI (cn (fun f => v (o + 5 + f) 0) d i)) (nI i) = some (nI (cn (fun f => v (o + 5 + f) 0) d k), v) := by
  intro r
  induction r with
  | zero =>
    intro i hi fuel hf
    obtain ⟨m, rfl⟩ : ∃ m, fuel = m + 1 := ⟨fuel - 1, by omega⟩
    have : i = k := by omega
    subst this
    rw [fX3_countBlowing_4, hc, if_pos (nI_le (Nat.le_refl _) (by omega))]
  | succ r ih =>
    intro i hi fuel hf
    obtain ⟨m, rfl⟩ : ∃ m, fuel = m + 1 := ⟨fuel - 1, by omega⟩
    rw [fX3_countBlowing_4, hc, if_neg (nI_ge (by omega) (by omega)), gd_pos (inb_nI (by omega) (by decide)), nI_c (by omega)]
    have e := ih (i + 1) (by omega) m (by omega)
    rw [cn] at e
    by_cases hg : v (o + 5 + i) 0 = d
    · rw [if_pos hg] at e ⊢
      rw [nI_1, nI_1]; exact e
    · rw [if_neg hg] at e ⊢
      rw [nI_1]; exact e
theorem cb4 {o k : Nat} (d : Int32) (hk : k ≤ 12) (hc : v o 4 = nI k) : fX3_countBlowing o d v = some (nI (cn (fun f => v (o + 5 + f) 0) d k), v) := cb_loop hk hc k 0 (by omega) 1000 (by omega)
theorem bl_loop {t k : Nat} {d : Int32} (ht : t < 2) (hk : k ≤ 12) (hc : u 5 t = nI k) : ∀ r i, i + r = k → ∀ fuel, r < fuel → fX5_blowing_5 (nI t) d fuel u (nI (cn (fun f => u 7 (14 * t + 2 + f)) d i)) (nI i) = some (nI (cn (fun f => u 7 (14 * t + 2 + f)) d k), u) := by
  intro r
  induction r with
  | zero =>
    intro i hi fuel hf
    obtain ⟨m, rfl⟩ : ∃ m, fuel = m + 1 := ⟨fuel - 1, by omega⟩
    have : i = k := by omega
    subst this
    rw [fX5_blowing_5, gd_pos (inb_nI ht (by decide)), nI_c (by omega), hc, if_pos (nI_le (Nat.le_refl _) (by omega))]
  | succ r ih =>
    intro i hi fuel hf
    obtain ⟨m, rfl⟩ : ∃ m, fuel = m + 1 := ⟨fuel - 1, by omega⟩
    rw [fX5_blowing_5, gd_pos (inb_nI ht (by decide)), nI_c (by omega), hc, if_neg (nI_ge (by omega) (by omega)), i14_f, gd_pos (inb_nI (by omega) (by decide)), nI_c (by omega)]
    have e := ih (i + 1) (by omega) m (by omega)
    rw [cn] at e
    by_cases hg : u 7 (14 * t + 2 + i) = d
    · rw [if_pos hg] at e ⊢
      rw [nI_1, nI_1]; exact e
    · rw [if_neg hg] at e ⊢
      rw [nI_1, Int32.add_zero]; exact e
/-- how many fans of tube t blow so -/
def cnt (v : Mem) (t : Nat) (d : Int32) (k : Nat) : Nat := cn (fun f => v (2 + 41 * t + 5 + f) 0) d k
theorem bl5 (h : Rel n T v u) {t k : Nat} (ht : t < 2) (d : Int32) (hk : k ≤ 12) (hc : v (2 + 41 * t) 4 = nI k) : fX5_blowing (nI t) d u = some (nI (cnt v t d k), u) := by
  have e := bl_loop (u := u) (d := d) ht hk (by rw [← h.E.T4 ht, hc]) k 0 (by omega) 1000 (by omega)
  have c : cn (fun f => u 7 (14 * t + 2 + f)) d k = cnt v t d k := cn_congr (fun j hj => (h.E.F0 ht (by omega)).symm)
  rw [c] at e
  exact e
theorem c_tube (h : Rel n T v u) (p1 p2 : Int32) : AG n (fX4_tube p1 p2 v) (fX5_tube p1 p2 u) := by
  unfold fX4_tube fX5_tube fX5_tube_21
  rcases tube_cases p1 with ⟨t, ht, rfl⟩ | hb
  · rw [needTube_ok ht, xd_l, isTube_ok ht, bd_some, if_neg (show ¬ (1 : Int32) = 0 by decide)]
    rcases wtn p2 0 4 v with ⟨w, w1, w2⟩ | ⟨w, w1⟩
    · obtain ⟨j, hj, rfl⟩ := nI_of2 (x := p2) (M := 4) (n := 4) rfl w1 (by simp only [i32_lt, i32_le] at *; omega)
      have E := h.ok0.E
      have hin : inb (nI t) 2 := inb_nI ht (by decide)
      rw [w, bd_some, need1, xd_l, tubeAt_ok ht, bd_some, if2_good w1 w2]
      unfold fX5_tube_22
      rw [up2_s, if_pos (show (0 : Int32) ≤ 0 by decide)]
      rcases (show j = 0 ∨ j = 1 ∨ j = 2 ∨ j = 3 ∨ j = 4 by omega) with rfl | rfl | rfl | rfl | rfl
      · rw [if_pos (show nI 0 = 0 by decide), if_pos (show nI 0 = 0 by decide), gd_pos hin, nI_c (by omega), show (up2 u 0 0 0) 25 t = v (2 + 41 * t) 10 from (E.T10 ht).symm]
        exact AG.good h.ok0 (up2_s _ _ _ _)
      · rw [if_neg (show ¬ nI 1 = 0 by decide), if_neg (show ¬ nI 1 = 0 by decide), if_pos (show nI 1 = 1 by decide), if_pos (show nI 1 = 1 by decide), gd_pos hin, nI_c (by omega), show (up2 u 0 0 0) 26 t = v (2 + 41 * t) 11 from (E.T11 ht).symm]
        exact AG.good h.ok0 (up2_s _ _ _ _)
      · rw [if_neg (show ¬ nI 2 = 0 by decide), if_neg (show ¬ nI 2 = 0 by decide), if_neg (show ¬ nI 2 = 1 by decide), if_neg (show ¬ nI 2 = 1 by decide), if_pos (show nI 2 = 2 by decide), if_pos (show nI 2 = 2 by decide), gd_pos hin, nI_c (by omega), show (up2 u 0 0 0) 30 t = v (2 + 41 * t) 8 from (E.T8 ht).symm]
        exact AG.good h.ok0 (up2_s _ _ _ _)
      · rw [if_neg (show ¬ nI 3 = 0 by decide), if_neg (show ¬ nI 3 = 0 by decide), if_neg (show ¬ nI 3 = 1 by decide), if_neg (show ¬ nI 3 = 1 by decide), if_neg (show ¬ nI 3 = 2 by decide), if_neg (show ¬ nI 3 = 2 by decide), if_pos (show nI 3 = 3 by decide), if_pos (show nI 3 = 3 by decide), gd_pos hin, nI_c (by omega), show (up2 u 0 0 0) 31 t = v (2 + 41 * t) 9 from (E.T9 ht).symm]
        exact AG.good h.ok0 (up2_s _ _ _ _)
      · obtain ⟨k, hk, e0⟩ := h.I.cnt ht
        rw [if_neg (show ¬ nI 4 = 0 by decide), if_neg (show ¬ nI 4 = 0 by decide), if_neg (show ¬ nI 4 = 1 by decide), if_neg (show ¬ nI 4 = 1 by decide), if_neg (show ¬ nI 4 = 2 by decide), if_neg (show ¬ nI 4 = 2 by decide), if_neg (show ¬ nI 4 = 3 by decide), if_neg (show ¬ nI 4 = 3 by decide), gd_pos hin, nI_c (by omega), show (up2 u 0 0 0) 30 t = v (2 + 41 * t) 8 from (E.T8 ht).symm, cb4 _ hk e0, bd_some, bl5 h.ok0 ht _ hk e0, bd_some]
        exact AG.good h.ok0 (up2_s _ _ _ _)
    · rw [w, bd_some, need0, xd_r, if2_bad w1]
      unfold fX5_tube_22
      rw [up2_s, if_neg (by decide)]
      exact AG.bad h
  · rw [needTube_bad hb, xd_r, isTube_bad hb, bd_some, if_pos rfl]
    unfold fX5_tube_22
    rw [up2_s, if_neg (by decide)]
    exact AG.bad h
/-! load -/
def dk (v : Mem) (t f : Nat) : Int32 := if v (2 + 41 * t + 5 + f) 0 = 0 then 0 else if 10 ≤ v 0 6 - v (2 + 41 * t + 5 + f) 2 then v (2 + 41 * t + 5 + f) 6 else 3 * v (2 + 41 * t + 5 + f) 6
theorem dk4 (v : Mem) (t f : Nat) : fX1_drawnKw (2 + 41 * t + 5 + f) (v 0 6) v = some (dk v t f, v) := by
  unfold fX1_drawnKw dk
  by_cases h1 : v (2 + 41 * t + 5 + f) 0 = 0
  · rw [if_pos h1, if_pos h1]
  · rw [if_neg h1, if_neg h1]
    by_cases h2 : 10 ≤ v 0 6 - v (2 + 41 * t + 5 + f) 2
    · rw [if_pos h2, if_pos h2]
    · rw [if_neg h2, if_neg h2]
theorem dw_loop {t k : Nat} (hk : k ≤ 12) (hc : v (2 + 41 * t) 4 = nI k) : ∀ r i, i + r = k → ∀ fuel, r < fuel → fX3_drawnKw_4 (2 + 41 * t) (v 0 6) fuel v (sm (dk v t) i) (nI i) = some (sm (dk v t) k, v) := by
  intro r
  induction r with
  | zero =>
    intro i hi fuel hf
    obtain ⟨m, rfl⟩ : ∃ m, fuel = m + 1 := ⟨fuel - 1, by omega⟩
    have : i = k := by omega
    subst this
    rw [fX3_drawnKw_4, hc, if_pos (nI_le (Nat.le_refl _) (by omega))]
  | succ r ih =>
    intro i hi fuel hf
    obtain ⟨m, rfl⟩ : ∃ m, fuel = m + 1 := ⟨fuel - 1, by omega⟩
    rw [fX3_drawnKw_4, hc, if_neg (nI_ge (by omega) (by omega)), gd_pos (inb_nI (by omega) (by decide)), nI_c (by omega), dk4, bd_some, nI_1]
    exact ih (i + 1) (by omega) m (by omega)
/-- the load -/
def ld (v : Mem) : Int32 := sm (dk v 0) 12 + sm (dk v 1) 12
theorem sm_dk (h : Rel n T v u) {t k : Nat} (ht : t < 2) (hk : k ≤ 12) (hc : v (2 + 41 * t) 4 = nI k) : sm (dk v t) 12 = sm (dk v t) k := by
  have := sm_more (g := dk v t) (k := k) (12 - k) (fun j a b => by
    unfold dk
    rw [if_pos ((h.F ht (by omega)).2.1 k hc hk a)])
  rw [show k + (12 - k) = 12 by omega] at this
  exact this
theorem ld4 (h : Rel n T v u) : fX4_load v = some (ld v, v) := by
  unfold fX4_load
  obtain ⟨k, hk, e0⟩ := h.I.cnt (t := 0) (by decide)
  obtain ⟨k1, hk1, e1⟩ := h.I.cnt (t := 1) (by decide)
  have a : fX3_drawnKw 2 (v 0 6) v = some (sm (dk v 0) k, v) := dw_loop (t := 0) hk e0 k 0 (by omega) 1000 (by omega)
  have b : fX3_drawnKw 43 (v 0 6) v = some (sm (dk v 1) k1, v) := dw_loop (t := 1) hk1 e1 k1 0 (by omega) 1000 (by omega)
  rw [a, bd_some, b, bd_some, ← sm_dk h (by decide) hk e0, ← sm_dk h (by decide) hk1 e1]
  rfl
theorem mod14 : ∀ d, d < 28 → ((nI d - nI d / 14 * 14 ≤ 1) ↔ (d % 14 ≤ 1)) := by decide +kernel
def du (u : Mem) (d : Nat) : Int32 := if d % 14 ≤ 1 then 0 else if u 7 d = 0 then 0 else if 10 ≤ u 0 4 - u 16 d then u 12 d else 3 * u 12 d
theorem lo_loop : ∀ r i, i + r = 28 → ∀ fuel, r < fuel → fX5_loadOf_4 fuel u (sm (du u) i) (nI i) = some (sm (du u) 28, u) := by
  intro r
  induction r with
  | zero =>
    intro i hi fuel hf
    obtain ⟨m, rfl⟩ : ∃ m, fuel = m + 1 := ⟨fuel - 1, by omega⟩
    have : i = 28 := by omega
    subst this
    rw [fX5_loadOf_4, if_pos (by decide)]
  | succ r ih =>
    intro i hi fuel hf
    obtain ⟨m, rfl⟩ : ∃ m, fuel = m + 1 := ⟨fuel - 1, by omega⟩
    have e := ih (i + 1) (by omega) m (by omega)
    rw [sm] at e
    have z : fX5_loadOf_31 (fun v l1 l2 => fX5_loadOf_4 m v l1 l2) u (sm (du u) i) (nI i) = fX5_loadOf_4 m u (sm (du u) i + 0) (nI (i + 1)) := by
      unfold fX5_loadOf_31 fX5_loadOf_32
      rw [if_pos rfl, nI_1]
    rw [fX5_loadOf_4, if_neg (show ¬ (28 : Int32) ≤ nI i from nI_ge (a := i) (b := 28) (by omega) (by decide))]
    by_cases h1 : i % 14 ≤ 1
    · rw [if_pos ((mod14 i (by omega)).mpr h1), z]
      unfold du at e
      rw [if_pos h1] at e
      exact e
    · rw [if_neg (fun q => h1 ((mod14 i (by omega)).mp q)), gd_pos (inb_nI (by omega) (by decide)), nI_c (by omega), z]
      unfold du at e
      rw [if_neg h1] at e
      by_cases h2 : u 7 i = 0
      · rw [if_pos h2] at e ⊢
        exact e
      · rw [if_neg h2] at e ⊢
        unfold fX5_loadOf_32
        rw [if_neg (by decide), gd_pos (inb_nI (by omega) (by decide)), gd_pos (inb_nI (by omega) (by decide)), gd_pos (inb_nI (by omega) (by decide)), nI_c (by omega), nI_1]
        by_cases h3 : 10 ≤ u 0 4 - u 16 i
        · rw [if_pos h3] at e ⊢; exact e
        · rw [if_neg h3] at e ⊢; exact e
theorem du_dk (h : Rel n T v u) {t f : Nat} (ht : t < 2) (hf : f < 12) : du u (14 * t + 2 + f) = dk v t f := by
  unfold du dk
  rw [if_neg (by omega), ← h.E.F0 ht hf, ← h.E.F6 ht hf, ← h.E.W6]
  by_cases h2 : v (2 + 41 * t + 5 + f) 0 = 0
  · rw [if_pos h2, if_pos h2]
  · rw [if_neg h2, if_neg h2, (h.F ht hf).2.2.1 h2]
theorem sm_split (g : Nat → Int32) (a : Nat) : ∀ b, sm g (a + b) = sm g a + sm (fun i => g (a + i)) b
  | 0 => (Int32.add_zero _).symm
  | b + 1 => by
    show sm g (a + b) + g (a + b) = sm g a + (sm (fun i => g (a + i)) b + g (a + b))
    rw [sm_split g a b, Int32.add_assoc]
theorem ld5 (h : Rel n T v u) : fX5_loadOf u = some (ld v, u) := by
  have e := lo_loop (u := u) 28 0 (by omega) 1000 (by omega)
  have c : sm (du u) 28 = ld v := by
    have z : ∀ j, j < 28 → j % 14 ≤ 1 → du u j = 0 := fun j _ hj => by unfold du; rw [if_pos hj]
    have s1 := sm_split (du u) 2 26
    have s2 := sm_split (fun i => du u (2 + i)) 12 14
    have s3 := sm_split (fun i => du u (2 + (12 + i))) 2 12
    have z1 : sm (du u) 2 = 0 := sm_zero (fun j hj => z j (by omega) (by omega))
    have z2 : sm (fun i => du u (2 + (12 + i))) 2 = 0 := sm_zero (fun j hj => z _ (by omega) (by omega))
    have a1 : sm (fun i => du u (2 + i)) 12 = sm (dk v 0) 12 := sm_congr (fun j hj => du_dk h (t := 0) (f := j) (by decide) hj)
    have a2 : sm (fun i => du u (2 + (12 + (2 + i)))) 12 = sm (dk v 1) 12 := sm_congr (fun j hj => by
      have := du_dk h (t := 1) (f := j) (by decide) hj
      rw [← this]
      congr 1
      omega)
    rw [show (28 : Nat) = 2 + 26 from rfl, s1, z1, Int32.zero_add, show (26 : Nat) = 12 + 14 from rfl, s2, a1, show (14 : Nat) = 2 + 12 from rfl, s3, z2, Int32.zero_add, a2]
    rfl
  rw [c] at e
  exact e
theorem c_load (h : Rel n T v u) : AG n ((fX4_load v).map (fun q => (.inl q.1, q.2))) (fX5_load u) := by
  unfold fX5_load
  rw [ld4 h, ld5 h.ok0, bd_some]
  exact AG.good h.ok0 (up2_s _ _ _ _)
/-! starts -/
theorem st_loop : ∀ r i, i + r = 10 → ∀ fuel, r < fuel → fX4_starts_13 fuel v (sm (v 1) i) 10 (nI i) = some (sm (v 1) 10, v) := by
  intro r
  induction r with
  | zero =>
    intro i hi fuel hf
    obtain ⟨m, rfl⟩ : ∃ m, fuel = m + 1 := ⟨fuel - 1, by omega⟩
    have : i = 10 := by omega
    subst this
    rw [fX4_starts_13, if_pos (by decide)]
  | succ r ih =>
    intro i hi fuel hf
    obtain ⟨m, rfl⟩ : ∃ m, fuel = m + 1 := ⟨fuel - 1, by omega⟩
    rw [fX4_starts_13, if_neg (show ¬ (10 : Int32) ≤ nI i from nI_ge (a := i) (b := 10) (by omega) (by decide)), gd_pos (inb_nI (by omega) (by decide)), nI_c (by omega), nI_1]
    exact ih (i + 1) (by omega) m (by omega)
/-- the starts of the last ten ticks, summed -/
def ss (v : Mem) : Int32 := sm (v 1) 10
theorem ss4 (v : Mem) : fX4_starts v = some (ss v, v) := st_loop 10 0 (by omega) 1000 (by omega)
theorem so_loop {a : Nat} (hT : T ≤ 20000) (he : u 0 4 = nI T) : ∀ r i, a + i + r = T + 1 → ∀ fuel, r < fuel → fX5_startsOf_23 fuel u (sm (fun j => u 32 (a + j)) i) (nI (a + i)) = some (sm (fun j => u 32 (a + j)) (i + r), u) := by
  intro r
  induction r with
  | zero =>
    intro i hi fuel hf
    obtain ⟨m, rfl⟩ : ∃ m, fuel = m + 1 := ⟨fuel - 1, by omega⟩
    rw [fX5_startsOf_23, he, if_pos (nI_lt (by omega) (by omega))]
    rfl
  | succ r ih =>
    intro i hi fuel hf
    obtain ⟨m, rfl⟩ : ∃ m, fuel = m + 1 := ⟨fuel - 1, by omega⟩
    rw [fX5_startsOf_23, he, if_neg (nI_nlt (by omega) (by omega)), gd_pos (inb_nI (by omega) (by decide)), nI_c (by omega), nI_1, show a + i + 1 = a + (i + 1) by omega, show i + (r + 1) = i + 1 + r by omega]
    exact ih (i + 1) (by omega) m (by omega)
theorem rot (g : Nat → Int32) : ∀ r, r < 10 → sm (fun i => g ((r + i) % 10)) 10 = sm g 10 := by
  intro r hr
  rcases (show r = 0 ∨ r = 1 ∨ r = 2 ∨ r = 3 ∨ r = 4 ∨ r = 5 ∨ r = 6 ∨ r = 7 ∨ r = 8 ∨ r = 9 by omega) with rfl | rfl | rfl | rfl | rfl | rfl | rfl | rfl | rfl | rfl <;> simp only [sm, Nat.reduceAdd, Nat.reduceMod] <;> ac_rfl
theorem ss5 (h : Rel n T v u) : fX5_startsOf u = some (ss v, u) := by
  have hT := h.T2
  have he : u 0 4 = nI T := by rw [← h.E.W6, h.I.W6]
  unfold fX5_startsOf fX5_startsOf_22 ss
  rw [he]
  rcases Nat.lt_or_ge T 10 with q | q
  · rw [if_neg (show ¬ (10 : Int32) ≤ nI T from nI_ge (a := T) (b := 10) q (by decide))]
    have e := so_loop (u := u) (a := 0) hT he (T + 1) 0 (by omega) 1000 (by omega)
    have c : sm (fun j => u 32 (0 + j)) (0 + (T + 1)) = sm (v 1) 10 := by
      have m := sm_more (g := v 1) (k := T + 1) (9 - T) (fun j a b => h.C.2.2 j (by omega) (by omega))
      rw [show T + 1 + (9 - T) = 10 by omega] at m
      rw [m, show 0 + (T + 1) = T + 1 by omega]
      exact sm_congr (fun j hj => by
        have := h.C.1 j (by omega) (by omega)
        rw [show j % 10 = j by omega] at this
        rw [this, show 0 + j = j by omega])
    rw [c] at e
    exact e
  · rw [if_pos (show (10 : Int32) ≤ nI T from nI_le (a := 10) (b := T) q (by omega))]
    have e9 : nI T - 9 = nI (T - 9 + 0) := by
      rw [show T - 9 + 0 = T - 9 by omega]
      have := nI_add (T - 9) 9
      rw [show T - 9 + 9 = T by omega] at this
      rw [← this, show nI 9 = 9 from rfl, Int32.add_sub_cancel]
    have e := so_loop (u := u) (a := T - 9) hT he 10 0 (by omega) 1000 (by omega)
    have c : sm (fun j => u 32 (T - 9 + j)) (0 + 10) = sm (v 1) 10 := by
      rw [← rot (v 1) ((T - 9) % 10) (by omega)]
      exact sm_congr (fun j hj => by
        rw [← h.C.1 (T - 9 + j) (by omega) (by omega)]
        congr 1
        omega)
    rw [c, ← e9] at e
    exact e
theorem c_starts (h : Rel n T v u) : AG n ((fX4_starts v).map (fun q => (.inl q.1, q.2))) (fX5_starts u) := by
  unfold fX5_starts
  rw [ss4, ss5 h.ok0, bd_some]
  exact AG.good h.ok0 (up2_s _ _ _ _)
end LP
