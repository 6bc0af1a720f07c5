/-! runs are counted; the look at the end; a tick -/
theorem up2_up2 {v : Mem} {a j : Nat} {x y : Int32} : up2 (up2 v a j x) a j y = up2 v a j y := by
  funext p q
  rw [up2_app, up2_app, up2_app]
  by_cases h : p = a ∧ q = j
  · rw [if_pos h, if_pos h]
  · rw [if_neg h, if_neg h, if_neg h]
section CR
variable {X : Mem → Prop} {c : Int32} {n T : Nat} {v u : Mem}
theorem t130_skip {d : Nat} (hd : d < 28) (h : d % 14 ≤ 1 ∨ u 7 d = 0) (fuel : Nat) : fX5_tick_130 (fuel + 1) u (nI d) = fX5_tick_130 fuel u (nI (d + 1)) := by
  have hix : inb (nI d) 28 := inb_nI hd (by decide)
  rw [fX5_tick_130, if_neg (show ¬ (28 : Int32) ≤ nI d from nI_ge (a := d) (b := 28) hd (by decide))]
  unfold fX5_tick_164
  simp only [gd_pos hix, nI_c (show d < 2 ^ 31 by omega), Int32.add_zero, nI_1, up2_self]
  by_cases h1 : d % 14 ≤ 1
  · rw [if_pos ((mod14 d hd).mpr h1)]
  · rw [if_neg (fun q => h1 ((mod14 d hd).mp q)), if_pos (h.resolve_left h1)]
theorem t130_inc {d : Nat} (hd : d < 28) (h1 : ¬ d % 14 ≤ 1) (h2 : ¬ u 7 d = 0) (fuel : Nat) : fX5_tick_130 (fuel + 1) u (nI d) = fX5_tick_130 fuel (up2 u 13 d (u 13 d + 1)) (nI (d + 1)) := by
  have hix : inb (nI d) 28 := inb_nI hd (by decide)
  rw [fX5_tick_130, if_neg (show ¬ (28 : Int32) ≤ nI d from nI_ge (a := d) (b := 28) hd (by decide))]
  simp only [gd_pos hix, nI_c (show d < 2 ^ 31 by omega), nI_1]
  rw [if_neg (fun q => h1 ((mod14 d hd).mp q)), if_neg h2]
theorem cr_loop (hX : XF X) {t k : Nat} (ht : t < 2) (hk : k ≤ 12) : ∀ r f (v u : Mem), RF X c n T v u → v (2 + 41 * t) 4 = nI k → f + r = k → ∀ f1, r < f1 → ∃ v' u', fX3_countRun_2 (2 + 41 * t) f1 v (nI f) = some v' ∧ (∀ fuel, fX5_tick_130 (fuel + r) u (nI (14 * t + 2 + f)) = fX5_tick_130 fuel u' (nI (14 * t + 2 + k))) ∧ RF X c n T v' u' ∧ v' (2 + 41 * t) 4 = nI k := by
  intro r
  induction r with
  | zero =>
    intro f v u h hc hi f1 g1
    obtain ⟨m1, rfl⟩ : ∃ m, f1 = m + 1 := ⟨f1 - 1, by omega⟩
    have : f = k := by omega
    subst this
    exact ⟨v, u, by rw [fX3_countRun_2, hc, if_pos (nI_le (Nat.le_refl _) (by omega))], fun fuel => rfl, h, hc⟩
  | succ r ih =>
    intro f v u h hc hi f1 g1
    obtain ⟨m1, rfl⟩ : ∃ m, f1 = m + 1 := ⟨f1 - 1, by omega⟩
    have R := h.1
    have hf12 : f < 12 := by omega
    have hi12 : inb (nI f) 12 := inb_nI hf12 (by decide)
    rw [fX3_countRun_2, hc, if_neg (nI_ge (by omega) (by omega))]
    simp only [gd_pos hi12, nI_c (show f < 2 ^ 31 by omega), nI_1]
    by_cases h1 : v (2 + 41 * t + 5 + f) 0 = 0
    · obtain ⟨v', u', q1, q2, q3, q4⟩ := ih (f + 1) v u h hc (by omega) m1 (by omega)
      refine ⟨v', u', by rw [if_pos h1]; exact q1, fun fuel => ?_, q3, q4⟩
      rw [show fuel + (r + 1) = fuel + r + 1 by omega, t130_skip (by omega) (Or.inr (by rw [← R.E.F0 ht hf12]; exact h1))]
      exact q2 fuel
    · have r1 : RF X c n T (up2 v (2 + 41 * t + 5 + f) 7 (v (2 + 41 * t + 5 + f) 7 + 1)) (up2 u 13 (14 * t + 2 + f) (v (2 + 41 * t + 5 + f) 7 + 1)) := h.of (R.run ht hf12) (u00 (by decide)) (up2_n (Or.inl (by omega))) (up2_n (Or.inl (by decide))) (hX _ _ _ _ _ ht hf12 h.2.2.2.2)
      obtain ⟨v', u', q1, q2, q3, q4⟩ := ih (f + 1) _ _ r1 (by rw [up2_n (Or.inl (by omega)), hc]) (by omega) m1 (by omega)
      refine ⟨v', u', by rw [if_neg h1]; exact q1, fun fuel => ?_, q3, q4⟩
      rw [show fuel + (r + 1) = fuel + r + 1 by omega, t130_inc (by omega) (by omega) (by rw [← R.E.F0 ht hf12]; exact h1), ← R.E.F7 ht hf12]
      exact q2 fuel
theorem cr_rest (R : Rel n T v u) {t k : Nat} (ht : t < 2) (hk : k ≤ 12) (hc : v (2 + 41 * t) 4 = nI k) : ∀ r f, k ≤ f → f + r = 12 → ∀ fuel, fX5_tick_130 (fuel + r) u (nI (14 * t + 2 + f)) = fX5_tick_130 fuel u (nI (14 * t + 14)) := by
  intro r
  induction r with
  | zero => intro f h1 h2 fuel; have : f = 12 := by omega
            subst this; rfl
  | succ r ih =>
    intro f h1 h2 fuel
    rw [show fuel + (r + 1) = fuel + r + 1 by omega, t130_skip (by omega) (Or.inr (by rw [← R.E.F0 ht (by omega)]; exact (R.F ht (by omega)).2.1 k hc hk h1))]
    exact ih (f + 1) (by omega) (by omega) fuel
theorem cr_tube (hX : XF X) {t : Nat} (ht : t < 2) (h : RF X c n T v u) : ∃ v' u', fX3_countRun (2 + 41 * t) v = some v' ∧ (∀ fuel, fX5_tick_130 (fuel + 14) u (nI (14 * t)) = fX5_tick_130 fuel u' (nI (14 * t + 14))) ∧ RF X c n T v' u' := by
  obtain ⟨k, hk, hc⟩ := h.1.I.cnt ht
  obtain ⟨v', u', q1, q2, q3, q4⟩ := cr_loop hX ht hk k 0 v u h hc (by omega) 1000 (by omega)
  refine ⟨v', u', q1, fun fuel => ?_, q3⟩
  rw [show fuel + 14 = fuel + 12 + 1 + 1 by omega, t130_skip (by omega) (Or.inl (by omega)), t130_skip (by omega) (Or.inl (by omega)), show 14 * t + 1 + 1 = 14 * t + 2 + 0 by omega, show fuel + 12 = fuel + (12 - k) + k by omega, q2]
  exact cr_rest q3.1 ht hk q4 (12 - k) k (Nat.le_refl _) (by omega) fuel
/-! the look -/
def uns (v : Mem) (t k : Nat) : Bool := decide (v (2 + 41 * t + 4) 0 = 1 ∧ v (2 + 41 * t + 3) 0 = 0) || decide (0 < cnt v t (-1) k ∧ 0 < cnt v t 1 k)
theorem un4 {t k : Nat} (ht : t < 2) (hk : k ≤ 12) (hc : v (2 + 41 * t) 4 = nI k) (hco : CO T v) : fX3_isUnsafe (2 + 41 * t) (nI T) v = some (bi (uns v t k), v) := by
  have l1 : cnt v t (-1) k ≤ k := cn_le _ _ _
  have l2 : cnt v t 1 k ≤ k := cn_le _ _ _
  have b1 : fX3_countBlowing (2 + 41 * t) (-1) v = some (nI (cnt v t (-1) k), v) := cb4 _ hk hc
  have b2 : fX3_countBlowing (2 + 41 * t) 1 v = some (nI (cnt v t 1 k), v) := cb4 _ hk hc
  have k65 : ∀ s : Bool, fX3_isUnsafe_65 (2 + 41 * t) (nI T) v 0 (bi s) = some (bi (s || decide (0 < cnt v t (-1) k ∧ 0 < cnt v t 1 k)), v) := by
    intro s
    unfold fX3_isUnsafe_65 fX3_isUnsafe_87 fX3_isUnsafe_88
    rw [b1, bd_some, b2, bd_some]
    by_cases z1 : cnt v t (-1) k = 0
    · rw [z1, if_pos (by decide), if_pos rfl, decide_eq_false (fun q => by omega)]
      cases s with
      | false => rw [if_pos (show bi false = 0 from rfl), if_pos rfl]; rfl
      | true => rw [if_neg (show ¬ bi true = 0 by decide)]; rfl
    · rw [if_neg (nI_nle (by omega) (by omega))]
      by_cases z2 : cnt v t 1 k = 0
      · rw [z2, if_pos (by decide), if_pos rfl, decide_eq_false (fun q => by omega)]
        cases s with
        | false => rw [if_pos (show bi false = 0 from rfl), if_pos rfl]; rfl
        | true => rw [if_neg (show ¬ bi true = 0 by decide)]; rfl
      · rw [if_neg (nI_nle (by omega) (by omega)), if_pos rfl, decide_eq_true (by omega : 0 < cnt v t (-1) k ∧ 0 < cnt v t 1 k)]
        cases s with
        | false => rw [if_pos (show bi false = 0 from rfl), if_neg (by decide)]; rfl
        | true => rw [if_neg (show ¬ bi true = 0 by decide)]; rfl
  have k0 := k65 false
  have k1 := k65 true
  unfold fX3_isUnsafe fX3_isUnsafe_16 fX3_isUnsafe_44 fX3_isUnsafe_45 fX3_isUnsafe_64 uns
  by_cases h1 : v (2 + 41 * t + 4) 0 = 1
  · rw [if_pos h1, if_neg (show ¬ (1 : Int32) = 0 by decide), if_neg (show ¬ (1 : Int32) = 0 by decide), ha4, bd_some]
    have main : (if v (2 + 41 * t + 3) 0 = 0 then fX3_isUnsafe_65 (2 + 41 * t) (nI T) v 0 1 else fX3_isUnsafe_65 (2 + 41 * t) (nI T) v 0 0) = some (bi (decide (v (2 + 41 * t + 4) 0 = 1 ∧ v (2 + 41 * t + 3) 0 = 0) || decide (0 < cnt v t (-1) k ∧ 0 < cnt v t 1 k)), v) := by
      by_cases h3 : v (2 + 41 * t + 3) 0 = 0
      · rw [if_pos h3, decide_eq_true (show _ ∧ _ from ⟨h1, h3⟩)]; exact k1
      · rw [if_neg h3, decide_eq_false (fun q => h3 q.2)]; exact k0
    by_cases h2 : v (2 + 41 * t + 4) 2 = nI T
    · rw [if_pos h2, hco t ht h1 h2, if_neg (show ¬ bi true = 0 by decide), if_neg (show ¬ (1 : Int32) = 0 by decide)]
      exact main
    · rw [if_neg h2]
      exact main
  · rw [if_neg h1, if_pos rfl, if_pos rfl, decide_eq_false (fun q => h1 q.1)]
    exact k0
theorem lk_step (R : Rel n T v u) {t k : Nat} (ht : t < 2) (hk : k ≤ 12) (hc : v (2 + 41 * t) 4 = nI k) {b : Bool} (hb : u 0 34 = bi b) (fuel : Nat) : fX5_look_37 (fuel + 1) u (nI t) = fX5_look_37 fuel (up2 u 0 34 (bi (b || uns v t k))) (nI (t + 1)) := by
  have l1 : cnt v t (-1) k ≤ k := cn_le _ _ _
  have l2 : cnt v t 1 k ≤ k := cn_le _ _ _
  have hi0 : inb (nI (14 * t)) 28 := inb_nI (by omega) (by decide)
  have hi1 : inb (nI (14 * t + 1)) 28 := inb_nI (by omega) (by decide)
  have k73 : ∀ s : Bool, fX5_look_73 (fun v l1 => fX5_look_37 fuel v l1) u (nI t) (bi s) = fX5_look_37 fuel (up2 u 0 34 (bi (s || decide (v (2 + 41 * t + 4) 0 = 1 ∧ v (2 + 41 * t + 3) 0 = 0)))) (nI (t + 1)) := by
    intro s
    unfold fX5_look_73 fX5_look_115
    rw [gd_pos (by cases s <;> decide), up2_s, i14_1, i14_0]
    simp only [gd_pos hi0, gd_pos hi1, nI_c (show 14 * t < 2 ^ 31 by omega), nI_c (show 14 * t + 1 < 2 ^ 31 by omega), nI_1, up2_up2]
    rw [up2_n (a := 7) (Or.inl (by decide)), up2_n (a := 7) (Or.inl (by decide)), ← R.E.D40 ht, ← R.E.D30 ht]
    cases s with
    | true => rw [if_neg (show ¬ bi true = 0 by decide)]; rfl
    | false =>
      rw [if_pos (show bi false = 0 from rfl)]
      by_cases h1 : v (2 + 41 * t + 4) 0 = 1
      · rw [if_pos h1]
        by_cases h2 : v (2 + 41 * t + 3) 0 = 0
        · rw [if_pos h2, decide_eq_true (show _ ∧ _ from ⟨h1, h2⟩)]; rfl
        · rw [if_neg h2, decide_eq_false (fun q => h2 q.2)]; rfl
      · rw [if_neg h1, decide_eq_false (fun q => h1 q.1)]; rfl
  have k1 := k73 true
  have k0 := k73 false
  have k1' : fX5_look_73 (fun v l1 => fX5_look_37 fuel v l1) u (nI t) 1 = fX5_look_37 fuel (up2 u 0 34 1) (nI (t + 1)) := k1
  rw [fX5_look_37, if_neg (show ¬ (2 : Int32) ≤ nI t from nI_ge (a := t) (b := 2) ht (by decide)), hb, bl5 R ht _ hk hc, bd_some, bl5 R ht _ hk hc, bd_some]
  unfold fX5_look_72
  cases b with
  | true => rw [if_neg (show ¬ bi true = 0 by decide), k1']; rfl
  | false =>
    rw [if_pos (show bi false = 0 from rfl), Bool.false_or]
    unfold uns
    by_cases z2 : cnt v t 1 k = 0
    · rw [z2, if_pos (by decide), decide_eq_false (p := 0 < cnt v t (-1) k ∧ 0 < 0) (fun q => by omega), Bool.or_false]
      exact k0
    · rw [if_neg (nI_nle (by omega) (by omega))]
      by_cases z1 : cnt v t (-1) k = 0
      · rw [z1, if_pos (by decide), decide_eq_false (p := 0 < 0 ∧ 0 < cnt v t 1 k) (fun q => by omega), Bool.or_false]
        exact k0
      · rw [if_neg (nI_nle (by omega) (by omega)), decide_eq_true (by omega : 0 < cnt v t (-1) k ∧ 0 < cnt v t 1 k), Bool.or_true, k1']
        rfl
theorem p_look (h : RF (CO T) 0 n T v u) : ∃ v' u', (bd (fX4_isBroken v) fun x53 v52 => if x53 = 0 then some v52 else some (up2 v52 0 8 ((v52 0 8) + 1))) = some v' ∧ fX5_look u = some u' ∧ Rel n T v' u' ∧ u' 0 0 = 0 := by
  obtain ⟨R, h00, h07, h34, hco⟩ := h
  obtain ⟨k, hk, hc⟩ := R.I.cnt (t := 0) (by decide)
  obtain ⟨k1, hk1, hc1⟩ := R.I.cnt (t := 1) (by decide)
  have w6 := R.I.W6
  have u0 : fX3_isUnsafe 2 (nI T) v = some (bi (uns v 0 k), v) := un4 (t := 0) (by decide) hk hc hco
  have u1 : fX3_isUnsafe 43 (nI T) v = some (bi (uns v 1 k1), v) := un4 (t := 1) (by decide) hk1 hc1 hco
  have L : ∀ b : Bool, fX5_look_32 u (bi b) = some (up2 (up2 u 0 34 (bi (b || uns v 0 k || uns v 1 k1))) 0 33 (u 0 33 + bi (b || uns v 0 k || uns v 1 k1))) := by
    intro b
    unfold fX5_look_32
    have r0 : Rel n T v (up2 u 0 34 (bi b)) := R.putR (Or.inr rfl)
    have s0 := lk_step r0 (t := 0) (by decide) hk hc (up2_s _ _ _ _) 999
    rw [up2_up2] at s0
    have r1 : Rel n T v (up2 u 0 34 (bi (b || uns v 0 k))) := R.putR (Or.inr rfl)
    have s1 := lk_step r1 (t := 1) (by decide) hk1 hc1 (up2_s _ _ _ _) 998
    rw [up2_up2] at s1
    rw [gd_pos (by cases b <;> decide)]
    refine (show fX5_look_37 (999 + 1) (up2 u 0 34 (bi b)) (nI 0) = _ from s0).trans (Eq.trans (show fX5_look_37 (998 + 1) (up2 u 0 34 (bi (b || uns v 0 k))) (nI (0 + 1)) = _ from s1) ?_)
    rw [show (998 : Nat) = 997 + 1 from rfl, fX5_look_37, if_pos (by decide), up2_s, up2_n (a := 0) (j := 33) (Or.inr (by decide))]
    cases (b || uns v 0 k || uns v 1 k1) with
    | false => rw [if_pos (show bi false = 0 from rfl)]; rfl
    | true => rw [if_neg (show ¬ bi true = 0 by decide)]; rfl
  have fin : ∀ B : Bool, ∃ v' u', (if bi B = 0 then some v else some (up2 v 0 8 (v 0 8 + 1))) = some v' ∧ some (up2 (up2 u 0 34 (bi B)) 0 33 (u 0 33 + bi B)) = some u' ∧ Rel n T v' u' ∧ u' 0 0 = 0 := by
    intro B
    have z : (up2 (up2 u 0 34 (bi B)) 0 33 (u 0 33 + bi B)) 0 0 = 0 := by rw [up2_n (Or.inr (by decide)), up2_n (Or.inr (by decide))]; exact h00
    have r0 : Rel n T v (up2 u 0 34 (bi B)) := R.putR (Or.inr rfl)
    cases B with
    | false =>
      rw [if_pos (show bi false = 0 from rfl)]
      refine ⟨v, _, rfl, rfl, ?_, z⟩
      rw [show u 0 33 + bi false = (up2 u 0 34 (bi false)) 0 33 from by rw [up2_n (Or.inr (by decide))]; exact Int32.add_zero _, up2_self]
      exact r0
    | true =>
      rw [if_neg (show ¬ bi true = 0 by decide)]
      refine ⟨_, _, rfl, rfl, ?_, z⟩
      rw [← R.E.W8]
      exact r0.put (o := 0) (j := 8) (q := (0, 33)) rfl trivial ⟨by decide, fun _ => by omega, fun _ => by omega⟩ rfl
  unfold fX4_isBroken fX5_look
  rw [ld4 R, bd_some, h34, if_pos rfl, ld5 R, bd_some, ← R.E.W5, ss4, bd_some, ss5 R, bd_some]
  by_cases a1 : v 0 5 < ld v
  · rw [if_pos a1, if_pos a1, bd_some, show (1 : Int32) = bi true from rfl, L, Bool.true_or, Bool.true_or]
    exact fin true
  · rw [if_neg a1, if_neg a1]
    by_cases a2 : 3 < ss v
    · have a2' : ¬ ss v ≤ 3 := by rw [i32_le]; rw [i32_lt] at a2; omega
      rw [if_pos a2, if_neg a2', bd_some, show (1 : Int32) = bi true from rfl, L, Bool.true_or, Bool.true_or]
      exact fin true
    · have a2' : ss v ≤ 3 := by rw [i32_le]; rw [i32_lt] at a2; omega
      have L0 := L false
      rw [Bool.false_or] at L0
      have L0 : fX5_look_32 u 0 = _ := L0
      rw [if_neg a2, if_pos a2', h07, if_pos rfl, w6, u0, bd_some, w6, u1, bd_some, L0]
      cases hu0 : uns v 0 k with
      | true =>
        rw [if_neg (show ¬ bi true = 0 by decide), bd_some, Bool.true_or]
        exact fin true
      | false =>
        rw [if_pos (show bi false = 0 from rfl), Bool.false_or]
        cases hu1 : uns v 1 k1 with
        | true =>
          rw [if_neg (show ¬ bi true = 0 by decide), bd_some]
          exact fin true
        | false =>
          rw [if_pos (show bi false = 0 from rfl), bd_some]
          exact fin false
/-! the start of a tick -/
theorem okp_mono {T o j : Nat} {x : Int32} (h : okp n T o j x) (hne : ¬ (o = 0 ∧ j = 6)) : okp n (T + 1) o j x := by
  unfold okp okq at h ⊢
  unfold leT at h ⊢
  by_cases o0 : o = 0
  · simp only [o0, if_true] at h hne ⊢
    have j6 : ¬ j = 6 := fun q => hne ⟨trivial, q⟩
    simp only [j6, if_false] at h ⊢
    exact h
  · simp only [o0, if_false] at h ⊢
    have w : ∀ q : Nat, (if q = 0 then (if j = 4 ∨ j = 7 ∨ j = 9 then le12 x else if j = 5 then bo x else if j = 6 ∨ j = 8 then pm1 x else if j = 10 then x = 0 ∨ x = 1 ∨ x = 2 else if j = 11 then x = -1 ∨ ∃ s, s < n ∧ x = nI s else True) else if q < 3 then True else if q < 5 then (if j = 2 then ∃ k, k ≤ T ∧ x = nI k else True) else if q < 17 then (if j = 0 then x = 0 ∨ pm1 x else if j = 2 then ∃ k, k ≤ T ∧ x = nI k else if j = 5 then bo x else True) else (if j = 1 then bo x else if j = 4 ∨ j = 6 then pm1 x else if j = 5 ∨ j = 7 then le12 x else True)) → (if q = 0 then (if j = 4 ∨ j = 7 ∨ j = 9 then le12 x else if j = 5 then bo x else if j = 6 ∨ j = 8 then pm1 x else if j = 10 then x = 0 ∨ x = 1 ∨ x = 2 else if j = 11 then x = -1 ∨ ∃ s, s < n ∧ x = nI s else True) else if q < 3 then True else if q < 5 then (if j = 2 then ∃ k, k ≤ T + 1 ∧ x = nI k else True) else if q < 17 then (if j = 0 then x = 0 ∨ pm1 x else if j = 2 then ∃ k, k ≤ T + 1 ∧ x = nI k else if j = 5 then bo x else True) else (if j = 1 then bo x else if j = 4 ∨ j = 6 then pm1 x else if j = 5 ∨ j = 7 then le12 x else True)) := by
      intro q hq
      by_cases q0 : q = 0
      · simp only [q0, if_true] at hq ⊢; exact hq
      · simp only [q0, if_false] at hq ⊢
        by_cases q3 : q < 3
        · simp only [q3, if_true]
        · simp only [q3, if_false] at hq ⊢
          by_cases j2 : j = 2
          · by_cases q5 : q < 5
            · simp only [q5, j2, if_true] at hq ⊢
              obtain ⟨k, h1, h2⟩ := hq
              exact ⟨k, by omega, h2⟩
            · simp only [q5, if_false] at hq ⊢
              by_cases q17 : q < 17
              · simp only [q17, j2, if_true, show ¬ (2 : Nat) = 0 by decide, if_false] at hq ⊢
                obtain ⟨k, h1, h2⟩ := hq
                exact ⟨k, by omega, h2⟩
              · simp only [q17, if_false] at hq ⊢; exact hq
          · simp only [j2, if_false] at hq ⊢; exact hq
    by_cases o1 : o = 1
    · simp only [o1, if_true] at h ⊢
    · simp only [o1, if_false] at h ⊢
      by_cases o43 : o < 43
      · simp only [o43, if_true] at h ⊢
        exact w _ h
      · simp only [o43, if_false] at h ⊢
        by_cases o84 : o < 84
        · simp only [o84, if_true] at h ⊢
          exact w _ h
        · simp only [o84, if_false]
theorem Rel.next (R : Rel n T v u) (hT : T + 1 ≤ 20000) : Rel n (T + 1) (up2 (up2 (up2 v 0 6 (nI (T + 1))) 1 ((T + 1) % 10) 0) 0 7 0) (up2 (up2 u 0 4 (nI (T + 1))) 0 34 0) ∧ NB (T + 1) (up2 (up2 (up2 v 0 6 (nI (T + 1))) 1 ((T + 1) % 10) 0) 0 7 0) := by
  have g : ∀ o j, o ≠ 0 → o ≠ 1 → up2 (up2 (up2 v 0 6 (nI (T + 1))) 1 ((T + 1) % 10) 0) 0 7 0 o j = v o j := fun o j h0 h1 => by rw [up2_n (Or.inl h0), up2_n (Or.inl h1), up2_n (Or.inl h0)]
  have g1 : ∀ j, up2 (up2 (up2 v 0 6 (nI (T + 1))) 1 ((T + 1) % 10) 0) 0 7 0 1 j = if j = (T + 1) % 10 then 0 else v 1 j := fun j => by
    rw [up2_n (Or.inl (by decide))]
    by_cases e : j = (T + 1) % 10
    · rw [if_pos e, e, up2_s]
    · rw [if_neg e, up2_n (Or.inr e), up2_n (Or.inl (by decide))]
  have gu : ∀ a k, a ≠ 0 → up2 (up2 u 0 4 (nI (T + 1))) 0 34 0 a k = u a k := fun a k h => by rw [up2_n (Or.inl h), up2_n (Or.inl h)]
  refine ⟨⟨⟨R.n2, R.n24, hT⟩, ?_, ?_, fun t' ht' => ?_, fun t' ht' f' hf' => ?_, ?_⟩, fun t ht => ?_⟩
  · exact (((R.E.put (o := 0) (j := 6) (q := (0, 4)) rfl rfl).putC (o := 1) rfl).putC (o := 0) (j := 7) rfl).putR (Or.inl ⟨rfl, Or.inr rfl⟩)
  · intro o j
    by_cases e6 : o = 0 ∧ j = 6
    · obtain ⟨rfl, rfl⟩ := e6
      rw [up2_n (Or.inr (by decide)), up2_n (Or.inl (by decide)), up2_s]
      exact rfl
    · rw [up2_app]
      by_cases e7 : o = 0 ∧ j = 7
      · rw [if_pos e7, e7.1, e7.2]; exact trivial
      · rw [if_neg e7, up2_app]
        by_cases e1 : o = 1 ∧ j = (T + 1) % 10
        · rw [if_pos e1, e1.1]; exact trivial
        · rw [if_neg e1, up2_n (by omega)]
          exact okp_mono (R.I o j) e6
  · unfold B1
    rw [g _ _ (by omega) (by omega), g _ _ (by omega) (by omega)]
    exact R.B ht'
  · have := R.F ht' hf'
    unfold fok at this ⊢
    rw [g _ _ (by omega) (by omega), g _ _ (by omega) (by omega), g _ _ (by omega) (by omega), g _ _ (by omega) (by omega), g (2 + 41 * t' + 5 + f') 8 (by omega) (by omega), gu 16 _ (by decide), gu 15 _ (by decide)]
    exact this
  · refine ⟨fun τ a b => ?_, fun τ a => ?_, fun j a b => ?_⟩
    · rw [g1, gu 32 _ (by decide)]
      by_cases e : τ = T + 1
      · subst e
        rw [if_pos rfl, R.C.2.1 _ (by omega)]
      · rw [if_neg (by omega)]; exact R.C.1 τ (by omega) (by omega)
    · rw [gu 32 _ (by decide)]; exact R.C.2.1 τ (by omega)
    · rw [g1]
      by_cases e : j = (T + 1) % 10
      · rw [if_pos e]
      · rw [if_neg e]; exact R.C.2.2 j (by omega) b
  · rw [g _ _ (by omega) (by omega)]
    obtain ⟨k, hk, ek⟩ := R.I.D4 ht
    rw [ek]
    intro q
    have := (nI_eq (a := k) (b := T + 1) (by omega) (by omega)).mp q
    omega
end CR
