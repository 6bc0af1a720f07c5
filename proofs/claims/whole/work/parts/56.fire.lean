/-! fires -/
def lst (b : Nat → Bool) : Nat → Option Nat
  | 0 => none
  | k + 1 => match lst b k with
    | some x => some x
    | none => if b k then some k else none
def oI : Option Nat → Int32
  | none => -1
  | some x => nI x
def bi (b : Bool) : Int32 := if b then 1 else 0
theorem bi_0 (b : Bool) : (bi b = 0) ↔ b = false := by cases b <;> decide
theorem lst_stay {b : Nat → Bool} {k j : Nat} (h : lst b k = some j) : ∀ r, lst b (k + r) = some j
  | 0 => h
  | r + 1 => by
    show (match lst b (k + r) with | some x => some x | none => if b (k + r) then some (k + r) else none) = some j
    rw [lst_stay h r]
theorem lst_some {b : Nat → Bool} : ∀ {k j : Nat}, lst b k = some j → j < k ∧ b j = true ∧ ∀ i, i < j → b i = false
  | 0, j, h => by cases h
  | k + 1, j, h => by
    unfold lst at h
    cases hk : lst b k with
    | some x =>
      rw [hk] at h
      cases h
      obtain ⟨a1, a2, a3⟩ := lst_some hk
      exact ⟨by omega, a2, a3⟩
    | none =>
      rw [hk] at h
      by_cases hb : b k = true
      · simp only [hb, if_true] at h
        cases h
        refine ⟨by omega, hb, fun i hi => ?_⟩
        cases hx : b i with
        | false => rfl
        | true =>
          exfalso
          have : ∀ m, m ≤ k → i < m → ∃ x, lst b m = some x := by
            intro m
            induction m with
            | zero => intro _ h0; omega
            | succ m ih =>
              intro hm him
              unfold lst
              cases hy : lst b m with
              | some x => exact ⟨x, rfl⟩
              | none =>
                by_cases e : i = m
                · subst e; exact ⟨i, by simp [hx]⟩
                · obtain ⟨x, q⟩ := ih (by omega) (by omega)
                  rw [q] at hy; cases hy
          obtain ⟨x, q⟩ := this k (Nat.le_refl _) hi
          rw [q] at hk; cases hk
      · simp only [hb] at h
        cases h
theorem lst_none {b : Nat → Bool} : ∀ {k : Nat}, lst b k = none → ∀ i, i < k → b i = false
  | 0, _, i, hi => by omega
  | k + 1, h, i, hi => by
    unfold lst at h
    cases hk : lst b k with
    | some x => rw [hk] at h; cases h
    | none =>
      rw [hk] at h
      by_cases e : i = k
      · subst e
        cases hx : b i with
        | false => rfl
        | true => simp [hx] at h
      · exact lst_none hk i (by omega)
theorem lst_eq {p q : Nat → Bool} {k : Nat} (h1 : ∀ s, s < k → p s = true → q s = true) (h2 : ∀ s, s < k → q s = true → ∃ s', s' ≤ s ∧ p s' = true) : lst p k = lst q k := by
  cases hp : lst p k with
  | none =>
    cases hq : lst q k with
    | none => rfl
    | some j =>
      exfalso
      obtain ⟨a1, a2, a3⟩ := lst_some hq
      obtain ⟨s', b1, b2⟩ := h2 j a1 a2
      have := lst_none hp s' (by omega)
      rw [b2] at this; cases this
  | some i =>
    obtain ⟨c1, c2, c3⟩ := lst_some hp
    cases hq : lst q k with
    | none =>
      exfalso
      have := lst_none hq i c1
      rw [h1 i c1 c2] at this; cases this
    | some j =>
      obtain ⟨a1, a2, a3⟩ := lst_some hq
      have e1 : j ≤ i := by
        rcases Nat.lt_or_ge i j with g | g
        · have := a3 i g; rw [h1 i c1 c2] at this; cases this
        · exact g
      obtain ⟨s', b1, b2⟩ := h2 j a1 a2
      have e2 : i ≤ s' := by
        rcases Nat.lt_or_ge s' i with g | g
        · have := c3 s' g; rw [b2] at this; cases this
        · exact g
      have : i = j := by omega
      rw [this]
def dlst (b : Nat → Bool) : Nat → Option Nat → Option Nat
  | 0, x => x
  | k + 1, x => dlst b k (if b k then some k else x)
theorem dlst_eq {b : Nat → Bool} : ∀ k x, dlst b k x = (match lst b k with | some j => some j | none => x)
  | 0, x => rfl
  | k + 1, x => by
    show dlst b k (if b k then some k else x) = _
    have e : lst b (k + 1) = (match lst b k with | some x => some x | none => if b k then some k else none) := rfl
    rw [dlst_eq k, e]
    cases lst b k with
    | some j => rfl
    | none => cases b k <;> rfl
theorem dlst_0 {b : Nat → Bool} (k : Nat) : dlst b k none = lst b k := by
  rw [dlst_eq]
  cases lst b k <;> rfl
theorem add_m1 (x : Int32) : x + (-1) = x - 1 := (Int32.sub_eq_add_neg x 1).symm
theorem m1_lt : (nI 0 - 1 : Int32) < 0 := by decide
/-- section s of tube t is on -/
def onb (v : Mem) (t s : Nat) : Bool := decide (¬ v (2 + 41 * t + 17 + s) 0 < 50 ∧ v (2 + 41 * t + 17 + s) 1 = 0)
theorem onb_t {v : Mem} {t s : Nat} (h1 : ¬ v (2 + 41 * t + 17 + s) 0 < 50) (h2 : v (2 + 41 * t + 17 + s) 1 = 0) : onb v t s = true := decide_eq_true ⟨h1, h2⟩
theorem onb_f {v : Mem} {t s : Nat} (h : ¬ (¬ v (2 + 41 * t + 17 + s) 0 < 50 ∧ v (2 + 41 * t + 17 + s) 1 = 0)) : onb v t s = false := decide_eq_false h
theorem on4 (v : Mem) (t s : Nat) : fX2_isOn (2 + 41 * t + 17 + s) v = some (bi (onb v t s), v) := by
  unfold fX2_isOn fX2_isOn_20
  by_cases h1 : v (2 + 41 * t + 17 + s) 0 < 50
  · rw [if_pos h1, onb_f (fun q => q.1 h1)]; rfl
  · rw [if_neg h1]
    by_cases h2 : v (2 + 41 * t + 17 + s) 1 = 0
    · rw [if_pos h2, onb_t h1 h2]; rfl
    · rw [if_neg h2, onb_f (fun q => h2 q.2)]; rfl
section FR
variable {n T : Nat} {v u : Mem}
theorem on5 (h : Rel n T v u) {t s : Nat} (ht : t < 2) (hs : s < n) : fX5_isOn (nI t) (nI s) u = some (bi (onb v t s), u) := by
  have hn := h.n24
  unfold fX5_isOn fX5_isOn_46
  rw [if_neg (nI_pos (by omega)), ← h.E.W0, h.I.W0, if_neg (nI_ge hs (by omega)), i24, gd_pos (inb_nI (s48 ht hs hn) (by decide)), gd_pos (inb_nI (s48 ht hs hn) (by decide)), nI_c (by omega), ← h.E.S0 ht (by omega), ← h.E.S1 ht (by omega)]
  by_cases h1 : v (2 + 41 * t + 17 + s) 0 < 50
  · rw [if_pos h1, onb_f (fun q => q.1 h1)]; rfl
  · rw [if_neg h1]
    by_cases h2 : v (2 + 41 * t + 17 + s) 1 = 0
    · rw [if_pos h2, onb_t h1 h2]; rfl
    · rw [if_neg h2, onb_f (fun q => h2 q.2)]; rfl
theorem lo4_loop (hn : n ≤ 24) {t : Nat} : ∀ r i, i + r = n → lst (onb v t) i = none → ∀ fuel, r < fuel → fX3_leastOn_2 n (2 + 41 * t) fuel v (nI i) = some (oI (lst (onb v t) n), v) := by
  intro r
  induction r with
  | zero =>
    intro i hi hl fuel hf
    obtain ⟨m, rfl⟩ : ∃ m, fuel = m + 1 := ⟨fuel - 1, by omega⟩
    have : i = n := by omega
    subst this
    rw [fX3_leastOn_2, if_pos (nI_le (Nat.le_refl _) (by omega)), hl]; rfl
  | succ r ih =>
    intro i hi hl fuel hf
    obtain ⟨m, rfl⟩ : ∃ m, fuel = m + 1 := ⟨fuel - 1, by omega⟩
    rw [fX3_leastOn_2, if_neg (nI_ge (by omega) (by omega)), gd_pos (inb_nI (by omega) (by omega)), nI_c (by omega), on4, bd_some]
    have e : lst (onb v t) (i + 1) = if onb v t i then some i else none := by
      rw [lst, hl]
    cases hb : onb v t i with
    | false =>
      rw [hb] at e
      rw [if_pos (show bi false = 0 from rfl), nI_1]
      exact ih (i + 1) (by omega) e m (by omega)
    | true =>
      rw [hb] at e
      rw [if_neg (by decide)]
      have := lst_stay e r
      rw [show i + 1 + r = n by omega] at this
      rw [this]; rfl
theorem lo4 (hn : n ≤ 24) (t : Nat) (v : Mem) : fX3_leastOn n (2 + 41 * t) v = some (oI (lst (onb v t) n), v) := lo4_loop hn n 0 (by omega) rfl 1000 (by omega)
theorem lo5_loop (h : Rel n T v u) {t : Nat} (ht : t < 2) : ∀ k, k ≤ n → ∀ x fuel, k < fuel → fX5_leastOn_9 (nI t) fuel u (oI x) (nI k - 1) = some (oI (dlst (onb v t) k x), u) := by
  intro k
  have hn := h.n24
  induction k with
  | zero =>
    intro _ x fuel hf
    obtain ⟨m, rfl⟩ : ∃ m, fuel = m + 1 := ⟨fuel - 1, by omega⟩
    rw [fX5_leastOn_9, if_pos m1_lt]; rfl
  | succ k ih =>
    intro hk x fuel hf
    obtain ⟨m, rfl⟩ : ∃ m, fuel = m + 1 := ⟨fuel - 1, by omega⟩
    rw [fX5_leastOn_9, nI_pred, if_neg (nI_pos (by omega)), on5 h ht (by omega), bd_some, add_m1]
    cases hb : onb v t k with
    | false =>
      rw [if_pos (show bi false = 0 from rfl), ih (by omega) x m (by omega)]
      show _ = some (oI (dlst (onb v t) k (if onb v t k then some k else x)), u)
      rw [hb]; rfl
    | true =>
      rw [if_neg (by decide), show nI k = oI (some k) from rfl, show oI (some k) - 1 = nI k - 1 from rfl, ih (by omega) (some k) m (by omega)]
      show _ = some (oI (dlst (onb v t) k (if onb v t k then some k else x)), u)
      rw [hb]; rfl
theorem lo5 (h : Rel n T v u) {t : Nat} (ht : t < 2) : fX5_leastOn (nI t) u = some (oI (lst (onb v t) n), u) := by
  unfold fX5_leastOn
  rw [← h.E.W0, h.I.W0, show (-1 : Int32) = oI none from rfl, lo5_loop h ht n (Nat.le_refl _) none 1000 (by have := h.n24; omega), dlst_0]
theorem oI_neg (x : Option Nat) (hx : ∀ j, x = some j → j < 2 ^ 31) : (oI x = -1 ↔ x = none) ∧ (oI x < 0 ↔ x = none) ∧ (0 ≤ oI x ↔ x ≠ none) := by
  cases x with
  | none => exact ⟨⟨fun _ => rfl, fun _ => rfl⟩, ⟨fun _ => rfl, fun _ => by decide⟩, ⟨fun q => absurd q (by decide), fun q => absurd rfl q⟩⟩
  | some j =>
    have h := nI_toInt (hx j rfl)
    refine ⟨⟨fun q => ?_, fun q => by cases q⟩, ⟨fun q => ?_, fun q => by cases q⟩, ⟨fun _ => by simp, fun _ => nI_pos' (hx j rfl)⟩⟩
    · exfalso
      have e : (nI j).toInt = (-1 : Int32).toInt := congrArg Int32.toInt q
      rw [h] at e
      have : (-1 : Int32).toInt = -1 := by decide
      omega
    · exact absurd q (nI_pos (hx j rfl))
/-- status and place -/
theorem Rel.st {t : Nat} {x y : Int32} (h : Rel n T v u) (ht : t < 2) (hx : x = 0 ∨ x = 1 ∨ x = 2) (hy : y = -1 ∨ ∃ s, s < n ∧ y = nI s) (hxy : x ≠ 0 → ∃ s, s < n ∧ y = nI s) : Rel n T (up2 (up2 v (2 + 41 * t) 10 x) (2 + 41 * t) 11 y) (up2 (up2 u 25 t x) 26 t y) := by
  have E1 := h.E.put (ph_tub t ht 10 (by decide) (by decide)) (x := x) rfl
  have E2 := E1.put (ph_tub t ht 11 (by decide) (by decide)) (x := y) rfl
  have I1 := h.I.put (o := 2 + 41 * t) (j := 10) (x := x) (by rw [okp_T ht]; exact hx)
  have I2 := I1.put (o := 2 + 41 * t) (j := 11) (x := y) (by rw [okp_T ht]; exact hy)
  refine ⟨h.1, E2, I2, fun t' ht' => ?_, fun t' ht' f' hf' => ?_, ?_⟩
  · unfold B1
    by_cases e : t' = t
    · subst e
      rw [up2_n (Or.inr (by decide)), up2_s, up2_s]
      exact hxy
    · rw [up2_n (Or.inl (by omega)), up2_n (Or.inl (by omega)), up2_n (Or.inl (by omega)), up2_n (Or.inl (by omega))]
      exact h.B ht'
  · have g : ∀ j, up2 (up2 v (2 + 41 * t) 10 x) (2 + 41 * t) 11 y (2 + 41 * t' + 5 + f') j = v (2 + 41 * t' + 5 + f') j := fun j => by rw [up2_n (Or.inl (by omega)), up2_n (Or.inl (by omega))]
    have g4 : up2 (up2 v (2 + 41 * t) 10 x) (2 + 41 * t) 11 y (2 + 41 * t') 4 = v (2 + 41 * t') 4 := by rw [up2_n (Or.inr (by decide)), up2_n (Or.inr (by decide))]
    have gu : ∀ a, a = 15 ∨ a = 16 → up2 (up2 u 25 t x) 26 t y a (14 * t' + 2 + f') = u a (14 * t' + 2 + f') := fun a ha => by rw [up2_n (Or.inl (by omega)), up2_n (Or.inl (by omega))]
    unfold fok
    rw [g, g, g, g, g4, gu 16 (by omega), gu 15 (by omega)]
    exact h.F ht' hf'
  · exact ⟨fun τ a b => by rw [up2_n (Or.inl (by omega)), up2_n (Or.inl (by omega)), up2_n (Or.inl (by decide)), up2_n (Or.inl (by decide))]; exact h.C.1 τ a b, fun τ a => by rw [up2_n (Or.inl (by decide)), up2_n (Or.inl (by decide))]; exact h.C.2.1 τ a, fun j a b => by rw [up2_n (Or.inl (by omega)), up2_n (Or.inl (by omega))]; exact h.C.2.2 j a b⟩
theorem ef_loop {t : Nat} (ht : t < 2) : ∀ r i (v u : Mem), Rel n T v u → u 0 0 = 0 → i + r = n → ∀ f1 f2, r < f1 → r < f2 → ∃ v' u', fX3_endFire_12 n (2 + 41 * t) f1 v (nI i) = some (1, v') ∧ fX5_reset_35 (nI t) f2 u (nI i) = some (1, u') ∧ Rel n T v' u' ∧ u' 0 0 = 0 := by
  intro r
  induction r with
  | zero =>
    intro i v u h h0 hi f1 f2 g1 g2
    obtain ⟨m, rfl⟩ : ∃ m, f1 = m + 1 := ⟨f1 - 1, by omega⟩
    obtain ⟨m2, rfl⟩ : ∃ m, f2 = m + 1 := ⟨f2 - 1, by omega⟩
    have hn := h.n24
    have : i = n := by omega
    subst this
    refine ⟨_, _, ?_, ?_, h.st (x := 0) (y := -1) ht (Or.inl rfl) (Or.inl rfl) (fun q => absurd rfl q), ?_⟩
    · rw [fX3_endFire_12, if_pos (nI_le (Nat.le_refl _) (by omega))]
    · rw [fX5_reset_35, ← h.E.W0, h.I.W0, if_pos (nI_le (Nat.le_refl _) (by omega)), gd_pos (inb_nI ht (by decide)), gd_pos (inb_nI ht (by decide)), nI_c (by omega)]
    · rw [u00 (by decide), u00 (by decide)]; exact h0
  | succ r ih =>
    intro i v u h h0 hi f1 f2 g1 g2
    obtain ⟨m, rfl⟩ : ∃ m, f1 = m + 1 := ⟨f1 - 1, by omega⟩
    obtain ⟨m2, rfl⟩ : ∃ m, f2 = m + 1 := ⟨f2 - 1, by omega⟩
    have hn := h.n24
    rw [fX3_endFire_12, if_neg (nI_ge (by omega) (by omega)), gd_pos (inb_nI (by omega) (by omega)), nI_c (by omega), nI_1, fX5_reset_35, ← h.E.W0, h.I.W0, if_neg (nI_ge (by omega) (by omega)), i24, gd_pos (inb_nI (s48 ht (show i < n by omega) hn) (by decide)), nI_c (by omega), nar0, nI_1]
    exact ih (i + 1) _ _ (h.sec (j := 2) (x := 0) ht (show i < n by omega) (by decide) (okS h ht (by omega) trivial)) (by rw [u00 (by decide)]; exact h0) (by omega) m m2 (by omega) (by omega)
theorem lst_lt {b : Nat → Bool} {k : Nat} (hk : k ≤ 24) : ∀ j, lst b k = some j → j < 2 ^ 31 := fun j hj => by have := (lst_some hj).1; omega
theorem c_reset (h : Rel n T v u) (p1 : Int32) : AG n (fX4_reset n p1 v) (fX5_reset p1 u) := by
  unfold fX4_reset fX5_reset fX5_reset_13
  rcases tube_cases p1 with ⟨t, ht, rfl⟩ | hb
  · have hn := h.n24
    rw [needTube_ok ht, xd_l, isTube_ok ht, bd_some, if_neg (show ¬ (1 : Int32) = 0 by decide), tubeAt_ok ht, bd_some, up2_s, if_neg (show ¬ (0 : Int32) < 0 by decide), lo5 h.ok0 ht, bd_some]
    unfold fX3_endFire
    rw [lo4 hn, bd_some]
    have q := oI_neg (lst (onb v t) n) (lst_lt hn)
    by_cases e : lst (onb v t) n = none
    · rw [if_pos (q.1.mpr e), if_pos (q.2.1.mpr e)]
      obtain ⟨v', u', a1, a2, a3, a4⟩ := ef_loop ht n 0 v (up2 u 0 0 0) h.ok0 (up2_s _ _ _ _) (by omega) 1000 1000 (by omega) (by omega)
      have a1' : fX3_endFire_12 n (2 + 41 * t) 1000 v 0 = some (1, v') := a1
      have a2' : fX5_reset_35 (nI t) 1000 (up2 u 0 0 0) 0 = some (1, u') := a2
      rw [a1', a2', bd_some, gd_pos (Or.inr rfl)]
      exact AG.good a3 a4
    · rw [if_neg (fun z => e (q.1.mp z)), if_neg (fun z => e (q.2.1.mp z)), bd_some, gd_pos (Or.inl rfl)]
      exact AG.good h.ok0 (up2_s _ _ _ _)
  · rw [needTube_bad hb, xd_r, isTube_bad hb, bd_some, if_pos rfl, up2_s, if_pos (by decide)]
    exact AG.bad h
end FR
