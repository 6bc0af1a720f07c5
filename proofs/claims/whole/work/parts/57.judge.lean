def anyR (b : Nat → Bool) : Nat → Nat → Bool
  | _, 0 => false
  | a, r + 1 => b a || anyR b (a + 1) r
theorem anyR_iff {b : Nat → Bool} : ∀ {r a}, anyR b a r = true ↔ ∃ j, a ≤ j ∧ j < a + r ∧ b j = true
  | 0, a => ⟨fun h => (by cases h), fun ⟨j, h1, h2, _⟩ => by omega⟩
  | r + 1, a => by
    show (b a || anyR b (a + 1) r) = true ↔ _
    rw [Bool.or_eq_true, anyR_iff]
    constructor
    · rintro (h | ⟨j, h1, h2, h3⟩)
      · exact ⟨a, Nat.le_refl _, by omega, h⟩
      · exact ⟨j, by omega, by omega, h3⟩
    · rintro ⟨j, h1, h2, h3⟩
      by_cases e : j = a
      · subst e; exact Or.inl h3
      · exact Or.inr ⟨j, by omega, by omega, h3⟩
def dst (s i : Nat) : Nat := if s ≤ i then i - s else s - i
def anyC (b : Nat → Bool) (s : Nat) : Nat → Bool
  | 0 => false
  | i + 1 => anyC b s i || (decide (1 ≤ dst s i ∧ dst s i ≤ 3) && b i)
theorem anyC_iff {b : Nat → Bool} {s : Nat} : ∀ {k}, anyC b s k = true ↔ ∃ j, j < k ∧ 1 ≤ dst s j ∧ dst s j ≤ 3 ∧ b j = true
  | 0 => ⟨fun h => (by cases h), fun ⟨j, h1, _⟩ => by omega⟩
  | k + 1 => by
    show (anyC b s k || (decide (1 ≤ dst s k ∧ dst s k ≤ 3) && b k)) = true ↔ _
    rw [Bool.or_eq_true, anyC_iff, Bool.and_eq_true, decide_eq_true_eq]
    constructor
    · rintro (⟨j, h1, h2, h3, h4⟩ | ⟨⟨h1, h2⟩, h3⟩)
      · exact ⟨j, by omega, h2, h3, h4⟩
      · exact ⟨k, by omega, h1, h2, h3⟩
    · rintro ⟨j, h1, h2, h3, h4⟩
      by_cases e : j = k
      · subst e; exact Or.inr ⟨⟨h2, h3⟩, h4⟩
      · exact Or.inl ⟨j, by omega, h2, h3, h4⟩
def pairb (b : Nat → Bool) (n s : Nat) : Bool := b s && anyR b (s + 1) (min (s + 3) (n - 1) - s)
def candb (b : Nat → Bool) (n s : Nat) : Bool := b s && anyC b s n
theorem pair_cand (b : Nat → Bool) (n : Nat) : lst (pairb b n) n = lst (candb b n) n := by
  refine lst_eq (fun s hs h => ?_) (fun s hs h => ?_)
  · unfold pairb at h
    unfold candb
    rw [Bool.and_eq_true, anyR_iff] at h
    rw [Bool.and_eq_true, anyC_iff]
    obtain ⟨h1, j, h2, h3, h4⟩ := h
    refine ⟨h1, j, by omega, ?_, ?_, h4⟩ <;> unfold dst <;> split <;> omega
  · unfold candb at h
    rw [Bool.and_eq_true, anyC_iff] at h
    obtain ⟨h1, j, h2, h3, h4, h5⟩ := h
    unfold dst at h3 h4
    by_cases e : s ≤ j
    · rw [if_pos e] at h3 h4
      refine ⟨s, Nat.le_refl _, ?_⟩
      unfold pairb
      rw [Bool.and_eq_true, anyR_iff]
      exact ⟨h1, j, by omega, by omega, h5⟩
    · rw [if_neg e] at h3 h4
      refine ⟨j, by omega, ?_⟩
      unfold pairb
      rw [Bool.and_eq_true, anyR_iff]
      exact ⟨h5, s, by omega, by omega, h1⟩
theorem nI_sub {a b : Nat} (h : b ≤ a) : nI a - nI b = nI (a - b) := by
  have := nI_add (a - b) b
  rw [show a - b + b = a by omega] at this
  rw [← this, Int32.add_sub_cancel]
/-- the best so far, upwards; a later one must be better -/
def up (c : Nat → Bool) (ge : Nat → Nat → Bool) : Nat → Option Nat
  | 0 => none
  | k + 1 => if c k then (match up c ge k with | none => some k | some b => if ge b k then some b else some k) else up c ge k
theorem up_lt {c : Nat → Bool} {ge : Nat → Nat → Bool} : ∀ {k j}, up c ge k = some j → j < k ∧ c j = true
  | 0, j, h => by cases h
  | k + 1, j, h => by
    have e : up c ge (k + 1) = if c k then (match up c ge k with | none => some k | some b => if ge b k then some b else some k) else up c ge k := rfl
    rw [e] at h
    cases hc : c k with
    | false =>
      rw [hc] at h
      have := up_lt (show up c ge k = some j from h)
      exact ⟨by omega, this.2⟩
    | true =>
      rw [hc] at h
      simp only [if_true] at h
      cases hu : up c ge k with
      | none => rw [hu] at h; cases h; exact ⟨by omega, hc⟩
      | some b =>
        rw [hu] at h
        have := up_lt hu
        cases hg : ge b k with
        | true => simp only [hg, if_true] at h; cases h; exact ⟨by omega, this.2⟩
        | false => simp only [hg] at h; cases h; exact ⟨by omega, hc⟩
theorem up_f {c : Nat → Bool} {ge : Nat → Nat → Bool} {k : Nat} (h : c k = false) : up c ge (k + 1) = up c ge k := by
  show (if c k then _ else up c ge k) = _
  rw [h]; rfl
theorem up_n {c : Nat → Bool} {ge : Nat → Nat → Bool} {k : Nat} (h : c k = true) (hu : up c ge k = none) : up c ge (k + 1) = some k := by
  show (if c k then (match up c ge k with | none => some k | some b => if ge b k then some b else some k) else up c ge k) = _
  rw [h, hu]; rfl
theorem up_k {c : Nat → Bool} {ge : Nat → Nat → Bool} {k b : Nat} (h : c k = true) (hu : up c ge k = some b) (hg : ge b k = true) : up c ge (k + 1) = some b := by
  show (if c k then (match up c ge k with | none => some k | some b => if ge b k then some b else some k) else up c ge k) = _
  rw [h, hu]
  simp only [if_true, hg]
theorem up_r {c : Nat → Bool} {ge : Nat → Nat → Bool} {k b : Nat} (h : c k = true) (hu : up c ge k = some b) (hg : ge b k = false) : up c ge (k + 1) = some k := by
  show (if c k then (match up c ge k with | none => some k | some b => if ge b k then some b else some k) else up c ge k) = _
  rw [h, hu]
  simp [hg]
theorem oI_eq {x : Option Nat} (hx : ∀ j, x = some j → j < 2 ^ 31) {i : Nat} (hi : i < 2 ^ 31) : nI i = oI x ↔ x = some i := by
  cases x with
  | none => exact ⟨fun q => absurd q (fun q => nI_pos hi (by rw [q]; decide)), fun q => by cases q⟩
  | some j => exact ⟨fun q => by rw [(nI_eq hi (hx j rfl)).mp q], fun q => by cases q; rfl⟩
/-- who counts, and what is better -/
def cds (v : Mem) (t : Nat) (x : Option Nat) (s : Nat) : Bool := decide (v (2 + 41 * t + 17 + s) 2 ≠ 0 ∨ x = some s)
def ger (v : Mem) (t : Nat) (b k : Nat) : Bool := decide (v (2 + 41 * t + 17 + k) 3 ≤ v (2 + 41 * t + 17 + b) 3)
section JD
variable {n T : Nat} {v u : Mem}
theorem ca_loop (hn : n ≤ 24) {t last : Nat} (hl : last < n) {p : Int32} : ∀ r a, a + r = last + 1 → ∀ fuel, r < fuel → fX3_isOnCloseAbove_18 n (2 + 41 * t) p fuel v (nI last) (nI a) = some (bi (anyR (onb v t) a r), v) := by
  intro r
  induction r with
  | zero =>
    intro a ha fuel hf
    obtain ⟨m, rfl⟩ : ∃ m, fuel = m + 1 := ⟨fuel - 1, by omega⟩
    rw [fX3_isOnCloseAbove_18, if_pos (nI_lt (by omega) (by omega))]; rfl
  | succ r ih =>
    intro a ha fuel hf
    obtain ⟨m, rfl⟩ : ∃ m, fuel = m + 1 := ⟨fuel - 1, by omega⟩
    rw [fX3_isOnCloseAbove_18, if_neg (nI_nlt (by omega) (by omega)), gd_pos (inb_nI (by omega) (by omega)), nI_c (by omega), on4, bd_some, nI_1, ih (a + 1) (by omega) m (by omega)]
    show _ = some (bi (onb v t a || anyR (onb v t) (a + 1) r), v)
    cases onb v t a with
    | false => rw [if_pos (show bi false = 0 from rfl)]; rfl
    | true => rw [if_neg (by decide)]; rfl
theorem ca4 (hn : n ≤ 24) {t s : Nat} (hs : s < n) : fX3_isOnCloseAbove n (2 + 41 * t) (nI s) v = some (bi (anyR (onb v t) (s + 1) (min (s + 3) (n - 1) - s)), v) := by
  unfold fX3_isOnCloseAbove
  rw [nI_m1 (by omega), nI_1, show nI s + 3 = nI (s + 3) from nI_add s 3]
  by_cases h : n - 1 < s + 3
  · rw [if_pos (nI_lt h (by omega)), show min (s + 3) (n - 1) = n - 1 by omega]
    exact ca_loop hn (by omega) _ _ (by omega) 1000 (by omega)
  · rw [if_neg (nI_nlt (by omega) (by omega)), show min (s + 3) (n - 1) = s + 3 by omega]
    exact ca_loop hn (by omega) _ _ (by omega) 1000 (by omega)
theorem lp_loop (hn : n ≤ 24) {t : Nat} : ∀ r i, i + r = n → lst (pairb (onb v t) n) i = none → ∀ fuel, r < fuel → fX3_leastOfPair_2 n (2 + 41 * t) fuel v (nI i) = some (oI (lst (pairb (onb v t) n) n), v) := by
  intro r
  induction r with
  | zero =>
    intro i hi hl fuel hf
    obtain ⟨m, rfl⟩ : ∃ m, fuel = m + 1 := ⟨fuel - 1, by omega⟩
    have : i = n := by omega
    subst this
    rw [fX3_leastOfPair_2, if_pos (nI_le (Nat.le_refl _) (by omega)), hl]; rfl
  | succ r ih =>
    intro i hi hl fuel hf
    obtain ⟨m, rfl⟩ : ∃ m, fuel = m + 1 := ⟨fuel - 1, by omega⟩
    rw [fX3_leastOfPair_2, if_neg (nI_ge (by omega) (by omega)), gd_pos (inb_nI (by omega) (by omega)), nI_c (by omega), on4, bd_some, ca4 hn (by omega), bd_some, nI_1]
    have e : lst (pairb (onb v t) n) (i + 1) = if pairb (onb v t) n i then some i else none := by
      rw [lst, hl]
    have no : pairb (onb v t) n i = false → fX3_leastOfPair_2 n (2 + 41 * t) m v (nI (i + 1)) = some (oI (lst (pairb (onb v t) n) n), v) := fun q => by
      rw [q] at e
      exact ih (i + 1) (by omega) e m (by omega)
    cases hb : onb v t i with
    | false =>
      rw [if_pos (show bi false = 0 from rfl)]
      exact no (by unfold pairb; rw [hb]; rfl)
    | true =>
      rw [if_neg (by decide)]
      cases hc : anyR (onb v t) (i + 1) (min (i + 3) (n - 1) - i) with
      | false =>
        rw [if_pos (show bi false = 0 from rfl)]
        exact no (by unfold pairb; rw [hb, hc]; rfl)
      | true =>
        rw [if_neg (by decide)]
        rw [show pairb (onb v t) n i = true by unfold pairb; rw [hb, hc]; rfl] at e
        have := lst_stay e r
        rw [show i + 1 + r = n by omega] at this
        rw [this]; rfl
theorem lpr4 (hn : n ≤ 24) (t : Nat) (v : Mem) : fX3_leastOfPair n (2 + 41 * t) v = some (oI (lst (pairb (onb v t) n) n), v) := lp_loop hn n 0 (by omega) rfl 1000 (by omega)
theorem bc_loop (hn : n ≤ 24) {t : Nat} {x : Option Nat} (hx : ∀ j, x = some j → j < 2 ^ 31) : ∀ r i, i + r = n → ∀ fuel, r < fuel → fX3_bestCandidate_9 n (2 + 41 * t) fuel v (oI x) (oI (up (cds v t x) (ger v t) i)) (nI i) = some (oI (up (cds v t x) (ger v t) n), v) := by
  intro r
  induction r with
  | zero =>
    intro i hi fuel hf
    obtain ⟨m, rfl⟩ : ∃ m, fuel = m + 1 := ⟨fuel - 1, by omega⟩
    have : i = n := by omega
    subst this
    rw [fX3_bestCandidate_9, if_pos (nI_le (Nat.le_refl _) (by omega))]
  | succ r ih =>
    intro i hi fuel hf
    obtain ⟨m, rfl⟩ : ∃ m, fuel = m + 1 := ⟨fuel - 1, by omega⟩
    have e := ih (i + 1) (by omega) m (by omega)
    rw [fX3_bestCandidate_9, if_neg (nI_ge (by omega) (by omega)), gd_pos (inb_nI (by omega) (by omega)), nI_c (by omega)]
    have no : cds v t x i = false → fX3_bestCandidate_40 (fun v l1 l2 l3 => fX3_bestCandidate_9 n (2 + 41 * t) m v l1 l2 l3) n (2 + 41 * t) v (oI x) (oI (up (cds v t x) (ger v t) i)) (nI i) 0 = some (oI (up (cds v t x) (ger v t) n), v) := fun q => by
      unfold fX3_bestCandidate_40
      rw [if_pos rfl, nI_1]
      rw [up_f q] at e
      exact e
    have ye : cds v t x i = true → fX3_bestCandidate_40 (fun v l1 l2 l3 => fX3_bestCandidate_9 n (2 + 41 * t) m v l1 l2 l3) n (2 + 41 * t) v (oI x) (oI (up (cds v t x) (ger v t) i)) (nI i) 1 = some (oI (up (cds v t x) (ger v t) n), v) := fun q => by
      unfold fX3_bestCandidate_40 fX3_bestCandidate_73
      rw [if_neg (by decide), nI_1]
      cases hu : up (cds v t x) (ger v t) i with
      | none =>
        rw [if_pos (show oI none = -1 from rfl)]
        rw [up_n q hu] at e
        exact e
      | some b =>
        have hb := (up_lt hu).1
        rw [if_neg (fun z => by have := ((oI_neg (some b) (fun j hj => by cases hj; omega)).1.mp z); cases this), gd_pos (inb_nI (by omega) (by omega)), show oI (some b) = nI b from rfl, gd_pos (inb_nI (by omega) (by omega)), nI_c (by omega), nI_c (by omega)]
        by_cases hg : v (2 + 41 * t + 17 + i) 3 ≤ v (2 + 41 * t + 17 + b) 3
        · rw [if_pos hg]
          rw [up_k q hu (decide_eq_true hg)] at e
          exact e
        · rw [if_neg hg]
          rw [up_r q hu (decide_eq_false hg)] at e
          exact e
    by_cases h1 : v (2 + 41 * t + 17 + i) 2 = 0
    · rw [if_pos h1]
      by_cases h2 : nI i = oI x
      · rw [if_pos h2]
        exact ye (decide_eq_true (Or.inr ((oI_eq hx (by omega)).mp h2)))
      · rw [if_neg h2]
        exact no (decide_eq_false (fun q => q.elim (fun z => z h1) (fun z => h2 ((oI_eq hx (by omega)).mpr z))))
    · rw [if_neg h1]
      exact ye (decide_eq_true (Or.inl h1))
/-- the section where a fire is confirmed, if any -/
def bst (n : Nat) (v : Mem) (t : Nat) : Option Nat := up (cds v t (lst (candb (onb v t) n) n)) (ger v t) n
theorem bc4 (hn : n ≤ 24) (t : Nat) (v : Mem) : fX3_bestCandidate n (2 + 41 * t) v = some (oI (bst n v t), v) := by
  unfold fX3_bestCandidate
  rw [lpr4 hn, bd_some, pair_cand]
  exact bc_loop hn (x := lst (candb (onb v t) n) n) (lst_lt hn) n 0 (by omega) 1000 (by omega)
theorem ic_loop (h : Rel n T v u) {t s : Nat} (ht : t < 2) (hs : s < n) : ∀ r i, i + r = n → ∀ fuel, r < fuel → fX5_isCandidate_5 (nI t) (nI s) fuel u (bi (anyC (onb v t) s i)) (nI i) = some (bi (candb (onb v t) n s), u) := by
  have hn := h.n24
  intro r
  induction r with
  | zero =>
    intro i hi fuel hf
    obtain ⟨m, rfl⟩ : ∃ m, fuel = m + 1 := ⟨fuel - 1, by omega⟩
    have : i = n := by omega
    subst this
    rw [fX5_isCandidate_5, ← h.E.W0, h.I.W0, if_pos (nI_le (Nat.le_refl _) (by omega)), on5 h ht hs, bd_some]
    unfold fX5_isCandidate_88 candb
    cases onb v t s with
    | false => rw [if_pos (show bi false = 0 from rfl)]; rfl
    | true =>
      rw [if_neg (by decide)]
      cases anyC (onb v t) s i with
      | false => rw [if_pos (show bi false = 0 from rfl)]; rfl
      | true => rw [if_neg (by decide)]; rfl
  | succ r ih =>
    intro i hi fuel hf
    obtain ⟨m, rfl⟩ : ∃ m, fuel = m + 1 := ⟨fuel - 1, by omega⟩
    have e := ih (i + 1) (by omega) m (by omega)
    have ea : anyC (onb v t) s (i + 1) = (anyC (onb v t) s i || (decide (1 ≤ dst s i ∧ dst s i ≤ 3) && onb v t i)) := rfl
    have main : fX5_isCandidate_31 (fun v l3 l4 => fX5_isCandidate_5 (nI t) (nI s) m v l3 l4) (nI t) (nI s) u (bi (anyC (onb v t) s i)) (nI i) (nI (dst s i)) = some (bi (candb (onb v t) n s), u) := by
      have hd : dst s i < 100 := by unfold dst; split <;> omega
      unfold fX5_isCandidate_31 fX5_isCandidate_63
      rw [nI_1]
      cases hf : anyC (onb v t) s i with
      | true =>
        rw [if_neg (by decide)]
        rw [ea, hf] at e
        exact e
      | false =>
        rw [if_pos (show bi false = 0 from rfl)]
        rw [ea, hf, Bool.false_or] at e
        by_cases d1 : nI (dst s i) < 1
        · rw [if_pos d1]
          have : dst s i < 1 := (nI_ltI (a := dst s i) (b := 1) (by omega) (by decide)).mp d1
          rw [decide_eq_false (fun q => by omega), Bool.false_and] at e
          exact e
        · rw [if_neg d1]
          have d1' : ¬ dst s i < 1 := fun q => d1 (nI_lt (a := dst s i) (b := 1) q (by decide))
          by_cases d3 : 3 < nI (dst s i)
          · rw [if_pos d3]
            have : 3 < dst s i := (nI_ltI (a := 3) (b := dst s i) (by decide) (by omega)).mp d3
            rw [decide_eq_false (fun q => by omega), Bool.false_and] at e
            exact e
          · rw [if_neg d3, on5 h ht (by omega), bd_some]
            have d3' : ¬ 3 < dst s i := fun q => d3 (nI_lt (a := 3) (b := dst s i) q (by omega))
            rw [decide_eq_true (show 1 ≤ dst s i ∧ dst s i ≤ 3 by omega), Bool.true_and] at e
            cases hb : onb v t i with
            | false =>
              rw [if_pos (show bi false = 0 from rfl)]
              rw [hb] at e; exact e
            | true =>
              rw [if_neg (by decide)]
              rw [hb] at e; exact e
    rw [fX5_isCandidate_5, ← h.E.W0, h.I.W0, if_neg (nI_ge (by omega) (by omega))]
    by_cases hsi : s ≤ i
    · rw [if_pos (nI_le hsi (by omega)), nI_sub hsi]
      rw [show dst s i = i - s by unfold dst; rw [if_pos hsi]] at main
      exact main
    · rw [if_neg (nI_ge (by omega) (by omega)), nI_sub (by omega)]
      rw [show dst s i = s - i by unfold dst; rw [if_neg hsi]] at main
      exact main
theorem ic5 (h : Rel n T v u) {t s : Nat} (ht : t < 2) (hs : s < n) : fX5_isCandidate (nI t) (nI s) u = some (bi (candb (onb v t) n s), u) := ic_loop h ht hs n 0 (by omega) 1000 (by have := h.n24; omega)
theorem j9_loop (h : Rel n T v u) {t : Nat} (ht : t < 2) : ∀ k, k ≤ n → ∀ x fuel, k < fuel → fX5_judge_9 (nI t) fuel u (oI x) (nI k - 1) = fX5_judge_39 (nI t) 1000 u (oI (dlst (candb (onb v t) n) k x)) (-1) 0 := by
  intro k
  have hn := h.n24
  induction k with
  | zero =>
    intro _ x fuel hf
    obtain ⟨m, rfl⟩ : ∃ m, fuel = m + 1 := ⟨fuel - 1, by omega⟩
    rw [fX5_judge_9, if_pos m1_lt]; rfl
  | succ k ih =>
    intro hk x fuel hf
    obtain ⟨m, rfl⟩ : ∃ m, fuel = m + 1 := ⟨fuel - 1, by omega⟩
    have e : dlst (candb (onb v t) n) (k + 1) x = dlst (candb (onb v t) n) k (if candb (onb v t) n k then some k else x) := rfl
    rw [fX5_judge_9, nI_pred, if_neg (nI_pos (by omega)), ic5 h ht (by omega), bd_some, add_m1, e]
    cases hb : candb (onb v t) n k with
    | false =>
      rw [if_pos (show bi false = 0 from rfl), ih (by omega) x m (by omega)]; rfl
    | true =>
      rw [if_neg (by decide), show nI k = oI (some k) from rfl, show oI (some k) - 1 = nI k - 1 from rfl, ih (by omega) (some k) m (by omega)]; rfl
theorem j39_loop (h : Rel n T v u) {t : Nat} (ht : t < 2) {x : Option Nat} (hx : ∀ j, x = some j → j < 2 ^ 31) : ∀ r i, i + r = n → ∀ fuel, fX5_judge_39 (nI t) (fuel + r) u (oI x) (oI (up (cds v t x) (ger v t) i)) (nI i) = fX5_judge_39 (nI t) fuel u (oI x) (oI (up (cds v t x) (ger v t) n)) (nI n) := by
  have hn := h.n24
  intro r
  induction r with
  | zero =>
    intro i hi fuel
    have : i = n := by omega
    subst this
    rfl
  | succ r ih =>
    intro i hi fuel
    have e := ih (i + 1) (by omega) fuel
    have hin : inb (nI (24 * t + i)) 48 := inb_nI (s48 ht (show i < n by omega) hn) (by decide)
    rw [← e, show fuel + (r + 1) = fuel + r + 1 by omega]
    rw [fX5_judge_39, ← h.E.W0, h.I.W0, if_neg (nI_ge (by omega) (by omega)), i24, gd_pos hin, nI_c (by omega), ← h.E.S2 ht (by omega)]
    have no : cds v t x i = false → fX5_judge_74 (fun v l2 l3 l4 => fX5_judge_39 (nI t) (fuel + r) v l2 l3 l4) (nI t) u (oI x) (oI (up (cds v t x) (ger v t) i)) (nI i) 0 = fX5_judge_39 (nI t) (fuel + r) u (oI x) (oI (up (cds v t x) (ger v t) (i + 1))) (nI (i + 1)) := fun q => by
      unfold fX5_judge_74 fX5_judge_116
      rw [if_pos rfl, nI_1, up_f q]
    have ye : cds v t x i = true → fX5_judge_74 (fun v l2 l3 l4 => fX5_judge_39 (nI t) (fuel + r) v l2 l3 l4) (nI t) u (oI x) (oI (up (cds v t x) (ger v t) i)) (nI i) 1 = fX5_judge_39 (nI t) (fuel + r) u (oI x) (oI (up (cds v t x) (ger v t) (i + 1))) (nI (i + 1)) := fun q => by
      unfold fX5_judge_74 fX5_judge_116
      rw [if_neg (by decide), nI_1]
      cases hu : up (cds v t x) (ger v t) i with
      | none => rw [if_pos (by decide), up_n q hu]; rfl
      | some b =>
        have hb := (up_lt hu).1
        rw [show oI (some b) = nI b from rfl, if_neg (nI_pos (n := b) (by omega)), i24, gd_pos hin, i24, gd_pos (inb_nI (s48 ht (show b < n by omega) hn) (by decide)), nI_c (by omega), nI_c (by omega), ← h.E.S3 ht (by omega), ← h.E.S3 ht (by omega)]
        by_cases hg : v (2 + 41 * t + 17 + i) 3 ≤ v (2 + 41 * t + 17 + b) 3
        · rw [if_pos hg, up_k q hu (decide_eq_true hg)]; rfl
        · rw [if_neg hg, up_r q hu (decide_eq_false hg)]; rfl
    by_cases h2 : nI i = oI x
    · rw [if_pos h2]
      exact ye (decide_eq_true (Or.inr ((oI_eq hx (by omega)).mp h2)))
    · rw [if_neg h2]
      by_cases h1 : v (2 + 41 * t + 17 + i) 2 = 0
      · rw [if_pos h1]
        exact no (decide_eq_false (fun q => q.elim (fun z => z h1) (fun z => h2 ((oI_eq hx (by omega)).mpr z))))
      · rw [if_neg h1]
        exact ye (decide_eq_true (Or.inl h1))
theorem j5 (h : Rel n T v u) {t : Nat} (ht : t < 2) : ∃ fuel, fX5_judge (nI t) u = fX5_judge_39 (nI t) (fuel + 1) u (oI (lst (candb (onb v t) n) n)) (oI (bst n v t)) (nI n) := by
  have hn := h.n24
  refine ⟨999 - n, ?_⟩
  unfold fX5_judge
  rw [← h.E.W0, h.I.W0, show (-1 : Int32) = oI none from rfl, j9_loop h ht n (Nat.le_refl _) none 1000 (by omega), dlst_0]
  have := j39_loop h ht (x := lst (candb (onb v t) n) n) (lst_lt hn) n 0 (by omega) (999 - n + 1)
  rw [show 999 - n + 1 + n = 1000 by omega] at this
  exact this
end JD
