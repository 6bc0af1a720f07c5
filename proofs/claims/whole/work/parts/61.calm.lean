/-! the best of a row, upwards and downwards -/
def bt (ge : Nat → Nat → Bool) (k : Nat) : Option Nat → Option Nat
  | none => some k
  | some b => if ge k b then some k else some b
def dn (c : Nat → Bool) (ge : Nat → Nat → Bool) : Nat → Option Nat → Option Nat
  | 0, x => x
  | k + 1, x => dn c ge k (if c k then bt ge k x else x)
def BR (c : Nat → Bool) (ge : Nat → Nat → Bool) (lo hi : Nat) (x : Option Nat) : Prop := (x = none → ∀ f, lo ≤ f → f < hi → c f = false) ∧ (∀ i, x = some i → lo ≤ i ∧ i < hi ∧ c i = true ∧ ∀ f, lo ≤ f → f < hi → c f = true → ge i f = true ∧ (f < i → ge f i = false))
theorem BR_uniq {c : Nat → Bool} {ge : Nat → Nat → Bool} {lo hi : Nat} {x y : Option Nat} (hx : BR c ge lo hi x) (hy : BR c ge lo hi y) : x = y := by
  cases x with
  | none =>
    cases y with
    | none => rfl
    | some j =>
      obtain ⟨a1, a2, a3, a4⟩ := hy.2 j rfl
      have := hx.1 rfl j a1 a2
      rw [a3] at this; cases this
  | some i =>
    obtain ⟨b1, b2, b3, b4⟩ := hx.2 i rfl
    cases y with
    | none =>
      have := hy.1 rfl i b1 b2
      rw [b3] at this; cases this
    | some j =>
      obtain ⟨a1, a2, a3, a4⟩ := hy.2 j rfl
      have p := b4 j a1 a2 a3
      have q := a4 i b1 b2 b3
      rcases Nat.lt_trichotomy i j with h | h | h
      · have := q.2 h; rw [p.1] at this; cases this
      · rw [h]
      · have := p.2 h; rw [q.1] at this; cases this
theorem up_BR {c : Nat → Bool} {ge : Nat → Nat → Bool} (tot : ∀ a b, ge a b = true ∨ ge b a = true) (tr : ∀ a b d, ge a b = true → ge b d = true → ge a d = true) : ∀ k, BR c ge 0 k (up c ge k)
  | 0 => ⟨fun _ f _ h => by omega, fun i h => (by cases h)⟩
  | k + 1 => by
    have ih := up_BR tot tr k (c := c)
    have rf : ∀ a, ge a a = true := fun a => (tot a a).elim id id
    cases hc : c k with
    | false =>
      rw [up_f hc]
      refine ⟨fun h f _ hf => ?_, fun i hi => ?_⟩
      · by_cases e : f = k
        · rw [e]; exact hc
        · exact ih.1 h f (Nat.zero_le _) (by omega)
      · obtain ⟨a1, a2, a3, a4⟩ := ih.2 i hi
        refine ⟨a1, by omega, a3, fun f _ hf hcf => ?_⟩
        by_cases e : f = k
        · rw [e, hc] at hcf; cases hcf
        · exact a4 f (Nat.zero_le _) (by omega) hcf
    | true =>
      cases hu : up c ge k with
      | none =>
        rw [up_n hc hu]
        refine ⟨fun h => (by cases h), fun i hi => ?_⟩
        cases hi
        refine ⟨Nat.zero_le _, by omega, hc, fun f _ hf hcf => ?_⟩
        by_cases e : f = k
        · rw [e]; exact ⟨rf k, fun q => by omega⟩
        · have := ih.1 hu f (Nat.zero_le _) (by omega)
          rw [hcf] at this; cases this
      | some b =>
        obtain ⟨a1, a2, a3, a4⟩ := ih.2 b hu
        cases hg : ge b k with
        | true =>
          rw [up_k hc hu hg]
          refine ⟨fun h => (by cases h), fun i hi => ?_⟩
          cases hi
          refine ⟨Nat.zero_le _, by omega, a3, fun f _ hf hcf => ?_⟩
          by_cases e : f = k
          · rw [e]; exact ⟨hg, fun q => by omega⟩
          · exact a4 f (Nat.zero_le _) (by omega) hcf
        | false =>
          have kb : ge k b = true := (tot k b).resolve_right (by rw [hg]; decide)
          rw [up_r hc hu hg]
          refine ⟨fun h => (by cases h), fun i hi => ?_⟩
          cases hi
          refine ⟨Nat.zero_le _, by omega, hc, fun f _ hf hcf => ?_⟩
          by_cases e : f = k
          · rw [e]; exact ⟨rf k, fun q => by omega⟩
          · have := a4 f (Nat.zero_le _) (by omega) hcf
            refine ⟨tr _ _ _ kb this.1, fun _ => ?_⟩
            cases hfk : ge f k with
            | false => rfl
            | true => have := tr _ _ _ this.1 hfk; rw [hg] at this; cases this
theorem dn_BR {c : Nat → Bool} {ge : Nat → Nat → Bool} (tot : ∀ a b, ge a b = true ∨ ge b a = true) (tr : ∀ a b d, ge a b = true → ge b d = true → ge a d = true) {hi : Nat} : ∀ k x, k ≤ hi → BR c ge k hi x → BR c ge 0 hi (dn c ge k x)
  | 0, x, _, h => h
  | k + 1, x, hk, h => by
    have rf : ∀ a, ge a a = true := fun a => (tot a a).elim id id
    show BR c ge 0 hi (dn c ge k (if c k then bt ge k x else x))
    refine dn_BR tot tr k _ (by omega) ?_
    cases hc : c k with
    | false =>
      refine ⟨fun q f h1 h2 => ?_, fun i hi' => ?_⟩
      · by_cases e : f = k
        · rw [e]; exact hc
        · exact h.1 q f (by omega) h2
      · obtain ⟨a1, a2, a3, a4⟩ := h.2 i hi'
        refine ⟨by omega, a2, a3, fun f h1 h2 hcf => ?_⟩
        by_cases e : f = k
        · rw [e, hc] at hcf; cases hcf
        · exact a4 f (by omega) h2 hcf
    | true =>
      cases x with
      | none =>
        refine ⟨fun q => (by cases q), fun i hi' => ?_⟩
        cases hi'
        refine ⟨Nat.le_refl _, by omega, hc, fun f h1 h2 hcf => ?_⟩
        by_cases e : f = k
        · rw [e]; exact ⟨rf k, fun q => by omega⟩
        · have := h.1 rfl f (by omega) h2
          rw [hcf] at this; cases this
      | some b =>
        obtain ⟨a1, a2, a3, a4⟩ := h.2 b rfl
        cases hg : ge k b with
        | true =>
          simp only [bt, hg, if_true]
          refine ⟨fun q => (by cases q), fun i hi' => ?_⟩
          cases hi'
          refine ⟨Nat.le_refl _, by omega, hc, fun f h1 h2 hcf => ?_⟩
          by_cases e : f = k
          · rw [e]; exact ⟨rf k, fun q => by omega⟩
          · exact ⟨tr _ _ _ hg (a4 f (by omega) h2 hcf).1, fun q => by omega⟩
        | false =>
          simp only [bt, hg, if_true]
          refine ⟨fun q => (by cases q), fun i hi' => ?_⟩
          cases hi'
          refine ⟨by omega, a2, a3, fun f h1 h2 hcf => ?_⟩
          by_cases e : f = k
          · rw [e]
            exact ⟨(tot b k).resolve_right (by rw [hg]; decide), fun _ => hg⟩
          · exact a4 f (by omega) h2 hcf
theorem dn_up {c : Nat → Bool} {ge : Nat → Nat → Bool} (tot : ∀ a b, ge a b = true ∨ ge b a = true) (tr : ∀ a b d, ge a b = true → ge b d = true → ge a d = true) (k : Nat) : dn c ge k none = up c ge k :=
  BR_uniq (dn_BR tot tr k none (Nat.le_refl _) ⟨fun _ f h1 h2 => by omega, fun i h => by cases h⟩) (up_BR tot tr k)
/-- the fans that count for a stop: d = 0 stands for any that blow -/
def cA (v : Mem) (t : Nat) (d : Int32) (f : Nat) : Bool := decide (if d = 0 then v (2 + 41 * t + 5 + f) 0 ≠ 0 else v (2 + 41 * t + 5 + f) 0 = d)
def geR (v : Mem) (t a b : Nat) : Bool := decide (v (2 + 41 * t + 5 + b) 7 ≤ v (2 + 41 * t + 5 + a) 7)
theorem geR_tot (v : Mem) (t : Nat) : ∀ a b, geR v t a b = true ∨ geR v t b a = true := fun a b => by
  unfold geR
  rw [decide_eq_true_eq, decide_eq_true_eq, i32_le, i32_le]
  omega
theorem geR_tr (v : Mem) (t : Nat) : ∀ a b d, geR v t a b = true → geR v t b d = true → geR v t a d = true := fun a b d => by
  unfold geR
  rw [decide_eq_true_eq, decide_eq_true_eq, decide_eq_true_eq, i32_le, i32_le, i32_le]
  omega
/-- the fan to stop -/
def lgst (v : Mem) (t : Nat) (d : Int32) (k : Nat) : Option Nat := up (cA v t d) (geR v t) k
section LG
variable {X : Mem → Prop} {c : Int32} {n T : Nat} {v u : Mem}
theorem lr_loop {t k : Nat} (hk : k ≤ 12) (hc : v (2 + 41 * t) 4 = nI k) {p d : Int32} (hd : ∀ f, f < k → (if p = 0 then (if v (2 + 41 * t + 5 + f) 0 = v (2 + 41 * t) 8 then cA v t d f = true else cA v t d f = false) else (if v (2 + 41 * t + 5 + f) 0 = 0 then cA v t d f = false else cA v t d f = true))) : ∀ r i, i + r = k → ∀ fuel, r < fuel → fX3_longestRun_4 (2 + 41 * t) p fuel v (oI (lgst v t d i)) (nI i) = some (oI (lgst v t d k), v) := by
  intro r
  induction r with
  | zero =>
    intro i hi fuel hf
    obtain ⟨m, rfl⟩ : ∃ m, fuel = m + 1 := ⟨fuel - 1, by omega⟩
    have : i = k := by omega
    subst this
    rw [fX3_longestRun_4, hc, if_pos (nI_le (Nat.le_refl _) (by omega))]
  | succ r ih =>
    intro i hi fuel hf
    obtain ⟨m, rfl⟩ : ∃ m, fuel = m + 1 := ⟨fuel - 1, by omega⟩
    have e := ih (i + 1) (by omega) m (by omega)
    have hi12 : inb (nI i) 12 := inb_nI (by omega) (by decide)
    have no : cA v t d i = false → fX3_longestRun_54 (fun v l2 l3 => fX3_longestRun_4 (2 + 41 * t) p m v l2 l3) (2 + 41 * t) p v (oI (lgst v t d i)) (nI i) 0 = some (oI (lgst v t d k), v) := fun q => by
      unfold fX3_longestRun_54
      rw [if_pos rfl, nI_1]
      have ee : lgst v t d (i + 1) = lgst v t d i := up_f q
      rw [ee] at e
      exact e
    have ye : cA v t d i = true → fX3_longestRun_54 (fun v l2 l3 => fX3_longestRun_4 (2 + 41 * t) p m v l2 l3) (2 + 41 * t) p v (oI (lgst v t d i)) (nI i) 1 = some (oI (lgst v t d k), v) := fun q => by
      unfold fX3_longestRun_54 fX3_longestRun_87
      rw [if_neg (by decide), nI_1]
      cases hu : lgst v t d i with
      | none =>
        have ee : lgst v t d (i + 1) = some i := up_n q hu
        rw [if_pos (show oI none = -1 from rfl)]
        rw [ee] at e
        exact e
      | some b =>
        have hb := (up_lt hu).1
        rw [if_neg (fun z => by have := ((oI_neg (some b) (fun j hj => by cases hj; omega)).1.mp z); cases this), gd_pos hi12, show oI (some b) = nI b from rfl, gd_pos (inb_nI (by omega) (by decide)), nI_c (by omega), nI_c (by omega)]
        by_cases hg : v (2 + 41 * t + 5 + i) 7 ≤ v (2 + 41 * t + 5 + b) 7
        · have ee : lgst v t d (i + 1) = some b := up_k q hu (decide_eq_true hg)
          rw [if_pos hg]
          rw [ee] at e
          exact e
        · have ee : lgst v t d (i + 1) = some i := up_r q hu (decide_eq_false hg)
          rw [if_neg hg]
          rw [ee] at e
          exact e
    have hdi := hd i (by omega)
    rw [fX3_longestRun_4, hc, if_neg (nI_ge (by omega) (by omega)), gd_pos hi12, nI_c (by omega)]
    by_cases hp : p = 0
    · rw [if_pos hp] at hdi ⊢
      by_cases h1 : v (2 + 41 * t + 5 + i) 0 = v (2 + 41 * t) 8
      · rw [if_pos h1] at hdi ⊢; exact ye hdi
      · rw [if_neg h1] at hdi ⊢; exact no hdi
    · rw [if_neg hp] at hdi ⊢
      by_cases h1 : v (2 + 41 * t + 5 + i) 0 = 0
      · rw [if_pos h1] at hdi ⊢; exact no hdi
      · rw [if_neg h1] at hdi ⊢; exact ye hdi
theorem pm1_ne {x : Int32} (h : pm1 x) : x ≠ 0 := by rcases h with rfl | rfl <;> decide
theorem lr4_0 {t k : Nat} (hk : k ≤ 12) (hc : v (2 + 41 * t) 4 = nI k) (hw : pm1 (v (2 + 41 * t) 8)) : fX3_longestRun (2 + 41 * t) 0 v = some (oI (lgst v t (v (2 + 41 * t) 8) k), v) := by
  refine lr_loop (p := 0) (d := v (2 + 41 * t) 8) hk hc (fun f hf => ?_) k 0 (by omega) 1000 (by omega)
  rw [if_pos rfl]
  unfold cA
  by_cases h : v (2 + 41 * t + 5 + f) 0 = v (2 + 41 * t) 8
  · rw [if_pos h]; exact decide_eq_true (by rw [if_neg (pm1_ne hw)]; exact h)
  · rw [if_neg h]; exact decide_eq_false (by rw [if_neg (pm1_ne hw)]; exact h)
theorem lr4_1 {t k : Nat} (hk : k ≤ 12) (hc : v (2 + 41 * t) 4 = nI k) : fX3_longestRun (2 + 41 * t) 1 v = some (oI (lgst v t 0 k), v) := by
  refine lr_loop (p := 1) (d := 0) hk hc (fun f hf => ?_) k 0 (by omega) 1000 (by omega)
  rw [if_neg (by decide)]
  unfold cA
  by_cases h : v (2 + 41 * t + 5 + f) 0 = 0
  · rw [if_pos h]; exact decide_eq_false (by rw [if_pos rfl]; exact fun q => q h)
  · rw [if_neg h]; exact decide_eq_true (by rw [if_pos rfl]; exact h)
def oR (t : Nat) : Option Nat → Int32
  | none => -1
  | some b => nI (14 * t + 2 + b)
theorem lg5_loop (R : Rel n T v u) {t k : Nat} (ht : t < 2) (hk : k ≤ 12) {d : Int32} : ∀ j, j ≤ k → ∀ x, (∀ b, x = some b → b < 12) → ∀ fuel, j < fuel → fX5_longest_19 (nI t) d fuel u (oR t x) (nI (14 * t + 2 + j) - 1) = some (oR t (dn (cA v t d) (geR v t) j x), u) := by
  intro j
  induction j with
  | zero =>
    intro _ x hx fuel hf
    obtain ⟨m, rfl⟩ : ∃ m, fuel = m + 1 := ⟨fuel - 1, by omega⟩
    rw [fX5_longest_19, i14_2, show 14 * t + 2 + 0 = 14 * t + 1 + 1 by omega, nI_pred, if_pos (nI_lt (by omega) (by omega))]; rfl
  | succ j ih =>
    intro hj x hx fuel hf
    obtain ⟨m, rfl⟩ : ∃ m, fuel = m + 1 := ⟨fuel - 1, by omega⟩
    have hix : inb (nI (14 * t + 2 + j)) 28 := inb_nI (by omega) (by decide)
    have e : dn (cA v t d) (geR v t) (j + 1) x = dn (cA v t d) (geR v t) j (if cA v t d j then bt (geR v t) j x else x) := rfl
    have no : cA v t d j = false → fX5_longest_59 (fun v l3 l4 => fX5_longest_19 (nI t) d m v l3 l4) (nI t) d u (oR t x) (nI (14 * t + 2 + j)) = some (oR t (dn (cA v t d) (geR v t) (j + 1) x), u) := fun q => by
      unfold fX5_longest_59 fX5_longest_60 fX5_longest_92
      rw [if_pos rfl, add_m1, e, q]
      exact ih (by omega) x hx m (by omega)
    have ye : cA v t d j = true → fX5_longest_60 (fun v l3 l4 => fX5_longest_19 (nI t) d m v l3 l4) (nI t) d u (oR t x) (nI (14 * t + 2 + j)) 1 = some (oR t (dn (cA v t d) (geR v t) (j + 1) x), u) := fun q => by
      unfold fX5_longest_60 fX5_longest_92
      rw [if_neg (by decide), add_m1, e, q]
      cases x with
      | none =>
        rw [if_pos (show oR t none < 0 from (by decide : (-1 : Int32) < 0))]
        exact ih (by omega) (some j) (fun b hb => by cases hb; omega) m (by omega)
      | some b =>
        have hb := hx b rfl
        rw [show oR t (some b) = nI (14 * t + 2 + b) from rfl, if_neg (nI_pos (by omega)), gd_pos hix, gd_pos (inb_nI (by omega) (by decide)), nI_c (by omega), nI_c (by omega), ← R.E.F7 ht (by omega), ← R.E.F7 ht hb]
        by_cases hg : v (2 + 41 * t + 5 + j) 7 < v (2 + 41 * t + 5 + b) 7
        · rw [if_pos hg]
          have g : geR v t j b = false := decide_eq_false (fun z => by rw [i32_le] at z; rw [i32_lt] at hg; omega)
          simp only [bt, g, if_true]
          exact ih (by omega) (some b) hx m (by omega)
        · rw [if_neg hg]
          have g : geR v t j b = true := decide_eq_true (by rw [i32_le]; rw [i32_lt] at hg; omega)
          simp only [bt, g, if_true]
          exact ih (by omega) (some j) (fun b hb => by cases hb; omega) m (by omega)
    rw [fX5_longest_19, i14_2, show 14 * t + 2 + (j + 1) = 14 * t + 2 + j + 1 by omega, nI_pred, if_neg (nI_nlt (by omega) (by omega)), gd_pos hix, gd_pos hix, nI_c (by omega), ← R.E.F0 ht (by omega)]
    by_cases h1 : v (2 + 41 * t + 5 + j) 0 = 0
    · rw [if_pos h1]
      refine no (decide_eq_false ?_)
      by_cases hd : d = 0
      · rw [if_pos hd]; exact fun q => q h1
      · rw [if_neg hd, h1]; exact fun q => hd q.symm
    · rw [if_neg h1]
      by_cases hd : d = 0
      · rw [if_pos hd]
        exact ye (decide_eq_true (by rw [if_pos hd]; exact h1))
      · rw [if_neg hd]
        by_cases h2 : v (2 + 41 * t + 5 + j) 0 = d
        · rw [if_pos h2]
          exact ye (decide_eq_true (by rw [if_neg hd]; exact h2))
        · rw [if_neg h2]
          exact no (decide_eq_false (by rw [if_neg hd]; exact h2))
theorem lg5 (R : Rel n T v u) {t k : Nat} (ht : t < 2) (hk : k ≤ 12) (hc : v (2 + 41 * t) 4 = nI k) (d : Int32) : fX5_longest (nI t) d u = some (oR t (lgst v t d k), u) := by
  unfold fX5_longest
  rw [gd_pos (inb_nI ht (by decide)), nI_c (by omega), ← R.E.T4 ht, hc, i14_f]
  have := lg5_loop R ht hk (d := d) k (Nat.le_refl _) none (fun b hb => by cases hb) 1000 (by omega)
  rw [dn_up (geR_tot v t) (geR_tr v t)] at this
  exact this
/-! counting after a stop -/
theorem cn_upd {g g' : Nat → Int32} {d : Int32} {b : Nat} (h1 : g b = d) (h2 : g' b ≠ d) (h3 : ∀ j, j ≠ b → g' j = g j) : ∀ k, b < k → cn g' d k + 1 = cn g d k
  | 0, h => by omega
  | k + 1, h => by
    show cn g' d k + (if g' k = d then 1 else 0) + 1 = cn g d k + (if g k = d then 1 else 0)
    by_cases e : b = k
    · subst e
      rw [if_neg h2, if_pos h1, cn_congr (g := g') (g' := g) (fun j hj => h3 j (by omega))]
    · have := cn_upd h1 h2 h3 k (by omega)
      rw [h3 k (fun q => e q.symm)]
      omega
theorem cn_pos {g : Nat → Int32} {d : Int32} : ∀ k, 0 < cn g d k → ∃ j, j < k ∧ g j = d
  | 0, h => by cases h
  | k + 1, h => by
    by_cases e : g k = d
    · exact ⟨k, by omega, e⟩
    · have h' : 0 < cn g d k + (if g k = d then 1 else 0) := h
      rw [if_neg e] at h'
      obtain ⟨j, h1, h2⟩ := cn_pos k h'
      exact ⟨j, by omega, h2⟩
theorem lgst_some {t k : Nat} {d : Int32} {f : Nat} (hf : f < k) (hcf : cA v t d f = true) : ∃ b, lgst v t d k = some b ∧ b < k ∧ cA v t d b = true := by
  cases h : lgst v t d k with
  | none =>
    have := (up_BR (c := cA v t d) (geR_tot v t) (geR_tr v t) k).1 h f (Nat.zero_le _) hf
    rw [hcf] at this; cases this
  | some b => exact ⟨b, rfl, up_lt h⟩
theorem stopAt4 {t b : Nat} (hb : b < 12) (now : Int32) : fX3_stopAt (2 + 41 * t) (nI b) now v = some (snd v (2 + 41 * t + 5 + b) 0 now) := by
  unfold fX3_stopAt
  rw [if_neg (fun z => nI_pos (n := b) (by omega) (by rw [z]; decide)), gd_pos (inb_nI hb (by decide)), nI_c (by omega), stand4]; rfl
theorem cf_loop (hX : XF X) {t k w : Nat} (ht : t < 2) (hk : k ≤ 12) (hw : w ≤ 12) (p1 p2 : Int32) : ∀ r i m (v u : Mem), RF X c n T v u → v (2 + 41 * t) 4 = nI k → v (2 + 41 * t) 9 = nI w → cnt v t (v (2 + 41 * t) 8) k = w + r → i + r = m → m < 100 → ∀ f1 f2, r < f1 → r < f2 → ∃ v' u', fX3_stopFans_34 (2 + 41 * t) p1 (nI T) f1 v (nI m) (nI i) = some v' ∧ fX5_calm_55 (nI t) p2 f2 u = some u' ∧ RF X c n T v' u' := by
  intro r
  induction r with
  | zero =>
    intro i m v u h hc h9 hcn hi hm f1 f2 g1 g2
    obtain ⟨m1, rfl⟩ : ∃ m, f1 = m + 1 := ⟨f1 - 1, by omega⟩
    obtain ⟨m2, rfl⟩ : ∃ m, f2 = m + 1 := ⟨f2 - 1, by omega⟩
    have R := h.1
    have hin : inb (nI t) 2 := inb_nI ht (by decide)
    refine ⟨v, u, ?_, ?_, h⟩
    · rw [fX3_stopFans_34, if_pos (nI_le (by omega) (by omega))]
    · rw [fX5_calm_55]
      simp only [gd_pos hin, nI_c (show t < 2 ^ 31 by omega)]
      rw [← R.E.T8 ht, bl5 R ht _ hk hc, bd_some, ← R.E.T9 ht, h9, if_pos (nI_le (by omega) (by omega))]
  | succ r ih =>
    intro i m v u h hc h9 hcn hi hm f1 f2 g1 g2
    obtain ⟨m1, rfl⟩ : ∃ m, f1 = m + 1 := ⟨f1 - 1, by omega⟩
    obtain ⟨m2, rfl⟩ : ∃ m, f2 = m + 1 := ⟨f2 - 1, by omega⟩
    have R := h.1
    have hin : inb (nI t) 2 := inb_nI ht (by decide)
    have hd := R.I.dir ht
    have hcl : cnt v t (v (2 + 41 * t) 8) k ≤ k := cn_le _ _ _
    obtain ⟨f, hf, ef⟩ := cn_pos (g := fun f => v (2 + 41 * t + 5 + f) 0) k (show 0 < cnt v t (v (2 + 41 * t) 8) k by omega)
    have cA_iff : ∀ f, cA v t (v (2 + 41 * t) 8) f = true ↔ v (2 + 41 * t + 5 + f) 0 = v (2 + 41 * t) 8 := fun f => by unfold cA; rw [decide_eq_true_eq, if_neg (pm1_ne hd)]
    obtain ⟨b, e1, e2, e3⟩ := lgst_some (v := v) (t := t) hf ((cA_iff f).mpr ef)
    have eb := (cA_iff b).mp e3
    have hb12 : b < 12 := by omega
    have r1 := h.stop hX ht hb12
    have n8 : ∀ j, (snd v (2 + 41 * t + 5 + b) 0 (nI T)) (2 + 41 * t) j = v (2 + 41 * t) j := fun j => snd_n (by omega) j
    have hcn' : cnt (snd v (2 + 41 * t + 5 + b) 0 (nI T)) t ((snd v (2 + 41 * t + 5 + b) 0 (nI T)) (2 + 41 * t) 8) k = w + r := by
      rw [n8]
      have := cn_upd (g := fun f => v (2 + 41 * t + 5 + f) 0) (g' := fun f => (snd v (2 + 41 * t + 5 + b) 0 (nI T)) (2 + 41 * t + 5 + f) 0) (d := v (2 + 41 * t) 8) (b := b) eb (by show (snd v (2 + 41 * t + 5 + b) 0 (nI T)) (2 + 41 * t + 5 + b) 0 ≠ _; rw [snd_0]; exact fun q => pm1_ne hd q.symm) (fun j hj => snd_n (by omega) 0) k e2
      unfold cnt at hcn ⊢
      omega
    obtain ⟨v', u', q1, q2, q3⟩ := ih (i + 1) m _ _ r1 (by rw [n8, hc]) (by rw [n8, h9]) hcn' (by omega) hm m1 m2 (by omega) (by omega)
    refine ⟨v', u', ?_, ?_, q3⟩
    · rw [fX3_stopFans_34, if_neg (nI_ge (by omega) (by omega)), lr4_0 hk hc hd, bd_some, e1, show oI (some b) = nI b from rfl, stopAt4 hb12]
      simp only [Option.bind_some, nI_1]
      exact q1
    · rw [fX5_calm_55]
      simp only [gd_pos hin, nI_c (show t < 2 ^ 31 by omega)]
      rw [← R.E.T8 ht, bl5 R ht _ hk hc, bd_some, ← R.E.T9 ht, h9, if_neg (nI_ge (by omega) (by omega)), ← R.E.T8 ht, lg5 R ht hk hc, bd_some, e1, show oR t (some b) = nI (14 * t + 2 + b) from rfl, stop5 (by omega)]
      simp only [Option.bind_some]
      exact q2
theorem cf_all (hX : XF X) {t : Nat} (ht : t < 2) (h : RF X c n T v u) (p1 p2 : Int32) : ∃ v' u', fX3_stopFans_17 (2 + 41 * t) p1 (nI T) v = some v' ∧ fX5_calm_55 (nI t) p2 1000 u = some u' ∧ RF X c n T v' u' := by
  have R := h.1
  obtain ⟨k, hk, hc⟩ := R.I.cnt ht
  obtain ⟨w, hw, h9⟩ := R.I.fan ht
  have hcl : cnt v t (v (2 + 41 * t) 8) k ≤ k := cn_le _ _ _
  have cb := cb4 (v := v) (v (2 + 41 * t) 8) hk hc
  unfold fX3_stopFans_17
  rw [cb, bd_some, h9]
  rcases Nat.lt_or_ge (cnt v t (v (2 + 41 * t) 8) k) w with hlt | hge
  · have hin : inb (nI t) 2 := inb_nI ht (by decide)
    refine ⟨v, u, ?_, ?_, h⟩
    · rw [show (1000 : Nat) = 999 + 1 from rfl, fX3_stopFans_34, if_pos]
      have e : nI (cnt v t (v (2 + 41 * t) 8) k) - nI w < 0 := by
        have e2 : nI (cnt v t (v (2 + 41 * t) 8) k) = nI w - nI (w - cnt v t (v (2 + 41 * t) 8) k) := by rw [nI_sub (by omega)]; congr 1; omega
        rw [i32_lt, Int32.toInt_sub, nI_toInt (by omega), nI_toInt (by omega), Int.bmod_eq_of_le (by omega) (by omega)]
        show _ < (0 : Int)
        omega
      rw [i32_le]
      rw [i32_lt] at e
      have : cn (fun f => v (2 + 41 * t + 5 + f) 0) (v (2 + 41 * t) 8) k = cnt v t (v (2 + 41 * t) 8) k := rfl
      rw [this]
      omega
    · rw [show (1000 : Nat) = 999 + 1 from rfl, fX5_calm_55]
      simp only [gd_pos hin, nI_c (show t < 2 ^ 31 by omega)]
      rw [← R.E.T8 ht, bl5 R ht _ hk hc, bd_some, ← R.E.T9 ht, h9, if_pos (nI_le (by omega) (by omega))]
  · obtain ⟨v', u', q1, q2, q3⟩ := cf_loop hX ht hk hw p1 p2 (cnt v t (v (2 + 41 * t) 8) k - w) 0 (cnt v t (v (2 + 41 * t) 8) k - w) v u h hc h9 (by omega) (by omega) (by omega) 1000 1000 (by omega) (by omega)
    refine ⟨v', u', ?_, q2, q3⟩
    rw [← nI_sub hge] at q1
    exact q1
theorem sb_loop (hX : XF X) {t k : Nat} (ht : t < 2) (hk : k ≤ 12) : ∀ r f (v u : Mem), RF X c n T v u → v (2 + 41 * t) 4 = nI k → f + r = k → ∀ f1 f2, r < f1 → r < f2 → ∃ v' u', fX3_stopBlowingAgainst_2 (2 + 41 * t) (nI T) f1 v (nI f) = some v' ∧ fX5_calm_7 (nI t) 1 f2 u (nI (14 * t + 2 + f)) = fX5_calm_55 (nI t) 1 1000 u' ∧ RF X c n T v' u' := by
  intro r
  induction r with
  | zero =>
    intro f v u h hc hi f1 f2 g1 g2
    obtain ⟨m1, rfl⟩ : ∃ m, f1 = m + 1 := ⟨f1 - 1, by omega⟩
    obtain ⟨m2, rfl⟩ : ∃ m, f2 = m + 1 := ⟨f2 - 1, by omega⟩
    have R := h.1
    have : f = k := by omega
    subst this
    refine ⟨v, u, ?_, ?_, h⟩
    · rw [fX3_stopBlowingAgainst_2, hc, if_pos (nI_le (Nat.le_refl _) (by omega))]
    · rw [fX5_calm_7, gd_pos (inb_nI ht (by decide)), show u 5 (nI t).toNatClampNeg = nI f from by rw [nI_c (by omega), ← R.E.T4 ht, hc], i14_f, if_pos (nI_le (Nat.le_refl _) (by omega))]
  | succ r ih =>
    intro f v u h hc hi f1 f2 g1 g2
    obtain ⟨m1, rfl⟩ : ∃ m, f1 = m + 1 := ⟨f1 - 1, by omega⟩
    obtain ⟨m2, rfl⟩ : ∃ m, f2 = m + 1 := ⟨f2 - 1, by omega⟩
    have R := h.1
    have hin : inb (nI t) 2 := inb_nI ht (by decide)
    have hf12 : f < 12 := by omega
    have hi12 : inb (nI f) 12 := inb_nI hf12 (by decide)
    have hix : inb (nI (14 * t + 2 + f)) 28 := inb_nI (by omega) (by decide)
    rw [fX3_stopBlowingAgainst_2, hc, if_neg (nI_ge (by omega) (by omega)), fX5_calm_7]
    simp only [gd_pos hin, gd_pos hi12, gd_pos hix, nI_c (show t < 2 ^ 31 by omega), nI_c (show f < 2 ^ 31 by omega), nI_c (show 14 * t + 2 + f < 2 ^ 31 by omega), stand4, stop5 (show 14 * t + 2 + f < 28 by omega), Option.bind_some, nI_1]
    rw [← R.E.T4 ht, hc, i14_f, if_neg (nI_ge (by omega) (by omega)), if_neg (show ¬ (1 : Int32) = 0 by decide), ← R.E.F0 ht hf12, ← R.E.T8 ht, show 14 * t + 2 + f + 1 = 14 * t + 2 + (f + 1) by omega]
    by_cases h1 : v (2 + 41 * t + 5 + f) 0 = -v (2 + 41 * t) 8
    · rw [if_pos h1, if_pos h1]
      exact ih (f + 1) _ _ (h.stop hX ht hf12) (by rw [snd_n (by omega), hc]) (by omega) m1 m2 (by omega) (by omega)
    · rw [if_neg h1, if_neg h1]
      exact ih (f + 1) _ _ h hc (by omega) m1 m2 (by omega) (by omega)
/-- one tube's fans are stopped -/
theorem p_stop (hX : XF X) {t : Nat} (ht : t < 2) (h : RF X c n T v u) (fl : Bool) : ∃ v' u', fX3_stopFans (2 + 41 * t) (bi fl) (nI T) v = some v' ∧ fX5_calm (nI t) (bi (!fl || hal v t T)) u = some u' ∧ RF X c n T v' u' := by
  have R := h.1
  obtain ⟨k, hk, hc⟩ := R.I.cnt ht
  unfold fX3_stopFans fX5_calm
  have yes : ∃ v' u', fX3_stopFans_12 (2 + 41 * t) (bi fl) (nI T) v = some v' ∧ fX5_calm_7 (nI t) 1 1000 u (14 * nI t + 2) = some u' ∧ RF X c n T v' u' := by
    obtain ⟨v1, u1, a1, a2, a3⟩ := sb_loop hX ht hk k 0 v u h hc (by omega) 1000 1000 (by omega) (by omega)
    obtain ⟨v2, u2, b1, b2, b3⟩ := cf_all hX ht a3 (bi fl) 1
    refine ⟨v2, u2, ?_, ?_, b3⟩
    · unfold fX3_stopFans_12 fX3_stopBlowingAgainst
      have a1' : fX3_stopBlowingAgainst_2 (2 + 41 * t) (nI T) 1000 v 0 = some v1 := a1
      rw [a1']
      exact b1
    · rw [i14_2, show 14 * t + 2 = 14 * t + 2 + 0 by omega, a2]
      exact b2
  have no : ∃ v' u', fX3_stopFans_17 (2 + 41 * t) (bi fl) (nI T) v = some v' ∧ fX5_calm_7 (nI t) 0 1000 u (14 * nI t + 2) = some u' ∧ RF X c n T v' u' := by
    obtain ⟨v2, u2, b1, b2, b3⟩ := cf_all hX ht h (bi fl) 0
    refine ⟨v2, u2, b1, ?_, b3⟩
    rw [show (1000 : Nat) = 999 + 1 from rfl, fX5_calm_7, gd_pos (inb_nI ht (by decide)), if_pos rfl, ite_self]
    exact b2
  cases fl with
  | false =>
    rw [if_pos (show bi false = 0 from rfl)]
    exact yes
  | true =>
    rw [if_neg (show ¬ bi true = 0 by decide), ha4, bd_some]
    cases hal v t T with
    | false =>
      rw [if_pos (show bi false = 0 from rfl)]
      exact no
    | true =>
      rw [if_neg (show ¬ bi true = 0 by decide)]
      exact yes
end LG
