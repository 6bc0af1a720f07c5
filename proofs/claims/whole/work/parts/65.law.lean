/-! the start -/
def cdR (a k : Nat) : Nat := if a = 0 then (if k = 1 then 3 else if k = 2 then 4 else if k = 3 then 5 else 0) else if a = 6 ∧ k < 28 then 1 else if (a = 21 ∨ a = 23) ∧ k < 48 then 1 else if a = 26 ∧ k < 2 then 2 else if (a = 28 ∨ a = 30) ∧ k < 2 then 1 else 0
theorem cd_eq : ∀ o, o < 84 → ∀ j, j < 12 → ∀ q ∈ ph o j, cdV o j = cdR q.1 q.2 := by decide +kernel
theorem i355 (p1 p2 p3 : Int32) : ∀ r i (u : Mem), i + r = 2 → ∀ fuel, r < fuel → ∃ u', fX5_init_355 p1 p2 p3 fuel u (nI i) = some u' ∧ ∀ a k, u' a k = if (a = 26 ∧ i ≤ k ∧ k < 2) then -1 else if (a = 28 ∨ a = 30) ∧ i ≤ k ∧ k < 2 then 1 else u a k := by
  intro r
  induction r with
  | zero =>
    intro i u hi fuel hf
    obtain ⟨m, rfl⟩ : ∃ m, fuel = m + 1 := ⟨fuel - 1, by omega⟩
    have : i = 2 := by omega
    subst this
    refine ⟨u, by rw [fX5_init_355, if_pos (by decide)], fun a k => ?_⟩
    rw [if_neg (by omega), if_neg (by omega)]
  | succ r ih =>
    intro i u hi fuel hf
    obtain ⟨m, rfl⟩ : ∃ m, fuel = m + 1 := ⟨fuel - 1, by omega⟩
    have hin : inb (nI i) 2 := inb_nI (by omega) (by decide)
    obtain ⟨u', e1, e2⟩ := ih (i + 1) (up2 (up2 (up2 u 26 i (-1)) 28 i 1) 30 i 1) (by omega) m (by omega)
    refine ⟨u', ?_, fun a k => ?_⟩
    · rw [fX5_init_355, if_neg (show ¬ (2 : Int32) ≤ nI i from nI_ge (a := i) (b := 2) (by omega) (by decide))]
      simp only [gd_pos hin, nI_c (show i < 2 ^ 31 by omega), nI_1]
      exact e1
    · rw [e2, up2_app, up2_app, up2_app]
      by_cases h26 : a = 26 ∧ i ≤ k ∧ k < 2
      · rw [if_pos h26]
        by_cases e : k = i
        · rw [if_neg (by omega), if_neg (by omega), if_neg (by omega), if_neg (by omega), if_pos (by omega)]
        · rw [if_pos (by omega)]
      · rw [if_neg h26]
        by_cases h28 : (a = 28 ∨ a = 30) ∧ i ≤ k ∧ k < 2
        · rw [if_pos h28]
          by_cases e : k = i
          · rw [if_neg (by omega), if_neg (by omega)]
            by_cases e30 : a = 30
            · rw [if_pos (by omega)]
            · rw [if_neg (by omega), if_pos (by omega)]
          · rw [if_neg (by omega), if_pos (by omega)]
        · rw [if_neg h28, if_neg (by omega), if_neg (by omega), if_neg (by omega), if_neg (by omega), if_neg (by omega)]
theorem i323 (p1 p2 p3 : Int32) : ∀ r i (u : Mem), i + r = 48 → ∀ fuel, r < fuel → ∃ u', fX5_init_323 p1 p2 p3 fuel u (nI i) = fX5_init_355 p1 p2 p3 1000 u' 0 ∧ ∀ a k, u' a k = if (a = 21 ∨ a = 23) ∧ i ≤ k ∧ k < 48 then 1 else u a k := by
  intro r
  induction r with
  | zero =>
    intro i u hi fuel hf
    obtain ⟨m, rfl⟩ : ∃ m, fuel = m + 1 := ⟨fuel - 1, by omega⟩
    have : i = 48 := by omega
    subst this
    exact ⟨u, by rw [fX5_init_323, if_pos (by decide)], fun a k => by rw [if_neg (by omega)]⟩
  | succ r ih =>
    intro i u hi fuel hf
    obtain ⟨m, rfl⟩ : ∃ m, fuel = m + 1 := ⟨fuel - 1, by omega⟩
    have hin : inb (nI i) 48 := inb_nI (by omega) (by decide)
    obtain ⟨u', e1, e2⟩ := ih (i + 1) (up2 (up2 u 21 i 1) 23 i 1) (by omega) m (by omega)
    refine ⟨u', ?_, fun a k => ?_⟩
    · rw [fX5_init_323, if_neg (show ¬ (48 : Int32) ≤ nI i from nI_ge (a := i) (b := 48) (by omega) (by decide))]
      simp only [gd_pos hin, nI_c (show i < 2 ^ 31 by omega), nI_1]
      exact e1
    · rw [e2, up2_app, up2_app]
      by_cases h : (a = 21 ∨ a = 23) ∧ i ≤ k ∧ k < 48
      · rw [if_pos h]
        by_cases e : k = i
        · rw [if_neg (by omega)]
          by_cases e23 : a = 23
          · rw [if_pos (by omega)]
          · rw [if_neg (by omega), if_pos (by omega)]
        · rw [if_pos (by omega)]
      · rw [if_neg h, if_neg (by omega), if_neg (by omega), if_neg (by omega)]
theorem i299 (p1 p2 p3 : Int32) : ∀ r i (u : Mem), i + r = 28 → ∀ fuel, r < fuel → ∃ u', fX5_init_299 p1 p2 p3 fuel u (nI i) = fX5_init_323 p1 p2 p3 1000 u' 0 ∧ ∀ a k, u' a k = if a = 6 ∧ i ≤ k ∧ k < 28 then 1 else u a k := by
  intro r
  induction r with
  | zero =>
    intro i u hi fuel hf
    obtain ⟨m, rfl⟩ : ∃ m, fuel = m + 1 := ⟨fuel - 1, by omega⟩
    have : i = 28 := by omega
    subst this
    exact ⟨u, by rw [fX5_init_299, if_pos (by decide)], fun a k => by rw [if_neg (by omega)]⟩
  | succ r ih =>
    intro i u hi fuel hf
    obtain ⟨m, rfl⟩ : ∃ m, fuel = m + 1 := ⟨fuel - 1, by omega⟩
    have hin : inb (nI i) 28 := inb_nI (by omega) (by decide)
    obtain ⟨u', e1, e2⟩ := ih (i + 1) (up2 u 6 i 1) (by omega) m (by omega)
    refine ⟨u', ?_, fun a k => ?_⟩
    · rw [fX5_init_299, if_neg (show ¬ (28 : Int32) ≤ nI i from nI_ge (a := i) (b := 28) (by omega) (by decide))]
      simp only [gd_pos hin, nI_c (show i < 2 ^ 31 by omega), nI_1]
      exact e1
    · rw [e2, up2_app]
      by_cases h : a = 6 ∧ i ≤ k ∧ k < 28
      · rw [if_pos h]
        by_cases e : k = i
        · rw [if_neg (by omega), if_pos (by omega)]
        · rw [if_pos (by omega)]
      · rw [if_neg h, if_neg (by omega), if_neg (by omega)]
theorem kl_if {α : Type} {p lo hi : Int32} (h : lo ≤ hi) (f : Int32 → α) : (if lo ≤ p then if p ≤ hi then f p else f hi else f lo) = f (kl p lo hi) := by
  unfold kl
  by_cases h1 : lo ≤ p
  · rw [if_pos h1]
    by_cases h2 : p ≤ hi
    · rw [if_pos h2]
      congr 1
      by_cases h3 : p < hi
      · rw [if_pos h3]
        by_cases h4 : lo < p
        · rw [if_pos h4]
        · rw [if_neg h4]; simp only [i32_le, i32_lt, i32_eq] at *; omega
      · rw [if_neg h3]
        by_cases h4 : lo < hi
        · rw [if_pos h4]; simp only [i32_le, i32_lt, i32_eq] at *; omega
        · rw [if_neg h4]; simp only [i32_le, i32_lt, i32_eq] at *; omega
    · rw [if_neg h2]
      congr 1
      rw [if_neg (show ¬ p < hi by simp only [i32_le, i32_lt] at *; omega)]
      by_cases h4 : lo < hi
      · rw [if_pos h4]
      · rw [if_neg h4]; simp only [i32_le, i32_lt, i32_eq] at *; omega
  · rw [if_neg h1]
    congr 1
    by_cases h3 : p < hi
    · rw [if_pos h3, if_neg (by simp only [i32_le, i32_lt] at *; omega)]
    · exfalso; simp only [i32_le, i32_lt] at *; omega
theorem init5 (p1 p2 p3 : Int32) : ∃ r, fX5_init_221 p1 p2 p3 (fun _ _ => 0) = some r ∧ ∀ a k, r a k = vl (kl p1 2 24) (kl p2 0 300) (kl p3 0 100000) (cdR a k) := by
  unfold fX5_init_221 fX5_init_243 fX5_init_269 fX5_init_293
  rw [kl_if (α := Option Mem) (by decide) (fun s0 => if 0 ≤ p2 then if p2 ≤ 300 then (if 0 ≤ p3 then if p3 ≤ 100000 then fX5_init_299 p1 p2 p3 1000 (up2 (up2 (up2 (fun _ _ => 0) 0 1 s0) 0 2 p2) 0 3 p3) 0 else fX5_init_299 p1 p2 p3 1000 (up2 (up2 (up2 (fun _ _ => 0) 0 1 s0) 0 2 p2) 0 3 100000) 0 else fX5_init_299 p1 p2 p3 1000 (up2 (up2 (up2 (fun _ _ => 0) 0 1 s0) 0 2 p2) 0 3 0) 0) else (if 0 ≤ p3 then if p3 ≤ 100000 then fX5_init_299 p1 p2 p3 1000 (up2 (up2 (up2 (fun _ _ => 0) 0 1 s0) 0 2 300) 0 3 p3) 0 else fX5_init_299 p1 p2 p3 1000 (up2 (up2 (up2 (fun _ _ => 0) 0 1 s0) 0 2 300) 0 3 100000) 0 else fX5_init_299 p1 p2 p3 1000 (up2 (up2 (up2 (fun _ _ => 0) 0 1 s0) 0 2 300) 0 3 0) 0) else (if 0 ≤ p3 then if p3 ≤ 100000 then fX5_init_299 p1 p2 p3 1000 (up2 (up2 (up2 (fun _ _ => 0) 0 1 s0) 0 2 0) 0 3 p3) 0 else fX5_init_299 p1 p2 p3 1000 (up2 (up2 (up2 (fun _ _ => 0) 0 1 s0) 0 2 0) 0 3 100000) 0 else fX5_init_299 p1 p2 p3 1000 (up2 (up2 (up2 (fun _ _ => 0) 0 1 s0) 0 2 0) 0 3 0) 0))]
  rw [kl_if (α := Option Mem) (by decide) (fun s1 => if 0 ≤ p3 then if p3 ≤ 100000 then fX5_init_299 p1 p2 p3 1000 (up2 (up2 (up2 (fun _ _ => 0) 0 1 (kl p1 2 24)) 0 2 s1) 0 3 p3) 0 else fX5_init_299 p1 p2 p3 1000 (up2 (up2 (up2 (fun _ _ => 0) 0 1 (kl p1 2 24)) 0 2 s1) 0 3 100000) 0 else fX5_init_299 p1 p2 p3 1000 (up2 (up2 (up2 (fun _ _ => 0) 0 1 (kl p1 2 24)) 0 2 s1) 0 3 0) 0)]
  rw [kl_if (α := Option Mem) (by decide) (fun s2 => fX5_init_299 p1 p2 p3 1000 (up2 (up2 (up2 (fun _ _ => 0) 0 1 (kl p1 2 24)) 0 2 (kl p2 0 300)) 0 3 s2) 0)]
  obtain ⟨u1, a1, a2⟩ := i299 p1 p2 p3 28 0 (up2 (up2 (up2 (fun _ _ => 0) 0 1 (kl p1 2 24)) 0 2 (kl p2 0 300)) 0 3 (kl p3 0 100000)) (by omega) 1000 (by omega)
  obtain ⟨u2, b1, b2⟩ := i323 p1 p2 p3 48 0 u1 (by omega) 1000 (by omega)
  obtain ⟨u3, c1, c2⟩ := i355 p1 p2 p3 2 0 u2 (by omega) 1000 (by omega)
  have a1 : fX5_init_299 p1 p2 p3 1000 (up2 (up2 (up2 (fun _ _ => 0) 0 1 (kl p1 2 24)) 0 2 (kl p2 0 300)) 0 3 (kl p3 0 100000)) 0 = _ := a1
  have b1 : fX5_init_323 p1 p2 p3 1000 u1 0 = _ := b1
  have c1 : fX5_init_355 p1 p2 p3 1000 u2 0 = _ := c1
  refine ⟨u3, by rw [a1, b1, c1], fun a k => ?_⟩
  rw [c2, b2, a2, up2_app, up2_app, up2_app]
  unfold cdR vl
  by_cases h26 : a = 26 ∧ k < 2
  · rw [if_pos (by omega), if_neg (show ¬ a = 0 by omega), if_neg (show ¬ (a = 6 ∧ k < 28) by omega), if_neg (show ¬ ((a = 21 ∨ a = 23) ∧ k < 48) by omega), if_pos h26]; rfl
  · rw [if_neg (by omega)]
    by_cases h28 : (a = 28 ∨ a = 30) ∧ k < 2
    · rw [if_pos (by omega), if_neg (show ¬ a = 0 by omega), if_neg (show ¬ (a = 6 ∧ k < 28) by omega), if_neg (show ¬ ((a = 21 ∨ a = 23) ∧ k < 48) by omega), if_neg h26, if_pos h28]; rfl
    · rw [if_neg (by omega)]
      by_cases h21 : (a = 21 ∨ a = 23) ∧ k < 48
      · rw [if_pos (by omega), if_neg (show ¬ a = 0 by omega), if_neg (show ¬ (a = 6 ∧ k < 28) by omega), if_pos h21]; rfl
      · rw [if_neg (by omega)]
        by_cases h6 : a = 6 ∧ k < 28
        · rw [if_pos (by omega), if_neg (show ¬ a = 0 by omega), if_pos h6]; rfl
        · rw [if_neg (by omega)]
          by_cases h0 : a = 0
          · rw [if_pos h0]
            by_cases k3 : k = 3
            · rw [if_pos ⟨h0, k3⟩, k3]; rfl
            · rw [if_neg (fun q => k3 q.2)]
              by_cases k2 : k = 2
              · rw [if_pos ⟨h0, k2⟩, k2]; rfl
              · rw [if_neg (fun q => k2 q.2)]
                by_cases k1 : k = 1
                · rw [if_pos ⟨h0, k1⟩, k1]; rfl
                · rw [if_neg (fun q => k1 q.2), if_neg k1, if_neg k2, if_neg k3]; rfl
          · rw [if_neg (fun q => h0 q.1), if_neg (fun q => h0 q.1), if_neg (fun q => h0 q.1), if_neg h0, if_neg h6, if_neg h21, if_neg h26, if_neg h28]; rfl
theorem okq_new {n q j : Nat} {a b c : Int32} (hq : q < 41) : okq n 0 q j (vl a b c (cdq q j)) := by
  have z12 : le12 0 := ⟨0, by decide, rfl⟩
  have zT : leT 0 0 := ⟨0, by decide, rfl⟩
  unfold okq
  by_cases q0 : q = 0
  · rw [if_pos q0]
    unfold cdq
    rw [if_pos q0]
    by_cases j1 : j = 4 ∨ j = 7 ∨ j = 9
    · rw [if_pos j1, if_neg (show ¬ j = 6 by omega), if_neg (show ¬ j = 8 by omega), if_neg (show ¬ j = 11 by omega)]; exact z12
    · rw [if_neg j1]
      by_cases j5 : j = 5
      · rw [if_pos j5, j5]; exact Or.inl rfl
      · rw [if_neg j5]
        by_cases j6 : j = 6 ∨ j = 8
        · rw [if_pos j6]
          rcases j6 with rfl | rfl <;> exact Or.inl rfl
        · rw [if_neg j6]
          by_cases j10 : j = 10
          · rw [if_pos j10, j10]; exact Or.inl rfl
          · rw [if_neg j10]
            by_cases j11 : j = 11
            · rw [if_pos j11, j11]; exact Or.inl rfl
            · rw [if_neg j11]; exact trivial
  · rw [if_neg q0]
    by_cases q3 : q < 3
    · rw [if_pos q3]; exact trivial
    · rw [if_neg q3]
      by_cases q5 : q < 5
      · rw [if_pos q5, cdq_f (by omega) (by omega)]
        by_cases j2 : j = 2
        · rw [if_pos j2, j2]; exact zT
        · rw [if_neg j2]; exact trivial
      · rw [if_neg q5]
        by_cases q17 : q < 17
        · rw [if_pos q17, cdq_f (by omega) (by omega)]
          by_cases j0 : j = 0
          · rw [if_pos j0, j0]; exact Or.inl rfl
          · rw [if_neg j0]
            by_cases j2 : j = 2
            · rw [if_pos j2, j2]; exact zT
            · rw [if_neg j2]
              by_cases j5 : j = 5
              · rw [if_pos j5, j5]; exact Or.inl rfl
              · rw [if_neg j5]; exact trivial
        · rw [if_neg q17, cdq_s (by omega)]
          by_cases j1 : j = 1
          · rw [if_pos j1, j1]; exact Or.inl rfl
          · rw [if_neg j1]
            by_cases j4 : j = 4 ∨ j = 6
            · rw [if_pos j4]
              rcases j4 with rfl | rfl <;> exact Or.inl rfl
            · rw [if_neg j4]
              by_cases j5 : j = 5 ∨ j = 7
              · rw [if_pos j5]
                rcases j5 with rfl | rfl <;> exact z12
              · rw [if_neg j5]; exact trivial
theorem kl_le {p : Int32} {hi : Nat} (h : hi < 2 ^ 31) : leT hi (kl p 0 (nI hi)) := by
  obtain ⟨k, h1, h2⟩ := nI_of2 (x := kl p 0 (nI hi)) (M := nI hi) (n := hi) (nI_toInt h) (by
    unfold kl
    have z : (0 : Int32).toInt = 0 := rfl
    have y := nI_toInt h
    by_cases a : p < nI hi
    · rw [if_pos a]
      by_cases b : 0 < p
      · rw [if_pos b]; simp only [i32_lt] at *; omega
      · rw [if_neg b]; decide
    · rw [if_neg a]
      by_cases b : 0 < nI hi
      · rw [if_pos b]; simp only [i32_lt] at *; omega
      · rw [if_neg b]; decide) (by
    unfold kl
    have z : (0 : Int32).toInt = 0 := rfl
    have y := nI_toInt h
    by_cases a : p < nI hi
    · rw [if_pos a]
      by_cases b : 0 < p
      · rw [if_pos b]; simp only [i32_lt, i32_le] at *; omega
      · rw [if_neg b]; simp only [i32_lt, i32_le] at *; omega
    · rw [if_neg a]
      by_cases b : 0 < nI hi
      · rw [if_pos b]; simp only [i32_lt, i32_le] at *; omega
      · rw [if_neg b]; simp only [i32_lt, i32_le] at *; omega)
  exact ⟨k, h1, h2⟩
theorem kl_n (p : Int32) : ∃ n, 2 ≤ n ∧ n ≤ 24 ∧ kl p 2 24 = nI n := by
  have t2 : (2 : Int32).toInt = 2 := rfl
  have t24 : (24 : Int32).toInt = 24 := rfl
  have lo : (2 : Int32) ≤ kl p 2 24 := by
    unfold kl
    by_cases a : p < 24
    · rw [if_pos a]
      by_cases b : 2 < p
      · rw [if_pos b]; simp only [i32_lt, i32_le] at *; omega
      · rw [if_neg b]; simp only [i32_le] at *; omega
    · rw [if_neg a, if_pos (by decide)]; decide
  have hi : kl p 2 24 ≤ (24 : Int32) := by
    unfold kl
    by_cases a : p < 24
    · rw [if_pos a]
      by_cases b : 2 < p
      · rw [if_pos b]; simp only [i32_lt, i32_le] at *; omega
      · rw [if_neg b]; decide
    · rw [if_neg a, if_pos (by decide)]; decide
  obtain ⟨k, h1, h2⟩ := nI_of2 (x := kl p 2 24) (M := 24) (n := 24) rfl (by simp only [i32_lt, i32_le] at *; have : (0 : Int32).toInt = 0 := rfl; omega) hi
  refine ⟨k, ?_, h1, h2⟩
  rw [h2] at lo
  have := (nI_leI (a := 2) (b := k) (by decide) (by omega)).mp lo
  exact this
theorem rel_new {n : Nat} {p1 p2 p3 : Int32} (hn2 : 2 ≤ n) (hn : n ≤ 24) (hp : kl p1 2 24 = nI n) {r : Mem} (hr : ∀ a k, r a k = vl (kl p1 2 24) (kl p2 0 300) (kl p3 0 100000) (cdR a k)) : Rel n 0 (v0 n (kl p2 0 300) (kl p3 0 100000)) r := by
  rw [hp] at hr
  have e : ∀ t q j, t < 2 → q < 41 → v0 n (kl p2 0 300) (kl p3 0 100000) (2 + 41 * t + q) j = vl (nI n) (kl p2 0 300) (kl p3 0 100000) (cdq q j) := fun t q j ht hq => v0_q ht hq j
  have eF : ∀ t f j, t < 2 → f < 12 → j ≠ 3 → v0 n (kl p2 0 300) (kl p3 0 100000) (2 + 41 * t + 5 + f) j = 0 := fun t f j ht hf hj => by
    rw [show 2 + 41 * t + 5 + f = 2 + 41 * t + (5 + f) by omega, e t (5 + f) j ht (by omega), cdq_f (by omega) (by omega), if_neg hj]; rfl
  refine ⟨⟨hn2, hn, by decide⟩, fun o j q hq => ?_, fun o j => ?_, fun t ht => ?_, fun t ht f hf => ?_, ?_⟩
  · have d := ph_dom hq
    rw [hr, ← cd_eq o d.1 j d.2 q (by rw [hq]; rfl)]; rfl
  · unfold okp
    by_cases o0 : o = 0
    · subst o0
      rw [if_pos rfl]
      by_cases j0 : j = 0
      · subst j0; exact rfl
      · rw [if_neg j0]
        by_cases j1 : j = 1
        · subst j1; exact kl_le (hi := 300) (by decide)
        · rw [if_neg j1]
          by_cases j5 : j = 5
          · subst j5; exact kl_le (hi := 100000) (by decide)
          · rw [if_neg j5]
            by_cases j6 : j = 6
            · subst j6; exact rfl
            · rw [if_neg j6]; exact trivial
    · rw [if_neg o0]
      by_cases o1 : o = 1
      · rw [if_pos o1]; exact trivial
      · rw [if_neg o1]
        by_cases o43 : o < 43
        · rw [if_pos o43]
          have := e 0 (o - 2) j (by decide) (by omega)
          rw [show 2 + 41 * 0 + (o - 2) = o by omega] at this
          rw [this]
          exact okq_new (by omega)
        · rw [if_neg o43]
          by_cases o84 : o < 84
          · rw [if_pos o84]
            have := e 1 (o - 43) j (by decide) (by omega)
            rw [show 2 + 41 * 1 + (o - 43) = o by omega] at this
            rw [this]
            exact okq_new (by omega)
          · rw [if_neg o84]; exact trivial
  · intro h
    exfalso
    apply h
    exact e t 0 10 ht (by decide)
  · exact ⟨fun _ => eF t f 0 ht hf (by decide), fun _ _ _ _ => eF t f 0 ht hf (by decide), fun h => absurd (eF t f 0 ht hf (by decide)) h, fun _ h => absurd (eF t f 8 ht hf (by decide)) h⟩
  · have r32 : ∀ τ, r 32 τ = 0 := fun τ => by
      rw [hr]
      unfold cdR
      rw [if_neg (by decide), if_neg (by omega), if_neg (by omega), if_neg (by omega), if_neg (by omega)]; rfl
    exact ⟨fun τ a b => by rw [r32]; rfl, fun τ _ => r32 τ, fun j _ _ => rfl⟩
/-! the law's loop answers true -/
section LW
variable {n T L : Nat} {v u : Mem} {w : Nat → Int64} {kb : Mem → Mem → (Nat → Int64) → Option Int32}
def okk (n : Nat) (kb : Mem → Mem → (Nat → Int64) → Option Int32) : Prop := ∀ (T : Nat) (v u : Mem) (w : Nat → Int64), Rel n T v u → kb v u w = some 1
theorem cmp0 (x : Int64) : lg_cmp x x = 0 := (lg_cmp_eq x x).mpr rfl
theorem upd0 (w : Nat → Int64) (x : Int64) : (vp_updL w 0 x) 0 = x := by unfold vp_updL; rw [if_pos rfl]
theorem L_1 {A : Option ((Int32 ⊕ String) × Mem)} {B : Option (Int32 × Mem)} (h : AG n A B) (hk : okk n kb) : (bd (cd1 A (fun x2 v1 => some ((0 : Int32), (v1, vp_updL w 0 x2.toInt64))) (fun v1 => some (1, (v1, w)))) fun x3 q4 => bd B fun x8 v9 => bd (fX5_thrown v9) fun x11 v12 => if x11 = x3 then if x3 = 0 then if (lg_cmp (q4.2 0) x8.toInt64) = 0 then kb q4.1 v12 q4.2 else some 0 else kb q4.1 v12 q4.2 else some 0) = some 1 := by
  obtain ⟨T, v', u', r, y, rfl, rfl, R, h | h⟩ := h
  · obtain ⟨rfl, h0⟩ := h
    show (bd (some ((0 : Int32), (v', vp_updL w 0 y.toInt64))) _) = some 1
    rw [bd_some, bd_some]
    unfold fX5_thrown
    rw [bd_some, h0, if_pos rfl, if_pos rfl, if_pos (by show lg_cmp ((vp_updL w 0 y.toInt64) 0) y.toInt64 = 0; rw [upd0, cmp0])]
    exact hk T v' u' _ R
  · obtain ⟨rfl, h0⟩ := h
    show (bd (if IAE = IAE then some ((1 : Int32), (v', w)) else none) _) = some 1
    rw [if_pos rfl, bd_some, bd_some]
    unfold fX5_thrown
    rw [bd_some, h0, if_pos rfl, if_neg (by decide)]
    exact hk T v' u' _ R
theorem L_2 {A : Option ((Int32 ⊕ String) × Mem)} {B : Option (Int32 × Mem)} (h : AG2 n A B) (hk : okk n kb) : (bd (cd2 A (fun x2 v1 => some ((0 : Int32), (v1, vp_updL w 0 x2.toInt64))) (fun v1 => some (1, (v1, w))) (fun v1 => some (2, (v1, w)))) fun x3 q4 => bd B fun x8 v9 => bd (fX5_thrown v9) fun x11 v12 => if x11 = x3 then if x3 = 0 then if (lg_cmp (q4.2 0) x8.toInt64) = 0 then kb q4.1 v12 q4.2 else some 0 else kb q4.1 v12 q4.2 else some 0) = some 1 := by
  obtain ⟨T, v', u', r, y, rfl, rfl, R, h | h | h⟩ := h
  · obtain ⟨rfl, h0⟩ := h
    show (bd (some ((0 : Int32), (v', vp_updL w 0 y.toInt64))) _) = some 1
    rw [bd_some, bd_some]
    unfold fX5_thrown
    rw [bd_some, h0, if_pos rfl, if_pos rfl, if_pos (by show lg_cmp ((vp_updL w 0 y.toInt64) 0) y.toInt64 = 0; rw [upd0, cmp0])]
    exact hk T v' u' _ R
  · obtain ⟨rfl, h0⟩ := h
    show (bd (if IAE = IAE then some ((1 : Int32), (v', w)) else if IAE = ISE then some (2, (v', w)) else none) _) = some 1
    rw [if_pos rfl, bd_some, bd_some]
    unfold fX5_thrown
    rw [bd_some, h0, if_pos rfl, if_neg (by decide)]
    exact hk T v' u' _ R
  · obtain ⟨rfl, h0⟩ := h
    show (bd (if ISE = IAE then some ((1 : Int32), (v', w)) else if ISE = ISE then some (2, (v', w)) else none) _) = some 1
    rw [if_neg (by decide), if_pos rfl, bd_some, bd_some]
    unfold fX5_thrown
    rw [bd_some, h0, if_pos rfl, if_neg (by decide)]
    exact hk T v' u' _ R
theorem L_b {A : Option ((Int32 ⊕ String) × Mem)} {B : Option (Int32 × Mem)} (h : AG n A B) (hk : okk n kb) : (bd (cd1 A (fun x2 v1 => if x2 = 0 then some ((0 : Int32), (v1, vp_updL w 0 0)) else some (0, (v1, vp_updL w 0 1))) (fun v1 => some (1, (v1, w)))) fun x3 q4 => bd B fun x8 v9 => bd (fX5_thrown v9) fun x11 v12 => if x11 = x3 then if x3 = 0 then if (lg_cmp (q4.2 0) (if x8 = 0 then 0 else 1)) = 0 then kb q4.1 v12 q4.2 else some 0 else kb q4.1 v12 q4.2 else some 0) = some 1 := by
  obtain ⟨T, v', u', r, y, rfl, rfl, R, h | h⟩ := h
  · obtain ⟨rfl, h0⟩ := h
    show (bd (if y = 0 then some ((0 : Int32), (v', vp_updL w 0 0)) else some (0, (v', vp_updL w 0 1))) _) = some 1
    by_cases hy : y = 0
    · rw [if_pos hy, bd_some, bd_some]
      unfold fX5_thrown
      rw [bd_some, h0, if_pos rfl, if_pos rfl, if_pos hy, if_pos (by show lg_cmp ((vp_updL w 0 0) 0) 0 = 0; rw [upd0, cmp0])]
      exact hk T v' u' _ R
    · rw [if_neg hy, bd_some, bd_some]
      unfold fX5_thrown
      rw [bd_some, h0, if_pos rfl, if_pos rfl, if_neg hy, if_pos (by show lg_cmp ((vp_updL w 0 1) 0) 1 = 0; rw [upd0, cmp0])]
      exact hk T v' u' _ R
  · obtain ⟨rfl, h0⟩ := h
    show (bd (if IAE = IAE then some ((1 : Int32), (v', w)) else none) _) = some 1
    rw [if_pos rfl, bd_some, bd_some]
    unfold fX5_thrown
    rw [bd_some, h0, if_pos rfl, if_neg (by decide)]
    exact hk T v' u' _ R
theorem L_v {A : Option ((Unit ⊕ String) × Mem)} {B : Option Mem} (h : AV n A B) (hk : okk n kb) : (bd (cd2 A (fun _ v1 => some ((0 : Int32), (v1, w))) (fun v1 => some (1, (v1, w))) (fun v1 => some (2, (v1, w)))) fun x7 q8 => B.bind fun v17 => bd (fX5_thrown v17) fun x19 v20 => if x19 = x7 then kb q8.1 v20 q8.2 else some 0) = some 1 := by
  obtain ⟨T, v', u', r, rfl, rfl, R, h | h | h⟩ := h
  · obtain ⟨rfl, h0⟩ := h
    show (bd (some ((0 : Int32), (v', w))) _) = some 1
    rw [bd_some]
    simp only [Option.bind_some]
    unfold fX5_thrown
    rw [bd_some, h0, if_pos rfl]
    exact hk T v' u' _ R
  · obtain ⟨rfl, h0⟩ := h
    show (bd (if IAE = IAE then some ((1 : Int32), (v', w)) else if IAE = ISE then some (2, (v', w)) else none) _) = some 1
    rw [if_pos rfl, bd_some]
    simp only [Option.bind_some]
    unfold fX5_thrown
    rw [bd_some, h0, if_pos rfl]
    exact hk T v' u' _ R
  · obtain ⟨rfl, h0⟩ := h
    show (bd (if ISE = IAE then some ((1 : Int32), (v', w)) else if ISE = ISE then some (2, (v', w)) else none) _) = some 1
    rw [if_neg (by decide), if_pos rfl, bd_some]
    simp only [Option.bind_some]
    unfold fX5_thrown
    rw [bd_some, h0, if_pos rfl]
    exact hk T v' u' _ R
theorem L_w {A : Option ((Unit ⊕ String) × Mem)} {B : Option Mem} (h : AW n A B) (hk : okk n kb) : (bd (cd1 A (fun _ v1 => some ((0 : Int32), (v1, w))) (fun v1 => some (1, (v1, w)))) fun x7 q8 => B.bind fun v17 => bd (fX5_thrown v17) fun x19 v20 => if x19 = x7 then kb q8.1 v20 q8.2 else some 0) = some 1 := by
  obtain ⟨T, v', u', r, rfl, rfl, R, h | h⟩ := h
  · obtain ⟨rfl, h0⟩ := h
    show (bd (some ((0 : Int32), (v', w))) _) = some 1
    rw [bd_some]
    simp only [Option.bind_some]
    unfold fX5_thrown
    rw [bd_some, h0, if_pos rfl]
    exact hk T v' u' _ R
  · obtain ⟨rfl, h0⟩ := h
    show (bd (if IAE = IAE then some ((1 : Int32), (v', w)) else none) _) = some 1
    rw [if_pos rfl, bd_some]
    simp only [Option.bind_some]
    unfold fX5_thrown
    rw [bd_some, h0, if_pos rfl]
    exact hk T v' u' _ R
theorem bo_if {x : Int32} : bo (if x = 0 then 0 else 1) := by
  by_cases h : x = 0
  · rw [if_pos h]; exact Or.inl rfl
  · rw [if_neg h]; exact Or.inr rfl
theorem law_ok {xs : Nat → Int32} (hL : L ≤ 3587) : ∀ (fuel i T : Nat) (v u : Mem) (w : Nat → Int64), Rel n T v u → i ≤ 3590 → 3590 < i + 7 * fuel → fLaw n L xs fuel v u w (nI i) = some 1 := by
  intro fuel
  induction fuel with
  | zero => intro i T v u w R h1 h2; omega
  | succ fuel ih =>
    intro i T v u w R h1 h2
    rw [fLaw]
    by_cases he : nI L - 7 < nI i
    · rw [if_pos he]
    · rw [if_neg he]
      have hiL : i + 7 ≤ L := by
        have t7 : (7 : Int32).toInt = 7 := rfl
        rw [i32_lt, Int32.toInt_sub, nI_toInt (by omega), nI_toInt (by omega), t7, Int.bmod_eq_of_le (by omega) (by omega)] at he
        omega
      have hk : okk n (fun v u w => fLaw n L xs fuel v u w (nI i + 7)) := fun T' v' u' w' R' => by
        show fLaw n L xs fuel v' u' w' (nI i + 7) = some 1
        rw [show nI i + 7 = nI (i + 7) from nI_add i 7]
        exact ih (i + 7) T' v' u' w' R' (by omega) (by omega)
      have q0 : inb (nI i) L := inb_nI (by omega) (by omega)
      have q1 : inb (nI i + 1) L := by rw [show nI i + 1 = nI (i + 1) from nI_add i 1]; exact inb_nI (by omega) (by omega)
      have q2 : inb (nI i + 2) L := by rw [show nI i + 2 = nI (i + 2) from nI_add i 2]; exact inb_nI (by omega) (by omega)
      have q3 : inb (nI i + 3) L := by rw [show nI i + 3 = nI (i + 3) from nI_add i 3]; exact inb_nI (by omega) (by omega)
      have q4 : inb (nI i + 4) L := by rw [show nI i + 4 = nI (i + 4) from nI_add i 4]; exact inb_nI (by omega) (by omega)
      have q5 : inb (nI i + 5) L := by rw [show nI i + 5 = nI (i + 5) from nI_add i 5]; exact inb_nI (by omega) (by omega)
      have q6 : inb (nI i + 6) L := by rw [show nI i + 6 = nI (i + 6) from nI_add i 6]; exact inb_nI (by omega) (by omega)
      rw [gd_pos q0]
      generalize hkb : (fun v u w => fLaw n L xs fuel v u w (nI i + 7)) = kb at hk
      by_cases c0 : (xs (nI i).toNatClampNeg &&& 31) = 0
      · rw [if_pos c0]
        unfold fLaw_0 fL_fan
        simp only [gd_pos q1, gd_pos q2]
        exact L_2 (c_fan R _ _) hk
      rw [if_neg c0]
      by_cases c1 : (xs (nI i).toNatClampNeg &&& 31) = 1
      · rw [if_pos c1]
        unfold fLaw_1 fL_lag
        simp only [gd_pos q1, gd_pos q2, gd_pos q3]
        exact L_1 (c_lag R _ _ _) hk
      rw [if_neg c1]
      by_cases c2 : (xs (nI i).toNatClampNeg &&& 31) = 2
      · rw [if_pos c2]
        unfold fLaw_2 fL_plan
        simp only [gd_pos q1, gd_pos q2, gd_pos q3, gd_pos q4, gd_pos q5, gd_pos q6]
        exact L_v (c_plan R _ _ _ _ _ _) hk
      rw [if_neg c2]
      by_cases c3 : (xs (nI i).toNatClampNeg &&& 31) = 3
      · rw [if_pos c3]
        unfold fLaw_3 fL_turn
        simp only [gd_pos q1, gd_pos q2, gd_pos q3]
        exact L_v (c_turn R _ _ _) hk
      rw [if_neg c3]
      by_cases c4 : (xs (nI i).toNatClampNeg &&& 31) = 4
      · rw [if_pos c4]
        unfold fLaw_4 fL_sense
        simp only [gd_pos q1, gd_pos q2, gd_pos q3]
        exact L_1 (c_sense R _ _ _) hk
      rw [if_neg c4]
      by_cases c5 : (xs (nI i).toNatClampNeg &&& 31) = 5
      · rw [if_pos c5]
        unfold fLaw_5 fL_deafen
        simp only [gd_pos q1, gd_pos q2, gd_pos q3]
        exact L_b (c_deafen R _ _ _ bo_if) hk
      rw [if_neg c5]
      by_cases c6 : (xs (nI i).toNatClampNeg &&& 31) = 6
      · rw [if_pos c6]
        unfold fLaw_6 fL_pull
        simp only [gd_pos q1, gd_pos q2]
        exact L_b (c_pull R _ _) hk
      rw [if_neg c6]
      by_cases c7 : (xs (nI i).toNatClampNeg &&& 31) = 7
      · rw [if_pos c7]
        unfold fLaw_7 fL_confirm
        simp only [gd_pos q1]
        exact L_b (c_confirm R _) hk
      rw [if_neg c7]
      by_cases c8 : (xs (nI i).toNatClampNeg &&& 31) = 8
      · rw [if_pos c8]
        unfold fLaw_8 fL_reset
        simp only [gd_pos q1]
        exact L_b (c_reset R _) hk
      rw [if_neg c8]
      by_cases c9 : (xs (nI i).toNatClampNeg &&& 31) = 9
      · rw [if_pos c9]
        unfold fLaw_9 fL_wish
        simp only [gd_pos q1, gd_pos q2, gd_pos q3]
        exact L_w (c_wish R _ _ _) hk
      rw [if_neg c9]
      by_cases c10 : (xs (nI i).toNatClampNeg &&& 31) = 10
      · rw [if_pos c10]
        unfold fLaw_10 fL_order
        simp only [gd_pos q1, gd_pos q2]
        exact L_b (c_order R _ _ bo_if) hk
      rw [if_neg c10]
      by_cases c11 : (xs (nI i).toNatClampNeg &&& 31) = 11
      · rw [if_pos c11]
        unfold fLaw_11 fL_limit
        simp only [gd_pos q1]
        exact L_1 (c_limit R _) hk
      rw [if_neg c11]
      by_cases c12 : (xs (nI i).toNatClampNeg &&& 31) = 12
      · rw [if_pos c12]
        unfold fLaw_12 fL_fail
        simp only [gd_pos q1, gd_pos q2]
        exact L_b (c_fail R _ _) hk
      rw [if_neg c12]
      by_cases c13 : (xs (nI i).toNatClampNeg &&& 31) = 13
      · rw [if_pos c13]
        unfold fLaw_13 fL_mend
        simp only [gd_pos q1, gd_pos q2]
        exact L_b (c_mend R _ _) hk
      rw [if_neg c13]
      by_cases c14 : (xs (nI i).toNatClampNeg &&& 31) = 14
      · rw [if_pos c14]
        unfold fLaw_14 fL_ticks
        simp only [gd_pos q1]
        exact L_2 (c_ticks R _) hk
      rw [if_neg c14]
      by_cases c15 : (xs (nI i).toNatClampNeg &&& 31) = 15
      · rw [if_pos c15]
        unfold fLaw_15 fL_tube
        simp only [gd_pos q1, gd_pos q2]
        exact L_1 (c_tube R _ _) hk
      rw [if_neg c15]
      by_cases c16 : (xs (nI i).toNatClampNeg &&& 31) = 16
      · rw [if_pos c16]
        unfold fLaw_16 fL_device
        simp only [gd_pos q1, gd_pos q2, gd_pos q3]
        exact L_1 (c_device R _ _ _) hk
      rw [if_neg c16]
      by_cases c17 : (xs (nI i).toNatClampNeg &&& 31) = 17
      · rw [if_pos c17]
        unfold fLaw_17 fX5_load
        rw [ld4 R, bd_some, ld5 R.ok0, bd_some, bd_some, if_pos rfl]
        exact hk T _ _ _ R.ok0
      rw [if_neg c17]
      by_cases c18 : (xs (nI i).toNatClampNeg &&& 31) = 18
      · rw [if_pos c18]
        unfold fLaw_18 fX5_starts
        rw [ss4, bd_some, ss5 R.ok0, bd_some, bd_some, if_pos rfl]
        exact hk T _ _ _ R.ok0
      rw [if_neg c18]
      by_cases c19 : (xs (nI i).toNatClampNeg &&& 31) = 19
      · rw [if_pos c19]
        unfold fLaw_19 fX4_broken fX5_broken
        rw [bd_some, bd_some, show (up2 u 0 0 0) 0 33 = v 0 8 from R.ok0.E.W8.symm, if_pos rfl]
        exact hk T _ _ _ R.ok0
      rw [if_neg c19]
      have := hk T v u w R
      rw [← hkb] at this
      exact this
end LW
