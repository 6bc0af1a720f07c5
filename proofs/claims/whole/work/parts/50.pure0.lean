/-! PURE: no machine from here on. The class's memory v and the reference's u, place by place -/
theorem up2_app (v : Mem) (o k : Nat) (x : Int32) (a j : Nat) : up2 v o k x a j = if a = o ∧ j = k then x else v a j := by
  unfold up2 upd
  by_cases h : a = o
  · subst h
    by_cases hj : j = k
    · simp [hj]
    · simp [hj]
  · simp [h]
theorem up2_s (v : Mem) (o k : Nat) (x : Int32) : up2 v o k x o k = x := by rw [up2_app, if_pos ⟨rfl, rfl⟩]
theorem up2_n {v : Mem} {o k a j : Nat} {x : Int32} (h : a ≠ o ∨ j ≠ k) : up2 v o k x a j = v a j := by
  rw [up2_app, if_neg]
  intro h2
  rcases h with h | h
  · exact h h2.1
  · exact h h2.2
/-- the reference's row for field j of a device or fan -/
def da (j : Nat) : Nat := if j = 0 then 7 else if j = 1 then 8 else if j = 2 then 9 else if j = 3 then 6 else if j = 4 then 10 else if j = 5 then 11 else if j = 6 then 12 else if j = 7 then 13 else 14
/-- the reference's row for field j of a tube -/
def ta (j : Nat) : Nat := if j = 4 then 5 else if j = 5 then 27 else if j = 6 then 28 else if j = 7 then 29 else if j = 8 then 30 else if j = 9 then 31 else if j = 10 then 25 else 26
def phq (t q j : Nat) : Option (Nat × Nat) := if q = 0 then (if 4 ≤ j ∧ j < 12 then some (ta j, t) else none) else if q < 3 then none else if q < 5 then (if j < 6 then some (da j, 14 * t + q - 3) else none) else if q < 17 then (if j < 9 then some (da j, 14 * t + q - 3) else none) else if q < 41 then (if j < 8 then some (17 + j, 24 * t + q - 17) else none) else none
/-- where the reference keeps what the class keeps at (o, j) -/
def ph (o j : Nat) : Option (Nat × Nat) := if o = 0 then (if j = 0 then some (0, 1) else if j = 1 then some (0, 2) else if j = 5 then some (0, 3) else if j = 6 then some (0, 4) else if j = 8 then some (0, 33) else none) else if o = 1 then none else if o < 43 then phq 0 (o - 2) j else if o < 84 then phq 1 (o - 43) j else none
def hpx (a k : Nat) : Nat × Nat := if a = 0 then (if k = 1 then (0, 0) else if k = 2 then (0, 1) else if k = 3 then (0, 5) else if k = 4 then (0, 6) else (0, 8)) else
  if a = 5 then (2 + 41 * k, 4) else if a = 27 then (2 + 41 * k, 5) else if a = 28 then (2 + 41 * k, 6) else if a = 29 then (2 + 41 * k, 7) else if a = 30 then (2 + 41 * k, 8) else if a = 31 then (2 + 41 * k, 9) else if a = 25 then (2 + 41 * k, 10) else if a = 26 then (2 + 41 * k, 11) else
  if a < 17 then (5 + 41 * (k / 14) + k % 14, if a = 7 then 0 else if a = 8 then 1 else if a = 9 then 2 else if a = 6 then 3 else if a = 10 then 4 else if a = 11 then 5 else if a = 12 then 6 else if a = 13 then 7 else 8) else (19 + 41 * (k / 24) + k % 24, a - 17)
theorem ph_inv : ∀ o, o < 84 → ∀ j, j < 12 → ∀ q ∈ ph o j, hpx q.1 q.2 = (o, j) := by decide +kernel
theorem ph_none1 : ∀ o, o < 84 → ∀ j, j < 12 → (ph o j).isSome = true → o < 84 ∧ j < 12 := fun o h j hj _ => ⟨h, hj⟩
theorem ph_dom {o j : Nat} {q : Nat × Nat} (h : ph o j = some q) : o < 84 ∧ j < 12 := by
  unfold ph phq at h
  repeat' (first | (cases h; done) | (split at h))
  all_goals (first | (exfalso; cases h; done) | (constructor <;> omega))
theorem ph_inj {o j o' j' : Nat} {q : Nat × Nat} (h : ph o j = some q) (h' : ph o' j' = some q) : o = o' ∧ j = j' := by
  have d := ph_dom h
  have d' := ph_dom h'
  have e := ph_inv o d.1 j d.2 q (by rw [h]; rfl)
  have e' := ph_inv o' d'.1 j' d'.2 q (by rw [h']; rfl)
  rw [e] at e'
  exact ⟨(Prod.mk.inj e').1, (Prod.mk.inj e').2⟩
/-- both hold the same -/
def EQ (v u : Mem) : Prop := ∀ o j q, ph o j = some q → v o j = u q.1 q.2
theorem EQ.put {v u : Mem} (h : EQ v u) {o j : Nat} {q : Nat × Nat} (hq : ph o j = some q) {x y : Int32} (hxy : x = y) : EQ (up2 v o j x) (up2 u q.1 q.2 y) := by
  subst hxy
  intro o' j' q' h'
  rw [up2_app, up2_app]
  by_cases e : o' = o ∧ j' = j
  · obtain ⟨rfl, rfl⟩ := e
    rw [hq] at h'
    cases h'
    rw [if_pos ⟨rfl, rfl⟩, if_pos ⟨rfl, rfl⟩]
  · rw [if_neg e, if_neg, h o' j' q' h']
    intro e2
    apply e
    have : q' = q := Prod.ext e2.1 e2.2
    subst this
    exact ph_inj h' hq
/-- a place of the class's own -/
theorem EQ.putC {v u : Mem} (h : EQ v u) {o j : Nat} {x : Int32} (hq : ph o j = none) : EQ (up2 v o j x) u := by
  intro o' j' q' h'
  rw [up2_app, if_neg, h o' j' q' h']
  rintro ⟨rfl, rfl⟩
  rw [hq] at h'
  cases h'
def imgok (q : Nat × Nat) : Bool := if q.1 = 0 then (q.2 == 1 || q.2 == 2 || q.2 == 3 || q.2 == 4 || q.2 == 33) else (decide (5 ≤ q.1) && decide (q.1 ≤ 31) && q.1 != 15 && q.1 != 16)
theorem ph_img : ∀ o, o < 84 → ∀ j, j < 12 → ∀ q ∈ ph o j, imgok q = true := by decide +kernel
theorem imgok_n {q : Nat × Nat} (h : imgok q = true) {a k : Nat} (hq : (a = 0 ∧ (k = 0 ∨ k = 34)) ∨ a = 15 ∨ a = 16 ∨ a = 32) : q.1 ≠ a ∨ q.2 ≠ k := by
  unfold imgok at h
  by_cases h0 : q.1 = 0
  · rw [if_pos h0] at h
    simp only [Bool.or_eq_true, beq_iff_eq] at h
    omega
  · rw [if_neg h0] at h
    simp only [Bool.and_eq_true, decide_eq_true_eq, bne_iff_ne] at h
    omega
/-- a place of the reference's own -/
theorem EQ.putR {v u : Mem} (h : EQ v u) {a k : Nat} {x : Int32} (hq : (a = 0 ∧ (k = 0 ∨ k = 34)) ∨ a = 15 ∨ a = 16 ∨ a = 32) : EQ v (up2 u a k x) := by
  intro o' j' q' h'
  have d := ph_dom h'
  have im := ph_img o' d.1 j' d.2 q' (by rw [h']; rfl)
  rw [up2_n (imgok_n im hq), h o' j' q' h']
theorem ph_dev : ∀ t, t < 2 → ∀ d, d < 14 → ∀ j, j < 6 → ph (5 + 41 * t + d) j = some (da j, 14 * t + d) := by decide +kernel
theorem ph_fan : ∀ t, t < 2 → ∀ f, f < 12 → ∀ j, j < 9 → ph (7 + 41 * t + f) j = some (da j, 14 * t + 2 + f) := by decide +kernel
theorem ph_tub : ∀ t, t < 2 → ∀ j, j < 12 → 4 ≤ j → ph (2 + 41 * t) j = some (ta j, t) := by decide +kernel
theorem ph_sec : ∀ t, t < 2 → ∀ s, s < 24 → ∀ j, j < 8 → ph (19 + 41 * t + s) j = some (17 + j, 24 * t + s) := by decide +kernel
/-! numbers -/
theorem i32_lt {x y : Int32} : x < y ↔ x.toInt < y.toInt := Int32.lt_iff_toInt_lt
theorem i32_le {x y : Int32} : x ≤ y ↔ x.toInt ≤ y.toInt := Int32.le_iff_toInt_le
theorem i32_eq {x y : Int32} : x = y ↔ x.toInt = y.toInt := Int32.toInt_inj.symm
theorem inb_nI {k N : Nat} (h : k < N) (hN : N < 2 ^ 31) : inb (nI k) N := nI_in h hN
theorem inb_of {x : Int32} {N : Nat} (h : inb x N) (hN : N < 2 ^ 31) : ∃ k, k < N ∧ x = nI k := vp_in_of h hN
theorem nI_c {k : Nat} (h : k < 2 ^ 31) : (nI k).toNatClampNeg = k := nI_clamp h
theorem nar_bo {x : Int32} (h : bo x) : vp_nar .boolean x = x := by rcases h with rfl | rfl <;> rfl
