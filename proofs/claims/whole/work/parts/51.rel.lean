/-! what holds between the class's memory v and the reference's u between two calls -/
theorem phF : ∀ t, t < 2 → ∀ f, f < 12 → ∀ j, j < 9 → ph (2 + 41 * t + 5 + f) j = some (da j, 14 * t + 2 + f) := by decide +kernel
theorem phS : ∀ t, t < 2 → ∀ s, s < 24 → ∀ j, j < 8 → ph (2 + 41 * t + 17 + s) j = some (17 + j, 24 * t + s) := by decide +kernel
theorem phD3 : ∀ t, t < 2 → ∀ j, j < 6 → ph (2 + 41 * t + 3) j = some (da j, 14 * t) := by decide +kernel
theorem phD4 : ∀ t, t < 2 → ∀ j, j < 6 → ph (2 + 41 * t + 4) j = some (da j, 14 * t + 1) := by decide +kernel
theorem EQ.F {v u : Mem} (h : EQ v u) {t f j : Nat} (ht : t < 2) (hf : f < 12) (hj : j < 9) : v (2 + 41 * t + 5 + f) j = u (da j) (14 * t + 2 + f) := h _ _ _ (phF t ht f hf j hj)
theorem EQ.S {v u : Mem} (h : EQ v u) {t s j : Nat} (ht : t < 2) (hs : s < 24) (hj : j < 8) : v (2 + 41 * t + 17 + s) j = u (17 + j) (24 * t + s) := h _ _ _ (phS t ht s hs j hj)
theorem EQ.D3 {v u : Mem} (h : EQ v u) {t j : Nat} (ht : t < 2) (hj : j < 6) : v (2 + 41 * t + 3) j = u (da j) (14 * t) := h _ _ _ (phD3 t ht j hj)
theorem EQ.D4 {v u : Mem} (h : EQ v u) {t j : Nat} (ht : t < 2) (hj : j < 6) : v (2 + 41 * t + 4) j = u (da j) (14 * t + 1) := h _ _ _ (phD4 t ht j hj)
theorem EQ.T {v u : Mem} (h : EQ v u) {t j : Nat} (ht : t < 2) (hj : j < 12) (hj4 : 4 ≤ j) : v (2 + 41 * t) j = u (ta j) t := h _ _ _ (ph_tub t ht j hj hj4)
theorem EQ.W0 {v u : Mem} (h : EQ v u) : v 0 0 = u 0 1 := h 0 0 _ rfl
theorem EQ.W1 {v u : Mem} (h : EQ v u) : v 0 1 = u 0 2 := h 0 1 _ rfl
theorem EQ.W5 {v u : Mem} (h : EQ v u) : v 0 5 = u 0 3 := h 0 5 _ rfl
theorem EQ.W6 {v u : Mem} (h : EQ v u) : v 0 6 = u 0 4 := h 0 6 _ rfl
theorem EQ.W8 {v u : Mem} (h : EQ v u) : v 0 8 = u 0 33 := h 0 8 _ rfl
theorem EQ.T4 {v u : Mem} (h : EQ v u) {t : Nat} (ht : t < 2) : v (2 + 41 * t) 4 = u 5 t := h.T ht (by decide) (by decide)
theorem EQ.T5 {v u : Mem} (h : EQ v u) {t : Nat} (ht : t < 2) : v (2 + 41 * t) 5 = u 27 t := h.T ht (by decide) (by decide)
theorem EQ.T6 {v u : Mem} (h : EQ v u) {t : Nat} (ht : t < 2) : v (2 + 41 * t) 6 = u 28 t := h.T ht (by decide) (by decide)
theorem EQ.T7 {v u : Mem} (h : EQ v u) {t : Nat} (ht : t < 2) : v (2 + 41 * t) 7 = u 29 t := h.T ht (by decide) (by decide)
theorem EQ.T8 {v u : Mem} (h : EQ v u) {t : Nat} (ht : t < 2) : v (2 + 41 * t) 8 = u 30 t := h.T ht (by decide) (by decide)
theorem EQ.T9 {v u : Mem} (h : EQ v u) {t : Nat} (ht : t < 2) : v (2 + 41 * t) 9 = u 31 t := h.T ht (by decide) (by decide)
theorem EQ.T10 {v u : Mem} (h : EQ v u) {t : Nat} (ht : t < 2) : v (2 + 41 * t) 10 = u 25 t := h.T ht (by decide) (by decide)
theorem EQ.T11 {v u : Mem} (h : EQ v u) {t : Nat} (ht : t < 2) : v (2 + 41 * t) 11 = u 26 t := h.T ht (by decide) (by decide)
theorem EQ.F0 {v u : Mem} (h : EQ v u) {t f : Nat} (ht : t < 2) (hf : f < 12) : v (2 + 41 * t + 5 + f) 0 = u 7 (14 * t + 2 + f) := h.F ht hf (by decide)
theorem EQ.F1 {v u : Mem} (h : EQ v u) {t f : Nat} (ht : t < 2) (hf : f < 12) : v (2 + 41 * t + 5 + f) 1 = u 8 (14 * t + 2 + f) := h.F ht hf (by decide)
theorem EQ.F2 {v u : Mem} (h : EQ v u) {t f : Nat} (ht : t < 2) (hf : f < 12) : v (2 + 41 * t + 5 + f) 2 = u 9 (14 * t + 2 + f) := h.F ht hf (by decide)
theorem EQ.F3 {v u : Mem} (h : EQ v u) {t f : Nat} (ht : t < 2) (hf : f < 12) : v (2 + 41 * t + 5 + f) 3 = u 6 (14 * t + 2 + f) := h.F ht hf (by decide)
theorem EQ.F4 {v u : Mem} (h : EQ v u) {t f : Nat} (ht : t < 2) (hf : f < 12) : v (2 + 41 * t + 5 + f) 4 = u 10 (14 * t + 2 + f) := h.F ht hf (by decide)
theorem EQ.F5 {v u : Mem} (h : EQ v u) {t f : Nat} (ht : t < 2) (hf : f < 12) : v (2 + 41 * t + 5 + f) 5 = u 11 (14 * t + 2 + f) := h.F ht hf (by decide)
theorem EQ.F6 {v u : Mem} (h : EQ v u) {t f : Nat} (ht : t < 2) (hf : f < 12) : v (2 + 41 * t + 5 + f) 6 = u 12 (14 * t + 2 + f) := h.F ht hf (by decide)
theorem EQ.F7 {v u : Mem} (h : EQ v u) {t f : Nat} (ht : t < 2) (hf : f < 12) : v (2 + 41 * t + 5 + f) 7 = u 13 (14 * t + 2 + f) := h.F ht hf (by decide)
theorem EQ.F8 {v u : Mem} (h : EQ v u) {t f : Nat} (ht : t < 2) (hf : f < 12) : v (2 + 41 * t + 5 + f) 8 = u 14 (14 * t + 2 + f) := h.F ht hf (by decide)
theorem EQ.S0 {v u : Mem} (h : EQ v u) {t s : Nat} (ht : t < 2) (hs : s < 24) : v (2 + 41 * t + 17 + s) 0 = u 17 (24 * t + s) := h.S ht hs (by decide)
theorem EQ.S1 {v u : Mem} (h : EQ v u) {t s : Nat} (ht : t < 2) (hs : s < 24) : v (2 + 41 * t + 17 + s) 1 = u 18 (24 * t + s) := h.S ht hs (by decide)
theorem EQ.S2 {v u : Mem} (h : EQ v u) {t s : Nat} (ht : t < 2) (hs : s < 24) : v (2 + 41 * t + 17 + s) 2 = u 19 (24 * t + s) := h.S ht hs (by decide)
theorem EQ.S3 {v u : Mem} (h : EQ v u) {t s : Nat} (ht : t < 2) (hs : s < 24) : v (2 + 41 * t + 17 + s) 3 = u 20 (24 * t + s) := h.S ht hs (by decide)
theorem EQ.S4 {v u : Mem} (h : EQ v u) {t s : Nat} (ht : t < 2) (hs : s < 24) : v (2 + 41 * t + 17 + s) 4 = u 21 (24 * t + s) := h.S ht hs (by decide)
theorem EQ.S5 {v u : Mem} (h : EQ v u) {t s : Nat} (ht : t < 2) (hs : s < 24) : v (2 + 41 * t + 17 + s) 5 = u 22 (24 * t + s) := h.S ht hs (by decide)
theorem EQ.S6 {v u : Mem} (h : EQ v u) {t s : Nat} (ht : t < 2) (hs : s < 24) : v (2 + 41 * t + 17 + s) 6 = u 23 (24 * t + s) := h.S ht hs (by decide)
theorem EQ.S7 {v u : Mem} (h : EQ v u) {t s : Nat} (ht : t < 2) (hs : s < 24) : v (2 + 41 * t + 17 + s) 7 = u 24 (24 * t + s) := h.S ht hs (by decide)
/-- what may lie at one place -/
def le12 (x : Int32) : Prop := ∃ k, k ≤ 12 ∧ x = nI k
def pm1 (x : Int32) : Prop := x = 1 ∨ x = -1
def leT (T : Nat) (x : Int32) : Prop := ∃ k, k ≤ T ∧ x = nI k
def okq (n T q j : Nat) (x : Int32) : Prop :=
  if q = 0 then (if j = 4 ∨ j = 7 ∨ j = 9 then le12 x else if j = 5 then bo x else if j = 6 ∨ j = 8 then pm1 x else if j = 10 then x = 0 ∨ x = 1 ∨ x = 2 else if j = 11 then x = -1 ∨ ∃ s, s < n ∧ x = nI s else True)
  else if q < 3 then True else if q < 5 then (if j = 2 then leT T x else True)
  else if q < 17 then (if j = 0 then x = 0 ∨ pm1 x else if j = 2 then leT T x else if j = 5 then bo x else True)
  else (if j = 1 then bo x else if j = 4 ∨ j = 6 then pm1 x else if j = 5 ∨ j = 7 then le12 x else True)
def okp (n T o j : Nat) (x : Int32) : Prop :=
  if o = 0 then (if j = 0 then x = nI n else if j = 1 then leT 300 x else if j = 5 then leT 100000 x else if j = 6 then x = nI T else True)
  else if o = 1 then True else if o < 43 then okq n T (o - 2) j x else if o < 84 then okq n T (o - 43) j x else True
def Inv1 (n T : Nat) (v : Mem) : Prop := ∀ o j, okp n T o j (v o j)
theorem Inv1.put {n T : Nat} {v : Mem} (h : Inv1 n T v) {o j : Nat} {x : Int32} (hx : okp n T o j x) : Inv1 n T (up2 v o j x) := by
  intro a k
  rw [up2_app]
  by_cases e : a = o ∧ k = j
  · rw [if_pos e, e.1, e.2]; exact hx
  · rw [if_neg e]; exact h a k
theorem okp_T {n T t j : Nat} {x : Int32} (ht : t < 2) : okp n T (2 + 41 * t) j x = okq n T 0 j x := by
  rcases (show t = 0 ∨ t = 1 by omega) with rfl | rfl <;> rfl
theorem okp_D3 {n T t j : Nat} {x : Int32} (ht : t < 2) : okp n T (2 + 41 * t + 3) j x = okq n T 3 j x := by
  rcases (show t = 0 ∨ t = 1 by omega) with rfl | rfl <;> rfl
theorem okp_D4 {n T t j : Nat} {x : Int32} (ht : t < 2) : okp n T (2 + 41 * t + 4) j x = okq n T 4 j x := by
  rcases (show t = 0 ∨ t = 1 by omega) with rfl | rfl <;> rfl
theorem okp_F {n T t f j : Nat} {x : Int32} (ht : t < 2) (hf : f < 12) : okp n T (2 + 41 * t + 5 + f) j x = (if j = 0 then x = 0 ∨ pm1 x else if j = 2 then leT T x else if j = 5 then bo x else True) := by
  rcases (show t = 0 ∨ t = 1 by omega) with rfl | rfl
  · unfold okp okq
    rw [if_neg (by omega), if_neg (by omega), if_pos (by omega), if_neg (by omega), if_neg (by omega), if_neg (by omega), if_pos (by omega)]
  · unfold okp okq
    rw [if_neg (by omega), if_neg (by omega), if_neg (by omega), if_pos (by omega), if_neg (by omega), if_neg (by omega), if_neg (by omega), if_pos (by omega)]
theorem okp_S {n T t s j : Nat} {x : Int32} (ht : t < 2) (hs : s < 24) : okp n T (2 + 41 * t + 17 + s) j x = (if j = 1 then bo x else if j = 4 ∨ j = 6 then pm1 x else if j = 5 ∨ j = 7 then le12 x else True) := by
  rcases (show t = 0 ∨ t = 1 by omega) with rfl | rfl
  · unfold okp okq
    rw [if_neg (by omega), if_neg (by omega), if_pos (by omega), if_neg (by omega), if_neg (by omega), if_neg (by omega), if_neg (by omega)]
  · unfold okp okq
    rw [if_neg (by omega), if_neg (by omega), if_neg (by omega), if_pos (by omega), if_neg (by omega), if_neg (by omega), if_neg (by omega), if_neg (by omega)]
theorem Inv1.W0 {n T : Nat} {v : Mem} (h : Inv1 n T v)  : v 0 0 = nI n := h 0 0
theorem Inv1.W1 {n T : Nat} {v : Mem} (h : Inv1 n T v)  : leT 300 (v 0 1) := h 0 1
theorem Inv1.W5 {n T : Nat} {v : Mem} (h : Inv1 n T v)  : leT 100000 (v 0 5) := h 0 5
theorem Inv1.W6 {n T : Nat} {v : Mem} (h : Inv1 n T v)  : v 0 6 = nI T := h 0 6
theorem Inv1.cnt {n T : Nat} {v : Mem} (h : Inv1 n T v) {t : Nat} (ht : t < 2) : le12 (v (2 + 41 * t) 4) := by have := h (2 + 41 * t) 4; rw [okp_T ht] at this; exact this
theorem Inv1.ord {n T : Nat} {v : Mem} (h : Inv1 n T v) {t : Nat} (ht : t < 2) : bo (v (2 + 41 * t) 5) := by have := h (2 + 41 * t) 5; rw [okp_T ht] at this; exact this
theorem Inv1.wdir {n T : Nat} {v : Mem} (h : Inv1 n T v) {t : Nat} (ht : t < 2) : pm1 (v (2 + 41 * t) 6) := by have := h (2 + 41 * t) 6; rw [okp_T ht] at this; exact this
theorem Inv1.wfan {n T : Nat} {v : Mem} (h : Inv1 n T v) {t : Nat} (ht : t < 2) : le12 (v (2 + 41 * t) 7) := by have := h (2 + 41 * t) 7; rw [okp_T ht] at this; exact this
theorem Inv1.dir {n T : Nat} {v : Mem} (h : Inv1 n T v) {t : Nat} (ht : t < 2) : pm1 (v (2 + 41 * t) 8) := by have := h (2 + 41 * t) 8; rw [okp_T ht] at this; exact this
theorem Inv1.fan {n T : Nat} {v : Mem} (h : Inv1 n T v) {t : Nat} (ht : t < 2) : le12 (v (2 + 41 * t) 9) := by have := h (2 + 41 * t) 9; rw [okp_T ht] at this; exact this
theorem Inv1.sts {n T : Nat} {v : Mem} (h : Inv1 n T v) {t : Nat} (ht : t < 2) : v (2 + 41 * t) 10 = 0 ∨ v (2 + 41 * t) 10 = 1 ∨ v (2 + 41 * t) 10 = 2 := by have := h (2 + 41 * t) 10; rw [okp_T ht] at this; exact this
theorem Inv1.plc {n T : Nat} {v : Mem} (h : Inv1 n T v) {t s : Nat} (ht : t < 2) : v (2 + 41 * t) 11 = -1 ∨ ∃ s, s < n ∧ v (2 + 41 * t) 11 = nI s := by have := h (2 + 41 * t) 11; rw [okp_T ht] at this; exact this
theorem Inv1.D3 {n T : Nat} {v : Mem} (h : Inv1 n T v) {t : Nat} (ht : t < 2) : leT T (v (2 + 41 * t + 3) 2) := by have := h (2 + 41 * t + 3) 2; rw [okp_D3 ht] at this; exact this
theorem Inv1.D4 {n T : Nat} {v : Mem} (h : Inv1 n T v) {t : Nat} (ht : t < 2) : leT T (v (2 + 41 * t + 4) 2) := by have := h (2 + 41 * t + 4) 2; rw [okp_D4 ht] at this; exact this
theorem Inv1.F0 {n T : Nat} {v : Mem} (h : Inv1 n T v) {t f : Nat} (ht : t < 2) (hf : f < 12) : v (2 + 41 * t + 5 + f) 0 = 0 ∨ pm1 (v (2 + 41 * t + 5 + f) 0) := by have := h (2 + 41 * t + 5 + f) 0; rw [okp_F ht hf] at this; exact this
theorem Inv1.F2 {n T : Nat} {v : Mem} (h : Inv1 n T v) {t f : Nat} (ht : t < 2) (hf : f < 12) : leT T (v (2 + 41 * t + 5 + f) 2) := by have := h (2 + 41 * t + 5 + f) 2; rw [okp_F ht hf] at this; exact this
theorem Inv1.F5 {n T : Nat} {v : Mem} (h : Inv1 n T v) {t f : Nat} (ht : t < 2) (hf : f < 12) : bo (v (2 + 41 * t + 5 + f) 5) := by have := h (2 + 41 * t + 5 + f) 5; rw [okp_F ht hf] at this; exact this
theorem Inv1.S1 {n T : Nat} {v : Mem} (h : Inv1 n T v) {t s : Nat} (ht : t < 2) (hs : s < 24) : bo (v (2 + 41 * t + 17 + s) 1) := by have := h (2 + 41 * t + 17 + s) 1; rw [okp_S ht hs] at this; exact this
theorem Inv1.S4 {n T : Nat} {v : Mem} (h : Inv1 n T v) {t s : Nat} (ht : t < 2) (hs : s < 24) : pm1 (v (2 + 41 * t + 17 + s) 4) := by have := h (2 + 41 * t + 17 + s) 4; rw [okp_S ht hs] at this; exact this
theorem Inv1.S5 {n T : Nat} {v : Mem} (h : Inv1 n T v) {t s : Nat} (ht : t < 2) (hs : s < 24) : le12 (v (2 + 41 * t + 17 + s) 5) := by have := h (2 + 41 * t + 17 + s) 5; rw [okp_S ht hs] at this; exact this
theorem Inv1.S6 {n T : Nat} {v : Mem} (h : Inv1 n T v) {t s : Nat} (ht : t < 2) (hs : s < 24) : pm1 (v (2 + 41 * t + 17 + s) 6) := by have := h (2 + 41 * t + 17 + s) 6; rw [okp_S ht hs] at this; exact this
theorem Inv1.S7 {n T : Nat} {v : Mem} (h : Inv1 n T v) {t s : Nat} (ht : t < 2) (hs : s < 24) : le12 (v (2 + 41 * t + 17 + s) 7) := by have := h (2 + 41 * t + 17 + s) 7; rw [okp_S ht hs] at this; exact this
/-- a tube's fire: suspected or confirmed means that its section is named -/
def B1 (n : Nat) (v : Mem) (t : Nat) : Prop := v (2 + 41 * t) 10 ≠ 0 → ∃ s, s < n ∧ v (2 + 41 * t) 11 = nI s
/-- a fan: out means standing; beyond the count means standing; what the reference keeps of starts and stops -/
def fok (v u : Mem) (t f : Nat) : Prop := (v (2 + 41 * t + 5 + f) 5 ≠ 0 → v (2 + 41 * t + 5 + f) 0 = 0) ∧ (∀ k, v (2 + 41 * t) 4 = nI k → k ≤ 12 → k ≤ f → v (2 + 41 * t + 5 + f) 0 = 0) ∧ (v (2 + 41 * t + 5 + f) 0 ≠ 0 → u 16 (14 * t + 2 + f) = v (2 + 41 * t + 5 + f) 2) ∧ (v (2 + 41 * t + 5 + f) 0 = 0 → v (2 + 41 * t + 5 + f) 8 ≠ 0 → u 15 (14 * t + 2 + f) = v (2 + 41 * t + 5 + f) 2)
/-- the starts of the last ten ticks -/
def Cnt (T : Nat) (v u : Mem) : Prop := (∀ τ, τ ≤ T → T < τ + 10 → v 1 (τ % 10) = u 32 τ) ∧ (∀ τ, T < τ → u 32 τ = 0) ∧ (∀ j, T < j → j < 10 → v 1 j = 0)
def Rel (n T : Nat) (v u : Mem) : Prop := (2 ≤ n ∧ n ≤ 24 ∧ T ≤ 20000) ∧ EQ v u ∧ Inv1 n T v ∧ (∀ t, t < 2 → B1 n v t) ∧ (∀ t, t < 2 → ∀ f, f < 12 → fok v u t f) ∧ Cnt T v u
theorem Rel.n2 {n T : Nat} {v u : Mem} (h : Rel n T v u) : 2 ≤ n := h.1.1
theorem Rel.n24 {n T : Nat} {v u : Mem} (h : Rel n T v u) : n ≤ 24 := h.1.2.1
theorem Rel.T2 {n T : Nat} {v u : Mem} (h : Rel n T v u) : T ≤ 20000 := h.1.2.2
theorem Rel.E {n T : Nat} {v u : Mem} (h : Rel n T v u) : EQ v u := h.2.1
theorem Rel.I {n T : Nat} {v u : Mem} (h : Rel n T v u) : Inv1 n T v := h.2.2.1
theorem Rel.B {n T : Nat} {v u : Mem} (h : Rel n T v u) {t : Nat} (ht : t < 2) : B1 n v t := h.2.2.2.1 t ht
theorem Rel.F {n T : Nat} {v u : Mem} (h : Rel n T v u) {t f : Nat} (ht : t < 2) (hf : f < 12) : fok v u t f := h.2.2.2.2.1 t ht f hf
theorem Rel.C {n T : Nat} {v u : Mem} (h : Rel n T v u) : Cnt T v u := h.2.2.2.2.2
/-- places that the rest of Rel does not speak of -/
def neu (o j : Nat) : Prop := o ≠ 1 ∧ (o = 2 ∨ o = 43 → j ≠ 4 ∧ j ≠ 10 ∧ j ≠ 11) ∧ ((7 ≤ o ∧ o < 19) ∨ (48 ≤ o ∧ o < 60) → j ≠ 0 ∧ j ≠ 2 ∧ j ≠ 5 ∧ j ≠ 8)
theorem neu_rel {n T : Nat} {v u v' u' : Mem} (h : Rel n T v u) (hE : EQ v' u') (hI : Inv1 n T v') (hv : ∀ o j, ¬ neu o j → v' o j = v o j) (hu : ∀ a k, a = 15 ∨ a = 16 ∨ a = 32 → u' a k = u a k) : Rel n T v' u' := by
  refine ⟨h.1, hE, hI, fun t ht => ?_, fun t ht f hf => ?_, ?_⟩
  · have e1 : v' (2 + 41 * t) 10 = v (2 + 41 * t) 10 := hv _ _ (fun q => by have := q.2.1 (by omega); omega)
    have e2 : v' (2 + 41 * t) 11 = v (2 + 41 * t) 11 := hv _ _ (fun q => by have := q.2.1 (by omega); omega)
    unfold B1
    rw [e1, e2]
    exact h.B ht
  · have g : ∀ j, j = 0 ∨ j = 2 ∨ j = 5 ∨ j = 8 → v' (2 + 41 * t + 5 + f) j = v (2 + 41 * t + 5 + f) j := fun j hj => hv _ _ (fun q => by have := q.2.2 (by omega); omega)
    have e4 : v' (2 + 41 * t) 4 = v (2 + 41 * t) 4 := hv _ _ (fun q => by have := q.2.1 (by omega); omega)
    unfold fok
    rw [g 0 (by omega), g 2 (by omega), g 5 (by omega), g 8 (by omega), e4, hu 16 _ (by omega), hu 15 _ (by omega)]
    exact h.F ht hf
  · have e1 : ∀ j, v' 1 j = v 1 j := fun j => hv 1 j (fun q => q.1 rfl)
    refine ⟨fun τ a b => ?_, fun τ a => ?_, fun j a b => ?_⟩
    · rw [e1, hu 32 _ (by omega)]; exact h.C.1 τ a b
    · rw [hu 32 _ (by omega)]; exact h.C.2.1 τ a
    · rw [e1]; exact h.C.2.2 j a b
theorem ph_u {o j : Nat} {q : Nat × Nat} (h : ph o j = some q) {a k : Nat} (ha : a = 15 ∨ a = 16 ∨ a = 32) : a ≠ q.1 ∨ k ≠ q.2 := by
  have d := ph_dom h
  have im := ph_img o d.1 j d.2 q (by rw [h]; rfl)
  have := imgok_n im (a := a) (k := k) (by omega)
  omega
theorem Rel.put {n T : Nat} {v u : Mem} (h : Rel n T v u) {o j : Nat} {q : Nat × Nat} {x y : Int32} (hq : ph o j = some q) (hx : okp n T o j x) (hn : neu o j) (hxy : x = y) : Rel n T (up2 v o j x) (up2 u q.1 q.2 y) :=
  neu_rel h (h.E.put hq hxy) (h.I.put hx) (fun a k ha => up2_n (by by_cases e : a = o; (subst e; right; intro e2; subst e2; exact ha hn); (left; exact e))) (fun a k ha => up2_n (ph_u hq ha))
theorem Rel.putR {n T : Nat} {v u : Mem} (h : Rel n T v u) {k : Nat} {x : Int32} (hk : k = 0 ∨ k = 34) : Rel n T v (up2 u 0 k x) :=
  neu_rel h (h.E.putR (Or.inl ⟨rfl, hk⟩)) h.I (fun _ _ _ => rfl) (fun a k ha => up2_n (Or.inl (by omega)))
theorem Rel.putC {n T : Nat} {v u : Mem} (h : Rel n T v u) {x : Int32} : Rel n T (up2 v 0 7 x) u :=
  neu_rel h (h.E.putC rfl) (h.I.put (by exact trivial)) (fun a k ha => up2_n (Or.inl (by intro e; subst e; exact ha ⟨by decide, by omega, by omega⟩))) (fun _ _ _ => rfl)
/-! numbers of places -/
theorem i14 (t d : Nat) : 14 * nI t + nI d = nI (14 * t + d) := by
  rw [show (14 : Int32) = nI 14 from rfl]
  unfold nI
  rw [Int32.ofNat_add, Int32.ofNat_mul]
theorem i24 (t d : Nat) : 24 * nI t + nI d = nI (24 * t + d) := by
  rw [show (24 : Int32) = nI 24 from rfl]
  unfold nI
  rw [Int32.ofNat_add, Int32.ofNat_mul]
theorem i14_0 (t : Nat) : 14 * nI t = nI (14 * t) := by
  rw [show (14 : Int32) = nI 14 from rfl]
  unfold nI
  rw [Int32.ofNat_mul]
theorem i14_1 (t : Nat) : 14 * nI t + 1 = nI (14 * t + 1) := i14 t 1
theorem i14_2 (t : Nat) : 14 * nI t + 2 = nI (14 * t + 2) := i14 t 2
theorem i14_f (t f : Nat) : 14 * nI t + 2 + nI f = nI (14 * t + 2 + f) := by rw [i14_2, nI_add]
theorem tub {p : Int32} (h : p = 0 ∨ p = 1) : ∃ t, t < 2 ∧ p = nI t := by
  rcases h with rfl | rfl
  · exact ⟨0, by decide, rfl⟩
  · exact ⟨1, by decide, rfl⟩
theorem not_tub {p : Int32} (h : ¬ (p = 0 ∨ p = 1)) : p < 0 ∨ 1 < p := by
  simp only [i32_lt, i32_eq] at *
  simp at *
  omega
