/-! the load is shed -/
def nz (g : Nat → Int32) : Nat → Nat
  | 0 => 0
  | k + 1 => nz g k + (if g k = 0 then 0 else 1)
theorem nz_le (g : Nat → Int32) : ∀ k, nz g k ≤ k
  | 0 => Nat.le_refl 0
  | k + 1 => by
    have := nz_le g k
    show nz g k + (if g k = 0 then 0 else 1) ≤ k + 1
    by_cases h : g k = 0
    · rw [if_pos h]; omega
    · rw [if_neg h]; omega
theorem nz_zero {g : Nat → Int32} : ∀ {k}, nz g k = 0 → ∀ j, j < k → g j = 0
  | 0, _, j, hj => by omega
  | k + 1, h, j, hj => by
    have h' : nz g k + (if g k = 0 then 0 else 1) = 0 := h
    by_cases e : g k = 0
    · rw [if_pos e] at h'
      by_cases e2 : j = k
      · rw [e2]; exact e
      · exact nz_zero (k := k) (by omega) j (by omega)
    · rw [if_neg e] at h'; omega
theorem nz_of {g : Nat → Int32} : ∀ {k}, (∀ j, j < k → g j = 0) → nz g k = 0
  | 0, _ => rfl
  | k + 1, h => by
    show nz g k + (if g k = 0 then 0 else 1) = 0
    rw [nz_of (fun j hj => h j (by omega)), if_pos (h k (by omega))]
theorem nz_congr {g g' : Nat → Int32} : ∀ {k}, (∀ j, j < k → g j = g' j) → nz g k = nz g' k
  | 0, _ => rfl
  | k + 1, h => by
    show nz g k + (if g k = 0 then 0 else 1) = nz g' k + (if g' k = 0 then 0 else 1)
    rw [nz_congr (fun j hj => h j (by omega)), h k (by omega)]
theorem nz_upd {g g' : Nat → Int32} {b : Nat} (h1 : g b ≠ 0) (h2 : g' b = 0) (h3 : ∀ j, j ≠ b → g' j = g j) : ∀ k, b < k → nz g' k + 1 = nz g k
  | 0, h => by omega
  | k + 1, h => by
    show nz g' k + (if g' k = 0 then 0 else 1) + 1 = nz g k + (if g k = 0 then 0 else 1)
    by_cases e : b = k
    · subst e
      rw [if_pos h2, if_neg h1, nz_congr (g := g') (g' := g) (fun j hj => h3 j (by omega))]
    · have := nz_upd h1 h2 h3 k (by omega)
      rw [h3 k (fun q => e q.symm)]
      omega
def nzt (v : Mem) (t : Nat) : Nat := nz (fun f => v (2 + 41 * t + 5 + f) 0) 12
theorem ld_zero {v : Mem} (h0 : nzt v 0 = 0) (h1 : nzt v 1 = 0) : ld v = 0 := by
  unfold ld
  rw [sm_zero (fun j hj => by unfold dk; rw [if_pos (nz_zero h0 j hj)]), sm_zero (fun j hj => by unfold dk; rw [if_pos (nz_zero h1 j hj)])]; rfl
section SH
variable {X : Mem → Prop} {c : Int32} {n T : Nat} {v u : Mem}
theorem cA0 {t f : Nat} : cA v t 0 f = true ↔ v (2 + 41 * t + 5 + f) 0 ≠ 0 := by unfold cA; rw [decide_eq_true_eq, if_pos rfl]
theorem sl_none (R : Rel n T v u) {t k : Nat} (ht : t < 2) (hk : k ≤ 12) (hc : v (2 + 41 * t) 4 = nI k) (h : lgst v t 0 k = none) : nzt v t = 0 ∧ fX3_stopLongestRun (2 + 41 * t) (nI T) v = some (0, v) := by
  constructor
  · refine nz_of (fun j hj => ?_)
    rcases Nat.lt_or_ge j k with q | q
    · have := (up_BR (c := cA v t 0) (geR_tot v t) (geR_tr v t) k).1 h j (Nat.zero_le _) q
      by_cases e : v (2 + 41 * t + 5 + j) 0 = 0
      · exact e
      · rw [cA0.mpr e] at this; cases this
    · exact (R.F ht hj).2.1 k hc hk q
  · unfold fX3_stopLongestRun
    rw [lr4_1 hk hc, bd_some, h]
    unfold fX3_stopAt
    rw [if_pos (show oI none = -1 from rfl)]
    simp only [Option.bind_some]
    rw [if_pos (show oI none = -1 from rfl)]
theorem sl_some {t k b : Nat} (hk : k ≤ 12) (hc : v (2 + 41 * t) 4 = nI k) (h : lgst v t 0 k = some b) : b < 12 ∧ fX3_stopLongestRun (2 + 41 * t) (nI T) v = some (1, snd v (2 + 41 * t + 5 + b) 0 (nI T)) ∧ nzt (snd v (2 + 41 * t + 5 + b) 0 (nI T)) t + 1 = nzt v t ∧ ∀ t', t' < 2 → t' ≠ t → nzt (snd v (2 + 41 * t + 5 + b) 0 (nI T)) t' = nzt v t' := by
  obtain ⟨hb, hcb⟩ := up_lt h
  have hb12 : b < 12 := by omega
  refine ⟨hb12, ?_, ?_, fun t' ht' hne => ?_⟩
  · unfold fX3_stopLongestRun
    rw [lr4_1 hk hc, bd_some, h, show oI (some b) = nI b from rfl, stopAt4 hb12]
    simp only [Option.bind_some]
    rw [if_neg (fun z => nI_pos (n := b) (by omega) (by rw [z]; decide))]
  · exact nz_upd (b := b) (cA0.mp hcb) snd_0 (fun j hj => snd_n (by omega) 0) 12 hb12
  · exact nz_congr (fun j hj => snd_n (by omega) 0)
theorem sh_loop (hX : XF X) {tl tf : Nat} (htl : tl < 2) (htf : tf < 2) (hne : tl + tf = 1) : ∀ r i (v u : Mem), RF X c n T v u → nzt v tf + nzt v tl ≤ r → i + r = 24 → ∀ f1 f2, r < f1 → r < f2 → ∃ v' u', fX4_shedLoad_2 (2 + 41 * tl) (2 + 41 * tf) f1 v (nI i) = some v' ∧ fX5_relieve_0 (nI tf) f2 u = some u' ∧ RF X c n T v' u' := by
  intro r
  induction r with
  | zero =>
    intro i v u h hz hi f1 f2 g1 g2
    obtain ⟨m1, rfl⟩ : ∃ m, f1 = m + 1 := ⟨f1 - 1, by omega⟩
    obtain ⟨m2, rfl⟩ : ∃ m, f2 = m + 1 := ⟨f2 - 1, by omega⟩
    have R := h.1
    have : i = 24 := by omega
    subst this
    have z : ld v = 0 := by
      rcases (show tl = 0 ∧ tf = 1 ∨ tl = 1 ∧ tf = 0 by omega) with ⟨rfl, rfl⟩ | ⟨rfl, rfl⟩
      · exact ld_zero (by omega) (by omega)
      · exact ld_zero (by omega) (by omega)
    obtain ⟨m, hm, em⟩ := R.I.W5
    refine ⟨v, u, ?_, ?_, h⟩
    · rw [fX4_shedLoad_2, if_pos (by decide)]
    · rw [fX5_relieve_0, ld5 R, bd_some, ← R.E.W5, em, z, if_pos (nI_pos' (by omega))]
  | succ r ih =>
    intro i v u h hz hi f1 f2 g1 g2
    obtain ⟨m1, rfl⟩ : ∃ m, f1 = m + 1 := ⟨f1 - 1, by omega⟩
    obtain ⟨m2, rfl⟩ : ∃ m, f2 = m + 1 := ⟨f2 - 1, by omega⟩
    have R := h.1
    obtain ⟨m, hm, em⟩ := R.I.W5
    obtain ⟨kl, hkl, hcl⟩ := R.I.cnt htl
    obtain ⟨kf, hkf, hcf⟩ := R.I.cnt htf
    have w6 := R.I.W6
    rw [fX4_shedLoad_2, if_neg (show ¬ (24 : Int32) ≤ nI i from nI_ge (a := i) (b := 24) (by omega) (by decide)), ld4 R, bd_some, fX5_relieve_0, ld5 R, bd_some, ← R.E.W5]
    by_cases hl : ld v ≤ v 0 5
    · rw [if_pos hl, if_pos hl]
      exact ⟨v, u, rfl, rfl, h⟩
    · rw [if_neg hl, if_neg hl, lg5 R htf hkf hcf, bd_some, w6]
      unfold fX5_relieve_35
      cases hg : lgst v tf 0 kf with
      | some b =>
        obtain ⟨b12, s1, s2, s3⟩ := sl_some (T := T) hkf hcf hg
        rw [s1, bd_some, if_neg (by decide), show oR tf (some b) = nI (14 * tf + 2 + b) from rfl, if_pos (nI_pos' (by omega)), stop5 (by omega), nI_1]
        simp only [Option.bind_some]
        exact ih (i + 1) _ _ (h.stop hX htf b12) (by have := s3 tl htl (by omega); omega) (by omega) m1 m2 (by omega) (by omega)
      | none =>
        obtain ⟨z1, z2⟩ := sl_none R htf hkf hcf hg
        have e1 : (1 : Int32) - nI tf = nI tl := by
          rcases (show tl = 0 ∧ tf = 1 ∨ tl = 1 ∧ tf = 0 by omega) with ⟨rfl, rfl⟩ | ⟨rfl, rfl⟩ <;> decide
        rw [z2, bd_some, if_pos rfl, if_neg (show ¬ 0 ≤ oR tf none from (by decide : ¬ (0 : Int32) ≤ -1)), e1, lg5 R htl hkl hcl, bd_some, w6]
        cases hg2 : lgst v tl 0 kl with
        | none =>
          exfalso
          obtain ⟨y1, y2⟩ := sl_none R htl hkl hcl hg2
          apply hl
          have z : ld v = 0 := by
            rcases (show tl = 0 ∧ tf = 1 ∨ tl = 1 ∧ tf = 0 by omega) with ⟨rfl, rfl⟩ | ⟨rfl, rfl⟩
            · exact ld_zero y1 z1
            · exact ld_zero z1 y1
          rw [z, em]
          exact nI_pos' (by omega)
        | some b =>
          obtain ⟨b12, s1, s2, s3⟩ := sl_some (T := T) hkl hcl hg2
          rw [s1, bd_some, show oR tl (some b) = nI (14 * tl + 2 + b) from rfl, stop5 (by omega), nI_1]
          simp only [Option.bind_some]
          exact ih (i + 1) _ _ (h.stop hX htl b12) (by have := s3 tf htf (by omega); omega) (by omega) m1 m2 (by omega) (by omega)
theorem p_shed (hX : XF X) {tl tf : Nat} (htl : tl < 2) (htf : tf < 2) (hne : tl + tf = 1) (h : RF X c n T v u) : ∃ v' u', fX4_shedLoad (2 + 41 * tl) (2 + 41 * tf) v = some v' ∧ fX5_relieve (nI tf) u = some u' ∧ RF X c n T v' u' :=
  sh_loop hX htl htf hne 24 0 v u h (by have a := nz_le (fun f => v (2 + 41 * tf + 5 + f) 0) 12; have b := nz_le (fun f => v (2 + 41 * tl + 5 + f) 0) 12; unfold nzt; omega) (by omega) 1000 1000 (by omega) (by omega)
end SH
/-! fans start -/
theorem mod10 {T : Nat} (h : T ≤ 20000) : nI T - nI T / 10 * 10 = nI (T % 10) := by
  have hd : nI T / 10 = nI (T / 10) := by
    apply i32_eq.mpr
    rw [Int32.toInt_div, nI_toInt (by omega), nI_toInt (by omega), show (10 : Int32).toInt = 10 from rfl, Int.tdiv_eq_ediv_of_nonneg (by omega), Int.bmod_eq_of_le (by omega) (by omega)]
    rfl
  rw [hd, show (10 : Int32) = nI 10 from rfl, show nI (T / 10) * nI 10 = nI (T / 10 * 10) from (Int32.ofNat_mul _ _).symm, nI_sub (by omega)]
  congr 1
  omega
def rst (v : Mem) (t f T : Nat) (d : Int32) : Bool := decide (v (2 + 41 * t + 5 + f) 8 = d ∨ v (2 + 41 * t + 5 + f) 8 = 0 ∨ v 0 1 - (nI T - v (2 + 41 * t + 5 + f) 2) ≤ 0)
theorem hr4 {v : Mem} {t f T : Nat} {d : Int32} (h0 : v (2 + 41 * t + 5 + f) 0 = 0) : fX1_hasRested (2 + 41 * t + 5 + f) d (v 0 1) (nI T) v = some (bi (rst v t f T d), v) := by
  unfold fX1_hasRested fX1_restLeft
  by_cases h1 : v (2 + 41 * t + 5 + f) 8 = d
  · rw [if_pos h1, show rst v t f T d = true from decide_eq_true (Or.inl h1)]; rfl
  · rw [if_neg h1]
    by_cases h2 : v (2 + 41 * t + 5 + f) 8 = 0
    · rw [if_pos h2, bd_some, if_pos rfl, show rst v t f T d = true from decide_eq_true (Or.inr (Or.inl h2))]; rfl
    · rw [if_neg h2, if_pos h0]
      by_cases h3 : v 0 1 - (nI T - v (2 + 41 * t + 5 + f) 2) ≤ 0
      · rw [if_pos h3, bd_some, if_pos rfl, show rst v t f T d = true from decide_eq_true (Or.inr (Or.inr h3))]; rfl
      · rw [if_neg h3, bd_some, if_neg (fun q => h3 (by rw [q]; decide)), show rst v t f T d = false from decide_eq_false (fun q => q.elim h1 (fun q => q.elim h2 h3))]; rfl
theorem rest_iff {r s T : Nat} (hr : r ≤ 300) (hs : s ≤ T) (hT : T ≤ 20000) : (nI r - (nI T - nI s) ≤ 0) ↔ ¬ (nI T - nI s < nI r) := by
  rw [nI_sub hs, i32_le, i32_lt, Int32.toInt_sub, nI_toInt (by omega), nI_toInt (by omega), Int.bmod_eq_of_le (by omega) (by omega), show (0 : Int32).toInt = 0 from rfl]
  omega
def cR (v : Mem) (t T : Nat) (d : Int32) (f : Nat) : Bool := decide (v (2 + 41 * t + 5 + f) 0 = 0 ∧ v (2 + 41 * t + 5 + f) 5 = 0) && rst v t f T d
def geL (v : Mem) (t a b : Nat) : Bool := decide (v (2 + 41 * t + 5 + a) 7 ≤ v (2 + 41 * t + 5 + b) 7)
theorem geL_tot (v : Mem) (t : Nat) : ∀ a b, geL v t a b = true ∨ geL v t b a = true := fun a b => by
  unfold geL
  rw [decide_eq_true_eq, decide_eq_true_eq, i32_le, i32_le]
  omega
theorem geL_tr (v : Mem) (t : Nat) : ∀ a b d, geL v t a b = true → geL v t b d = true → geL v t a d = true := fun a b d => by
  unfold geL
  rw [decide_eq_true_eq, decide_eq_true_eq, decide_eq_true_eq, i32_le, i32_le, i32_le]
  omega
def rdy (v : Mem) (t T : Nat) (d : Int32) (k : Nat) : Option Nat := up (cR v t T d) (geL v t) k
section ST
variable {X : Mem → Prop} {c : Int32} {n T : Nat} {v u : Mem}
theorem hr5 (R : Rel n T v u) {t f : Nat} {d : Int32} (ht : t < 2) (hf : f < 12) (h0 : v (2 + 41 * t + 5 + f) 0 = 0) : fX5_hasRested (nI (14 * t + 2 + f)) d u = some (bi (rst v t f T d), u) := by
  have hix : inb (nI (14 * t + 2 + f)) 28 := inb_nI (by omega) (by decide)
  unfold fX5_hasRested
  simp only [gd_pos hix, nI_c (show 14 * t + 2 + f < 2 ^ 31 by omega)]
  rw [← R.E.F8 ht hf, ← R.E.W6, R.I.W6, ← R.E.W1]
  by_cases h2 : v (2 + 41 * t + 5 + f) 8 = 0
  · rw [if_pos h2, show rst v t f T d = true from decide_eq_true (Or.inr (Or.inl h2))]; rfl
  · rw [if_neg h2]
    by_cases h1 : v (2 + 41 * t + 5 + f) 8 = d
    · rw [if_pos h1, show rst v t f T d = true from decide_eq_true (Or.inl h1)]; rfl
    · rw [if_neg h1, (R.F ht hf).2.2.2 h0 h2]
      obtain ⟨r, hr, er⟩ := R.I.W1
      obtain ⟨s, hs, es⟩ := R.I.F2 ht hf
      have q := rest_iff hr hs R.T2
      rw [← er, ← es] at q
      by_cases h3 : nI T - v (2 + 41 * t + 5 + f) 2 < v 0 1
      · rw [if_pos h3, show rst v t f T d = false from decide_eq_false (fun z => z.elim h1 (fun z => z.elim h2 (fun z => q.mp z h3)))]; rfl
      · rw [if_neg h3, show rst v t f T d = true from decide_eq_true (Or.inr (Or.inr (q.mpr h3)))]; rfl
theorem ir4 {t f : Nat} : fX3_isReady (2 + 41 * t) (2 + 41 * t + 5 + f) (v 0 1) (nI T) v = some (bi (cR v t T (v (2 + 41 * t) 8) f), v) := by
  unfold fX3_isReady fX3_isReady_31 cR
  by_cases h1 : v (2 + 41 * t + 5 + f) 0 = 0
  · rw [if_pos h1]
    by_cases h2 : v (2 + 41 * t + 5 + f) 5 = 0
    · rw [if_pos h2, hr4 h1, bd_some, decide_eq_true (show _ ∧ _ from ⟨h1, h2⟩)]
      cases rst v t f T (v (2 + 41 * t) 8) with
      | false => rw [if_pos (show bi false = 0 from rfl)]; rfl
      | true => rw [if_neg (show ¬ bi true = 0 by decide)]; rfl
    · rw [if_neg h2, decide_eq_false (fun q => h2 q.2)]; rfl
  · rw [if_neg h1, decide_eq_false (fun q => h1 q.1)]; rfl
theorem rr_loop {t k : Nat} (hk : k ≤ 12) (hc : v (2 + 41 * t) 4 = nI k) : ∀ r i, i + r = k → ∀ fuel, r < fuel → fX3_leastRunReady_5 (2 + 41 * t) (v 0 1) (nI T) fuel v (oI (rdy v t T (v (2 + 41 * t) 8) i)) (nI i) = some (oI (rdy v t T (v (2 + 41 * t) 8) k), v) := by
  intro r
  induction r with
  | zero =>
    intro i hi fuel hf
    obtain ⟨m, rfl⟩ : ∃ m, fuel = m + 1 := ⟨fuel - 1, by omega⟩
    have : i = k := by omega
    subst this
    rw [fX3_leastRunReady_5, hc, if_pos (nI_le (Nat.le_refl _) (by omega))]
  | succ r ih =>
    intro i hi fuel hf
    obtain ⟨m, rfl⟩ : ∃ m, fuel = m + 1 := ⟨fuel - 1, by omega⟩
    have e := ih (i + 1) (by omega) m (by omega)
    have hi12 : inb (nI i) 12 := inb_nI (by omega) (by decide)
    rw [fX3_leastRunReady_5, hc, if_neg (nI_ge (by omega) (by omega))]
    simp only [gd_pos hi12, nI_c (show i < 2 ^ 31 by omega)]
    rw [ir4, bd_some, nI_1]
    cases q : cR v t T (v (2 + 41 * t) 8) i with
    | false =>
      rw [if_pos (show bi false = 0 from rfl)]
      have ee : rdy v t T (v (2 + 41 * t) 8) (i + 1) = rdy v t T (v (2 + 41 * t) 8) i := up_f q
      rw [ee] at e
      exact e
    | true =>
      rw [if_neg (show ¬ bi true = 0 by decide)]
      unfold fX3_leastRunReady_57
      cases hu : rdy v t T (v (2 + 41 * t) 8) i with
      | none =>
        have ee : rdy v t T (v (2 + 41 * t) 8) (i + 1) = some i := up_n q hu
        rw [if_pos (show oI none = -1 from rfl), nI_1]
        rw [ee] at e
        exact e
      | some b =>
        have hb := (up_lt hu).1
        rw [if_neg (fun z => by have := ((oI_neg (some b) (fun j hj => by cases hj; omega)).1.mp z); cases this), show oI (some b) = nI b from rfl, gd_pos (inb_nI (by omega) (by decide)), nI_c (by omega)]
        by_cases hg : v (2 + 41 * t + 5 + b) 7 ≤ v (2 + 41 * t + 5 + i) 7
        · have ee : rdy v t T (v (2 + 41 * t) 8) (i + 1) = some b := up_k q hu (decide_eq_true hg)
          rw [if_pos hg]
          rw [ee] at e
          exact e
        · have ee : rdy v t T (v (2 + 41 * t) 8) (i + 1) = some i := up_r q hu (decide_eq_false hg)
          rw [if_neg hg, nI_1]
          rw [ee] at e
          exact e
theorem rr4 {t k : Nat} (hk : k ≤ 12) (hc : v (2 + 41 * t) 4 = nI k) : fX3_leastRunReady (2 + 41 * t) (v 0 1) (nI T) v = some (oI (rdy v t T (v (2 + 41 * t) 8) k), v) := rr_loop hk hc k 0 (by omega) 1000 (by omega)
theorem s51_loop (R : Rel n T v u) {t k : Nat} (ht : t < 2) (hk : k ≤ 12) {d : Int32} (kb7 : Mem → Int32 → Option (Int32 × Mem)) : ∀ j, j ≤ k → ∀ x, (∀ b, x = some b → b < 12) → ∀ fuel, fX5_starting_51 kb7 (nI t) (fuel + j) u d (oR t x) (nI (14 * t + 2 + j) - 1) = fX5_starting_51 kb7 (nI t) fuel u d (oR t (dn (cR v t T d) (geL v t) j x)) (nI (14 * t + 2) - 1) := by
  intro j
  induction j with
  | zero => intro _ x hx fuel; rfl
  | succ j ih =>
    intro hj x hx fuel
    have hj12 : j < 12 := by omega
    have hix : inb (nI (14 * t + 2 + j)) 28 := inb_nI (by omega) (by decide)
    have e : dn (cR v t T d) (geL v t) (j + 1) x = dn (cR v t T d) (geL v t) j (if cR v t T d j then bt (geL v t) j x else x) := rfl
    have no : cR v t T d j = false → fX5_starting_96 kb7 (fun v l2 l3 l4 => fX5_starting_51 kb7 (nI t) (fuel + j) v l2 l3 l4) (nI t) u d (oR t x) (nI (14 * t + 2 + j)) = fX5_starting_51 kb7 (nI t) fuel u d (oR t (dn (cR v t T d) (geL v t) (j + 1) x)) (nI (14 * t + 2) - 1) := fun q => by
      unfold fX5_starting_96 fX5_starting_97 fX5_starting_129
      rw [if_pos rfl, add_m1, e, q]
      exact ih (by omega) x hx fuel
    have ye : cR v t T d j = true → fX5_starting_97 kb7 (fun v l2 l3 l4 => fX5_starting_51 kb7 (nI t) (fuel + j) v l2 l3 l4) (nI t) u d (oR t x) (nI (14 * t + 2 + j)) 1 = fX5_starting_51 kb7 (nI t) fuel u d (oR t (dn (cR v t T d) (geL v t) (j + 1) x)) (nI (14 * t + 2) - 1) := fun q => by
      unfold fX5_starting_97 fX5_starting_129
      rw [if_neg (by decide), add_m1, e, q]
      cases x with
      | none =>
        rw [if_pos (show oR t none < 0 from (by decide : (-1 : Int32) < 0))]
        exact ih (by omega) (some j) (fun b hb => by cases hb; omega) fuel
      | some b =>
        have hb := hx b rfl
        rw [show oR t (some b) = nI (14 * t + 2 + b) from rfl, if_neg (nI_pos (by omega)), gd_pos hix, gd_pos (inb_nI (by omega) (by decide)), nI_c (by omega), nI_c (by omega), ← R.E.F7 ht hb, ← R.E.F7 ht hj12]
        by_cases hg : v (2 + 41 * t + 5 + b) 7 < v (2 + 41 * t + 5 + j) 7
        · rw [if_pos hg]
          have g : geL v t j b = false := decide_eq_false (fun z => by rw [i32_le] at z; rw [i32_lt] at hg; omega)
          simp only [bt, g, if_true]
          exact ih (by omega) (some b) hx fuel
        · rw [if_neg hg]
          have g : geL v t j b = true := decide_eq_true (by rw [i32_le]; rw [i32_lt] at hg; omega)
          simp only [bt, g, if_true]
          exact ih (by omega) (some j) (fun b hb => by cases hb; omega) fuel
    rw [show fuel + (j + 1) = fuel + j + 1 by omega, fX5_starting_51, i14_2, show 14 * t + 2 + (j + 1) = 14 * t + 2 + j + 1 by omega, nI_pred, if_neg (nI_nlt (by omega) (by omega)), gd_pos hix, gd_pos hix, nI_c (by omega), ← R.E.F0 ht hj12, ← R.E.F5 ht hj12]
    by_cases h1 : v (2 + 41 * t + 5 + j) 0 = 0
    · rw [if_pos h1]
      by_cases h2 : v (2 + 41 * t + 5 + j) 5 = 0
      · rw [if_pos h2, hr5 R ht hj12 h1, bd_some]
        cases hb : rst v t j T d with
        | false =>
          rw [if_pos (show bi false = 0 from rfl)]
          exact no (by unfold cR; rw [hb, Bool.and_false])
        | true =>
          rw [if_neg (show ¬ bi true = 0 by decide)]
          exact ye (by unfold cR; rw [hb, decide_eq_true (show _ ∧ _ from ⟨h1, h2⟩)]; rfl)
      · rw [if_neg h2]
        exact no (by unfold cR; rw [decide_eq_false (fun q => h2 q.2)]; rfl)
    · rw [if_neg h1]
      exact no (by unfold cR; rw [decide_eq_false (fun q => h1 q.1)]; rfl)
def XC (X : Mem → Prop) : Prop := ∀ v j x, X v → X (up2 v 1 j x)
theorem CO_C (T : Nat) : XC (CO T) := fun v j x h t ht => by
  rw [up2_n (Or.inl (by omega)), up2_n (Or.inl (by omega)), hal_congr (v := v) (fun j => up2_n (Or.inl (by omega)))]
  exact h t ht
/-- a fan starts -/
def stv (v : Mem) (F T : Nat) (d : Int32) : Mem := up2 (up2 (up2 (up2 v F 0 d) F 2 (nI T)) F 8 d) 1 (T % 10) (v 1 (T % 10) + 1)
def stu (u : Mem) (D T : Nat) (d : Int32) : Mem := up2 (up2 (up2 (up2 (up2 u 7 D d) 9 D (nI T)) 14 D d) 16 D (nI T)) 32 T (u 32 T + 1)
theorem Rel.start (h : Rel n T v u) {t f k : Nat} {d : Int32} (ht : t < 2) (hf : f < k) (hk : k ≤ 12) (hc : v (2 + 41 * t) 4 = nI k) (h5 : v (2 + 41 * t + 5 + f) 5 = 0) (hd : pm1 d) : Rel n T (stv v (2 + 41 * t + 5 + f) T d) (stu u (14 * t + 2 + f) T d) := by
  have hf12 : f < 12 := by omega
  unfold stv stu
  have E1 := h.E.put (phF t ht f hf12 0 (by decide)) (x := d) rfl
  have E2 := E1.put (phF t ht f hf12 2 (by decide)) (x := nI T) rfl
  have E3 := E2.put (phF t ht f hf12 8 (by decide)) (x := d) rfl
  have E4 := E3.putC (o := 1) (j := T % 10) (x := v 1 (T % 10) + 1) rfl
  have E5 := E4.putR (a := 16) (k := 14 * t + 2 + f) (x := nI T) (Or.inr (Or.inr (Or.inl rfl)))
  have E6 := E5.putR (a := 32) (k := T) (x := u 32 T + 1) (Or.inr (Or.inr (Or.inr rfl)))
  have I1 := h.I.put (o := 2 + 41 * t + 5 + f) (j := 0) (x := d) (by rw [okp_F ht hf12]; exact Or.inr hd)
  have I2 := I1.put (o := 2 + 41 * t + 5 + f) (j := 2) (x := nI T) (by rw [okp_F ht hf12]; exact ⟨T, Nat.le_refl _, rfl⟩)
  have I3 := I2.put (o := 2 + 41 * t + 5 + f) (j := 8) (x := d) (by rw [okp_F ht hf12]; exact trivial)
  have I4 := I3.put (o := 1) (j := T % 10) (x := v 1 (T % 10) + 1) (by exact trivial)
  have gn : ∀ o j, o ≠ 1 → o ≠ 2 + 41 * t + 5 + f → up2 (up2 (up2 (up2 v (2 + 41 * t + 5 + f) 0 d) (2 + 41 * t + 5 + f) 2 (nI T)) (2 + 41 * t + 5 + f) 8 d) 1 (T % 10) (v 1 (T % 10) + 1) o j = v o j := fun o j h1 h2 => by rw [up2_n (Or.inl h1), up2_n (Or.inl h2), up2_n (Or.inl h2), up2_n (Or.inl h2)]
  have g1 : ∀ j, up2 (up2 (up2 (up2 v (2 + 41 * t + 5 + f) 0 d) (2 + 41 * t + 5 + f) 2 (nI T)) (2 + 41 * t + 5 + f) 8 d) 1 (T % 10) (v 1 (T % 10) + 1) 1 j = if j = T % 10 then v 1 (T % 10) + 1 else v 1 j := fun j => by
    by_cases e : j = T % 10
    · rw [if_pos e, e, up2_s]
    · rw [if_neg e, up2_n (Or.inr e), up2_n (Or.inl (by omega)), up2_n (Or.inl (by omega)), up2_n (Or.inl (by omega))]
  have gu32 : ∀ τ, up2 (up2 (up2 (up2 (up2 u 7 (14 * t + 2 + f) d) 9 (14 * t + 2 + f) (nI T)) 14 (14 * t + 2 + f) d) 16 (14 * t + 2 + f) (nI T)) 32 T (u 32 T + 1) 32 τ = if τ = T then u 32 T + 1 else u 32 τ := fun τ => by
    by_cases e : τ = T
    · rw [if_pos e, e, up2_s]
    · rw [if_neg e, up2_n (Or.inr e), up2_n (Or.inl (by decide)), up2_n (Or.inl (by decide)), up2_n (Or.inl (by decide)), up2_n (Or.inl (by decide))]
  refine ⟨h.1, E6, I4, fun t' ht' => ?_, fun t' ht' f' hf' => ?_, ?_⟩
  · unfold B1
    rw [gn _ _ (by omega) (by omega), gn _ _ (by omega) (by omega)]
    exact h.B ht'
  · by_cases e2 : t' = t ∧ f' = f
    · obtain ⟨rfl, rfl⟩ := e2
      have a0 : up2 (up2 (up2 (up2 v (2 + 41 * t' + 5 + f') 0 d) (2 + 41 * t' + 5 + f') 2 (nI T)) (2 + 41 * t' + 5 + f') 8 d) 1 (T % 10) (v 1 (T % 10) + 1) (2 + 41 * t' + 5 + f') 0 = d := by rw [up2_n (Or.inl (by omega)), up2_n (Or.inr (by decide)), up2_n (Or.inr (by decide)), up2_s]
      have a5 : up2 (up2 (up2 (up2 v (2 + 41 * t' + 5 + f') 0 d) (2 + 41 * t' + 5 + f') 2 (nI T)) (2 + 41 * t' + 5 + f') 8 d) 1 (T % 10) (v 1 (T % 10) + 1) (2 + 41 * t' + 5 + f') 5 = 0 := by rw [up2_n (Or.inl (by omega)), up2_n (Or.inr (by decide)), up2_n (Or.inr (by decide)), up2_n (Or.inr (by decide))]; exact h5
      refine ⟨fun q => absurd a5 q, fun k' hk' h12 hle => ?_, fun _ => ?_, fun q => absurd (a0.symm.trans q) (pm1_ne hd)⟩
      · rw [gn _ _ (by omega) (by omega), hc] at hk'
        have := (nI_eq (a := k) (b := k') (by omega) (by omega)).mp hk'
        omega
      · rw [up2_n (Or.inl (by decide)), up2_s, up2_n (Or.inl (by omega)), up2_n (Or.inr (by decide)), up2_s]
    · have hne : 2 + 41 * t' + 5 + f' ≠ 2 + 41 * t + 5 + f := by omega
      have hne2 : 14 * t' + 2 + f' ≠ 14 * t + 2 + f := by omega
      have gu : ∀ a, a = 15 ∨ a = 16 → up2 (up2 (up2 (up2 (up2 u 7 (14 * t + 2 + f) d) 9 (14 * t + 2 + f) (nI T)) 14 (14 * t + 2 + f) d) 16 (14 * t + 2 + f) (nI T)) 32 T (u 32 T + 1) a (14 * t' + 2 + f') = u a (14 * t' + 2 + f') := fun a ha => by rw [up2_n (Or.inl (by omega)), up2_n (Or.inr hne2), up2_n (Or.inl (by omega)), up2_n (Or.inl (by omega)), up2_n (Or.inl (by omega))]
      have := h.F ht' hf'
      unfold fok at this ⊢
      rw [gn _ _ (by omega) hne, gn _ _ (by omega) hne, gn _ _ (by omega) hne, gn _ _ (by omega) hne, gn (2 + 41 * t') 4 (by omega) (by omega)]
      refine ⟨this.1, this.2.1, ?_, ?_⟩
      · have q := gu 16 (by omega); exact fun a => q.trans (this.2.2.1 a)
      · have q := gu 15 (by omega); exact fun a b => q.trans (this.2.2.2 a b)
  · refine ⟨fun τ a b => ?_, fun τ a => ?_, fun j a b => ?_⟩
    · rw [g1, gu32]
      by_cases e : τ = T
      · subst e
        rw [if_pos rfl, if_pos rfl, h.C.1 τ a b]
      · rw [if_neg (by omega), if_neg e]; exact h.C.1 τ a b
    · rw [gu32, if_neg (by omega)]; exact h.C.2.1 τ a
    · rw [g1, if_neg (by omega)]; exact h.C.2.2 j a b
theorem RF.start (hX : XF X) (hXC : XC X) (h : RF X c n T v u) {t f k : Nat} {d : Int32} (ht : t < 2) (hf : f < k) (hk : k ≤ 12) (hc : v (2 + 41 * t) 4 = nI k) (h5 : v (2 + 41 * t + 5 + f) 5 = 0) (hd : pm1 d) : RF X c n T (stv v (2 + 41 * t + 5 + f) T d) (stu u (14 * t + 2 + f) T d) := by
  have hf12 : f < 12 := by omega
  refine h.of (h.1.start ht hf hk hc h5 hd) ?_ ?_ ?_ ?_
  · unfold stu; rw [u00 (by decide), u00 (by decide), u00 (by decide), u00 (by decide), u00 (by decide)]
  · unfold stv; rw [up2_n (Or.inl (by decide)), up2_n (Or.inl (by omega)), up2_n (Or.inl (by omega)), up2_n (Or.inl (by omega))]
  · unfold stu; rw [up2_n (Or.inl (by decide)), up2_n (Or.inl (by decide)), up2_n (Or.inl (by decide)), up2_n (Or.inl (by decide)), up2_n (Or.inl (by decide))]
  · exact hXC _ _ _ (hX _ _ _ _ _ ht hf12 (hX _ _ _ _ _ ht hf12 (hX _ _ _ _ _ ht hf12 h.2.2.2.2)))
theorem sf4 (R : Rel n T v u) {t f : Nat} {d : Int32} (ht : t < 2) (hf : f < 12) (h0 : v (2 + 41 * t + 5 + f) 0 = 0) (hd : pm1 d) (hr : rst v t f T d = true) : fX4_startFan (2 + 41 * t + 5 + f) d v = some (stv v (2 + 41 * t + 5 + f) T d) := by
  have hT := R.T2
  have w6 := R.I.W6
  unfold fX4_startFan
  rw [w6, hr4 h0, bd_some, hr, if_neg (show ¬ bi true = 0 by decide)]
  unfold fX4_startFan_21 fX1_blow
  rw [w6, send4]
  simp only [Option.bind_some]
  have s : snd v (2 + 41 * t + 5 + f) d (nI T) = up2 (up2 v (2 + 41 * t + 5 + f) 0 d) (2 + 41 * t + 5 + f) 2 (nI T) := snd_ne (by rw [h0]; exact fun q => pm1_ne hd q.symm)
  rw [s]
  have e6 : (up2 (up2 (up2 v (2 + 41 * t + 5 + f) 0 d) (2 + 41 * t + 5 + f) 2 (nI T)) (2 + 41 * t + 5 + f) 8 d) 0 6 = nI T := by rw [up2_n (Or.inl (by omega)), up2_n (Or.inl (by omega)), up2_n (Or.inl (by omega)), w6]
  have e1 : (up2 (up2 (up2 v (2 + 41 * t + 5 + f) 0 d) (2 + 41 * t + 5 + f) 2 (nI T)) (2 + 41 * t + 5 + f) 8 d) 1 (T % 10) = v 1 (T % 10) := by rw [up2_n (Or.inl (by omega)), up2_n (Or.inl (by omega)), up2_n (Or.inl (by omega))]
  rw [e6, mod10 hT, gd_pos (inb_nI (by omega) (by decide)), gd_pos (inb_nI (by omega) (by decide)), nI_c (by omega), e1]
  rfl
theorem s195 (R : Rel n T v u) (h34 : u 0 34 = 0) {t f : Nat} {d : Int32} (ht : t < 2) (hf : f < 12) (h0 : v (2 + 41 * t + 5 + f) 0 = 0) (hd : pm1 d) (kb7 : Mem → Int32 → Option (Int32 × Mem)) : fX5_starting_195 kb7 (nI t) u d (nI (14 * t + 2 + f)) 0 = kb7 (stu u (14 * t + 2 + f) T d) d := by
  have hT := R.T2
  have w4 : u 0 4 = nI T := by rw [← R.E.W6, R.I.W6]
  have hix : inb (nI (14 * t + 2 + f)) 28 := inb_nI (by omega) (by decide)
  have hit : inb (nI T) 20001 := inb_nI (by omega) (by decide)
  unfold fX5_starting_195
  rw [gd_pos (Or.inl rfl), up2_same h34, send5 (by omega)]
  simp only [Option.bind_some, gd_pos hix, nI_c (show 14 * t + 2 + f < 2 ^ 31 by omega)]
  have s : sndR u (14 * t + 2 + f) d = up2 (up2 u 7 (14 * t + 2 + f) d) 9 (14 * t + 2 + f) (nI T) := by
    unfold sndR
    rw [← R.E.F0 ht hf, h0, if_neg (fun q => pm1_ne hd q.symm), w4]
  rw [s]
  have e4 : (up2 (up2 (up2 u 7 (14 * t + 2 + f) d) 9 (14 * t + 2 + f) (nI T)) 14 (14 * t + 2 + f) d) 0 4 = nI T := by rw [up2_n (Or.inl (by decide)), up2_n (Or.inl (by decide)), up2_n (Or.inl (by decide)), w4]
  rw [e4]
  have e5 : (up2 (up2 (up2 (up2 u 7 (14 * t + 2 + f) d) 9 (14 * t + 2 + f) (nI T)) 14 (14 * t + 2 + f) d) 16 (14 * t + 2 + f) (nI T)) 0 4 = nI T := by rw [up2_n (Or.inl (by decide)), e4]
  have e6 : (up2 (up2 (up2 (up2 u 7 (14 * t + 2 + f) d) 9 (14 * t + 2 + f) (nI T)) 14 (14 * t + 2 + f) d) 16 (14 * t + 2 + f) (nI T)) 32 T = u 32 T := by rw [up2_n (Or.inl (by decide)), up2_n (Or.inl (by decide)), up2_n (Or.inl (by decide)), up2_n (Or.inl (by decide))]
  rw [e5, gd_pos hit, gd_pos hit, nI_c (by omega), e6]
  rfl
theorem cn_same {g g' : Nat → Int32} {d : Int32} : ∀ {k}, (∀ j, j < k → (g j = d ↔ g' j = d)) → cn g d k = cn g' d k
  | 0, _ => rfl
  | k + 1, h => by
    show cn g d k + (if g k = d then 1 else 0) = cn g' d k + (if g' k = d then 1 else 0)
    rw [cn_same (fun j hj => h j (by omega))]
    by_cases e : g k = d
    · rw [if_pos e, if_pos ((h k (by omega)).mp e)]
    · rw [if_neg e, if_neg (fun q => e ((h k (by omega)).mpr q))]
theorem pm1_neg {d : Int32} (h : pm1 d) : d ≠ -d ∧ (0 : Int32) ≠ -d := by rcases h with rfl | rfl <;> decide
theorem ss_loop (hX : XF X) (hXC : XC X) {t k w : Nat} {d : Int32} (ht : t < 2) (hk : k ≤ 12) (hw : w ≤ 12) (hd : pm1 d) : ∀ r i m (v u : Mem), RF X 0 n T v u → v (2 + 41 * t) 4 = nI k → v (2 + 41 * t) 8 = d → v (2 + 41 * t) 9 = nI w → cnt v t (-d) k = 0 → cnt v t d k + r = w → i + r = m → m < 100 → ∀ f1 f2, r < f1 → r < f2 → ∃ b v' u', fX4_startFans_30 (2 + 41 * t) f1 v d (nI m) (nI i) = some (bi b, v') ∧ fX5_starting_7 (nI t) f2 u d = some (bi b, u') ∧ RF X 0 n T v' u' := by
  intro r
  induction r with
  | zero =>
    intro i m v u h hc h8 h9 hn0 hcn hi hm f1 f2 g1 g2
    obtain ⟨m1, rfl⟩ : ∃ m, f1 = m + 1 := ⟨f1 - 1, by omega⟩
    obtain ⟨m2, rfl⟩ : ∃ m, f2 = m + 1 := ⟨f2 - 1, by omega⟩
    have R := h.1
    have hin : inb (nI t) 2 := inb_nI ht (by decide)
    refine ⟨true, v, u, ?_, ?_, h⟩
    · rw [fX4_startFans_30, if_pos (nI_le (by omega) (by omega))]; rfl
    · rw [fX5_starting_7, bl5 R ht _ hk hc, bd_some, hn0, if_pos (by decide), bl5 R ht _ hk hc, bd_some, gd_pos hin, show u 31 (nI t).toNatClampNeg = nI w from by rw [nI_c (by omega), ← R.E.T9 ht, h9], if_pos (nI_le (by omega) (by have := cn_le (fun f => v (2 + 41 * t + 5 + f) 0) d k; unfold cnt; omega))]; rfl
  | succ r ih =>
    intro i m v u h hc h8 h9 hn0 hcn hi hm f1 f2 g1 g2
    obtain ⟨m1, rfl⟩ : ∃ m, f1 = m + 1 := ⟨f1 - 1, by omega⟩
    obtain ⟨m2, rfl⟩ : ∃ m, f2 = m + 1 := ⟨f2 - 1, by omega⟩
    have R := h.1
    have hin : inb (nI t) 2 := inb_nI ht (by decide)
    have w6 := R.I.W6
    have rr := rr4 (v := v) (T := T) hk hc
    rw [h8] at rr
    have loop := s51_loop R ht hk (d := d) (fun v l2 => fX5_starting_7 (nI t) m2 v l2) k (Nat.le_refl _) none (fun b hb => by cases hb) (1000 - k)
    rw [show 1000 - k + k = 1000 by omega, dn_up (geL_tot v t) (geL_tr v t), show oR t none = -1 from rfl] at loop
    have e5 : fX5_starting_7 (nI t) (m2 + 1) u d = fX5_starting_51 (fun v l2 => fX5_starting_7 (nI t) m2 v l2) (nI t) (1000 - k) u d (oR t (rdy v t T d k)) (nI (14 * t + 2) - 1) := by
      rw [fX5_starting_7, bl5 R ht _ hk hc, bd_some, hn0, if_pos (by decide), bl5 R ht _ hk hc, bd_some]
      simp only [gd_pos hin, nI_c (show t < 2 ^ 31 by omega)]
      rw [← R.E.T9 ht, h9, if_neg (nI_ge (by omega) (by omega)), ← R.E.T4 ht, hc, i14_f]
      exact loop
    rw [e5, fX4_startFans_30, if_neg (nI_ge (by omega) (by omega)), w6, rr, bd_some, show 1000 - k = 999 - k + 1 by omega, fX5_starting_51, i14_2, show nI (14 * t + 2) - 1 = nI (14 * t + 1) from nI_pred (14 * t + 1), if_pos (nI_lt (by omega) (by omega))]
    cases hg : rdy v t T d k with
    | none =>
      rw [if_pos (show oI none = -1 from rfl), if_neg (show ¬ 0 ≤ oR t none from (by decide : ¬ (0 : Int32) ≤ -1))]
      exact ⟨true, v, u, rfl, rfl, h⟩
    | some b =>
      obtain ⟨hb, hcb⟩ := up_lt hg
      have b12 : b < 12 := by omega
      unfold cR at hcb
      rw [Bool.and_eq_true, decide_eq_true_eq] at hcb
      obtain ⟨⟨c0, c5⟩, crst⟩ := hcb
      have hix : inb (nI (14 * t + 2 + b)) 28 := inb_nI (by omega) (by decide)
      rw [show oI (some b) = nI b from rfl, show oR t (some b) = nI (14 * t + 2 + b) from rfl, if_neg (fun z => nI_pos (n := b) (by omega) (by rw [z]; decide)), if_pos (nI_pos' (by omega)), ss5 R, bd_some]
      simp only [gd_pos (show inb (nI b) 12 from inb_nI b12 (by decide)), nI_c (show b < 2 ^ 31 by omega)]
      unfold fX4_mayStart fX4_mayStart_30
      rw [ss4, bd_some]
      by_cases s3 : 3 ≤ ss v
      · rw [if_pos s3, if_pos s3, bd_some, if_pos rfl]
        exact ⟨false, v, u, rfl, rfl, h⟩
      · rw [if_neg s3, if_neg s3, ld4 R, bd_some, ld5 R, bd_some, gd_pos hix, nI_c (by omega), ← R.E.F6 ht b12, ← R.E.W5]
        by_cases l3 : ld v + 3 * v (2 + 41 * t + 5 + b) 6 ≤ v 0 5
        · have l3' : ¬ v 0 5 < ld v + 3 * v (2 + 41 * t + 5 + b) 6 := by rw [i32_lt]; rw [i32_le] at l3; omega
          rw [if_neg l3', if_pos l3, bd_some, if_neg (by decide), h.2.2.2.1, if_pos rfl, hr5 R ht b12 c0, bd_some, crst, if_neg (show ¬ bi true = 0 by decide), sf4 R ht b12 c0 hd crst, s195 R h.2.2.2.1 ht b12 c0 hd]
          simp only [Option.bind_some, nI_1]
          have st := h.start hX hXC ht hb hk hc c5 hd
          have g : ∀ o j, o ≠ 1 → o ≠ 2 + 41 * t + 5 + b → (stv v (2 + 41 * t + 5 + b) T d) o j = v o j := fun o j a1 a2 => by unfold stv; rw [up2_n (Or.inl a1), up2_n (Or.inl a2), up2_n (Or.inl a2), up2_n (Or.inl a2)]
          have gb : (stv v (2 + 41 * t + 5 + b) T d) (2 + 41 * t + 5 + b) 0 = d := by unfold stv; rw [up2_n (Or.inl (by omega)), up2_n (Or.inr (by decide)), up2_n (Or.inr (by decide)), up2_s]
          refine ih (i + 1) m _ _ st (by rw [g _ _ (by omega) (by omega), hc]) (by rw [g _ _ (by omega) (by omega), h8]) (by rw [g _ _ (by omega) (by omega), h9]) ?_ ?_ (by omega) hm m1 m2 (by omega) (by omega)
          · rw [← hn0]
            refine cn_same (fun j hj => ?_)
            by_cases e : j = b
            · subst e
              show (stv v (2 + 41 * t + 5 + j) T d) (2 + 41 * t + 5 + j) 0 = -d ↔ v (2 + 41 * t + 5 + j) 0 = -d
              rw [gb, c0]
              exact ⟨fun q => absurd q (pm1_neg hd).1, fun q => absurd q (pm1_neg hd).2⟩
            · show (stv v (2 + 41 * t + 5 + b) T d) (2 + 41 * t + 5 + j) 0 = -d ↔ v (2 + 41 * t + 5 + j) 0 = -d
              rw [g _ _ (by omega) (by omega)]
          · have := cn_upd (g := fun f => (stv v (2 + 41 * t + 5 + b) T d) (2 + 41 * t + 5 + f) 0) (g' := fun f => v (2 + 41 * t + 5 + f) 0) (d := d) (b := b) gb (by show v (2 + 41 * t + 5 + b) 0 ≠ d; rw [c0]; exact fun q => pm1_ne hd q.symm) (fun j hj => (g _ _ (by omega) (by omega)).symm) k hb
            unfold cnt at hcn ⊢
            omega
        · have l3' : v 0 5 < ld v + 3 * v (2 + 41 * t + 5 + b) 6 := by rw [i32_lt]; rw [i32_le] at l3; omega
          rw [if_pos l3', if_neg l3, bd_some, if_pos rfl]
          exact ⟨false, v, u, rfl, rfl, h⟩
theorem p_start (hX : XF X) (hXC : XC X) {t : Nat} (ht : t < 2) (h : RF X 0 n T v u) : ∃ b v' u', fX4_startFans (2 + 41 * t) v = some (bi b, v') ∧ fX5_starting (nI t) u = some (bi b, u') ∧ RF X 0 n T v' u' := by
  have R := h.1
  obtain ⟨k, hk, hc⟩ := R.I.cnt ht
  obtain ⟨w, hw, h9⟩ := R.I.fan ht
  have hd := R.I.dir ht
  have hin : inb (nI t) 2 := inb_nI ht (by decide)
  have cl1 : cnt v t (-v (2 + 41 * t) 8) k ≤ k := cn_le _ _ _
  have cl2 : cnt v t (v (2 + 41 * t) 8) k ≤ k := cn_le _ _ _
  have cb1 : fX3_countBlowing (2 + 41 * t) (-v (2 + 41 * t) 8) v = some (nI (cnt v t (-v (2 + 41 * t) 8) k), v) := cb4 _ hk hc
  have cb2 : fX3_countBlowing (2 + 41 * t) (v (2 + 41 * t) 8) v = some (nI (cnt v t (v (2 + 41 * t) 8) k), v) := cb4 _ hk hc
  unfold fX4_startFans fX5_starting
  rw [cb1, bd_some, cb2, bd_some, gd_pos hin, nI_c (by omega), ← R.E.T8 ht, h9]
  by_cases z : cnt v t (-v (2 + 41 * t) 8) k = 0
  · rw [z, if_pos (by decide)]
    rcases Nat.lt_or_ge (cnt v t (v (2 + 41 * t) 8) k) w with hlt | hge
    · rw [nI_sub (by omega)]
      exact ss_loop hX hXC ht hk hw hd (w - cnt v t (v (2 + 41 * t) 8) k) 0 (w - cnt v t (v (2 + 41 * t) 8) k) v u h hc rfl h9 z (by omega) (by omega) (by omega) 1000 1000 (by omega) (by omega)
    · refine ⟨true, v, u, ?_, ?_, h⟩
      · rw [show (1000 : Nat) = 999 + 1 from rfl, fX4_startFans_30, if_pos]
        · rfl
        · rw [i32_le, Int32.toInt_sub, nI_toInt (by omega), nI_toInt (by omega), Int.bmod_eq_of_le (by omega) (by omega)]
          show _ ≤ (0 : Int)
          omega
      · rw [show (1000 : Nat) = 999 + 1 from rfl, fX5_starting_7, bl5 R ht _ hk hc, bd_some, z, if_pos (by decide), bl5 R ht _ hk hc, bd_some, gd_pos hin, show u 31 (nI t).toNatClampNeg = nI w from by rw [nI_c (by omega), ← R.E.T9 ht, h9], if_pos (nI_le hge (by omega))]; rfl
  · rw [if_neg (nI_nle (by omega) (by omega))]
    refine ⟨true, v, u, rfl, ?_, h⟩
    rw [show (1000 : Nat) = 999 + 1 from rfl, fX5_starting_7, bl5 R ht _ hk hc, bd_some, if_neg (nI_ne0 (by omega) (by omega))]; rfl
end ST
