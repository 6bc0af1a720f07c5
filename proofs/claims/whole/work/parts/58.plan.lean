/-! inside a tick: Rel, no refusal, the mark of an unrested start, and what X keeps -/
def RF (X : Mem → Prop) (c : Int32) (n T : Nat) (v u : Mem) : Prop := Rel n T v u ∧ u 0 0 = 0 ∧ v 0 7 = c ∧ u 0 34 = c ∧ X v
theorem up2_comm {v : Mem} {a j b k : Nat} {x y : Int32} (h : a ≠ b ∨ j ≠ k) : up2 (up2 v a j x) b k y = up2 (up2 v b k y) a j x := by
  funext p q
  rw [up2_app, up2_app, up2_app, up2_app]
  by_cases h1 : p = b ∧ q = k
  · rw [if_pos h1, if_neg (fun h2 => by omega), if_pos h1]
  · rw [if_neg h1, if_neg h1]
theorem up2_self (v : Mem) (a j : Nat) : up2 v a j (v a j) = v := by
  funext p q
  rw [up2_app]
  by_cases h : p = a ∧ q = j
  · rw [if_pos h, h.1, h.2]
  · rw [if_neg h]
theorem up2_same {v : Mem} {a j : Nat} {x : Int32} (h : v a j = x) : up2 v a j x = v := by rw [← h, up2_self]
theorem RF.of {X : Mem → Prop} {c : Int32} {n T : Nat} {v u v' u' : Mem} (h : RF X c n T v u) (hR : Rel n T v' u') (e1 : u' 0 0 = u 0 0) (e2 : v' 0 7 = v 0 7) (e3 : u' 0 34 = u 0 34) (hX : X v') : RF X c n T v' u' := ⟨hR, e1.trans h.2.1, e2.trans h.2.2.1, e3.trans h.2.2.2.1, hX⟩
theorem j4 {n T : Nat} {v u : Mem} (h : Rel n T v u) {t : Nat} (ht : t < 2) {b : Nat} (hb : b < n) : fX5_judge_212 (nI t) u (nI b) = some (up2 (up2 u 25 t 2) 26 t (nI b)) := by
  unfold fX5_judge_212
  rw [gd_pos (inb_nI ht (by decide)), gd_pos (inb_nI ht (by decide)), nI_c (by omega)]
/-- X does not speak of a tube's own fields -/
def XT (X : Mem → Prop) : Prop := ∀ v t j x, t < 2 → X v → X (up2 v (2 + 41 * t) j x)
section PL
variable {X : Mem → Prop} {c : Int32} {n T : Nat} {v u : Mem}
theorem RF.st {t : Nat} {x y : Int32} (hX : XT X) (h : RF X c n T v u) (ht : t < 2) (hx : x = 0 ∨ x = 1 ∨ x = 2) (hy : y = -1 ∨ ∃ s, s < n ∧ y = nI s) (hxy : x ≠ 0 → ∃ s, s < n ∧ y = nI s) : RF X c n T (up2 (up2 v (2 + 41 * t) 10 x) (2 + 41 * t) 11 y) (up2 (up2 u 25 t x) 26 t y) :=
  h.of (h.1.st ht hx hy hxy) (by rw [u00 (by decide), u00 (by decide)]) (by rw [up2_n (Or.inl (by omega)), up2_n (Or.inl (by omega))]) (by rw [up2_n (Or.inl (by decide)), up2_n (Or.inl (by decide))]) (hX _ _ _ _ ht (hX _ _ _ _ ht h.2.2.2.2))
theorem p_judge (hX : XT X) (h : RF X c n T v u) {t : Nat} (ht : t < 2) : ∃ v' u', fX3_judgeFire n (2 + 41 * t) v = some v' ∧ fX5_judge (nI t) u = some u' ∧ RF X c n T v' u' := by
  have R := h.1
  have hn := R.n24
  have hn2 := R.n2
  have hin : inb (nI t) 2 := inb_nI ht (by decide)
  obtain ⟨fuel, e5⟩ := j5 R ht
  rw [e5, fX5_judge_39, ← R.E.W0, R.I.W0, if_pos (nI_le (Nat.le_refl _) (by omega))]
  unfold fX3_judgeFire
  rw [bc4 hn, bd_some]
  cases hb : bst n v t with
  | none =>
    rw [if_pos (show oI none = -1 from rfl), if_neg (show ¬ 0 ≤ oI none by decide), gd_pos hin, show u 25 (nI t).toNatClampNeg = v (2 + 41 * t) 10 from by rw [nI_c (by omega)]; exact (R.E.T10 ht).symm]
    unfold fX3_judgeSuspicion
    by_cases h2 : v (2 + 41 * t) 10 = 2
    · rw [if_pos h2, if_pos h2]
      exact ⟨v, u, rfl, rfl, h⟩
    · rw [if_neg h2, if_neg h2, lo4 hn, bd_some, lo5 R ht, bd_some, up2_s, up2_s, gd_pos hin, gd_pos hin]
      unfold fX3_judgeSuspicion_30
      have q := oI_neg (lst (onb v t) n) (lst_lt hn)
      cases hl : lst (onb v t) n with
      | none =>
        rw [if_pos (show oI none = -1 from rfl), if_neg (show ¬ 0 ≤ oI none by decide), gd_pos hin, nI_c (by omega), up2_comm (a := 2 + 41 * t) (j := 11) (b := 2 + 41 * t) (k := 10) (Or.inr (by decide)), up2_comm (a := 26) (b := 25) (Or.inl (by decide))]
        exact ⟨_, _, rfl, rfl, h.st hX ht (Or.inl rfl) (Or.inl rfl) (fun q => absurd rfl q)⟩
      | some s =>
        have hs := (lst_some hl).1
        rw [hl] at q
        rw [if_neg (fun z => by have := q.1.mp z; cases this), if_pos (q.2.2.mpr (by simp)), gd_pos hin, nI_c (by omega), up2_comm (a := 2 + 41 * t) (j := 11) (b := 2 + 41 * t) (k := 10) (Or.inr (by decide)), up2_comm (a := 26) (b := 25) (Or.inl (by decide))]
        exact ⟨_, _, rfl, rfl, h.st hX ht (Or.inr (Or.inl rfl)) (Or.inr ⟨s, hs, rfl⟩) (fun _ => ⟨s, hs, rfl⟩)⟩
  | some b =>
    have hbn : b < n := (up_lt hb).1
    have q := oI_neg (some b) (fun j hj => by cases hj; omega)
    rw [if_neg (fun z => by have := q.1.mp z; cases this), if_pos (q.2.2.mpr (by simp)), show oI (some b) = nI b from rfl, gd_pos (inb_nI hbn (by omega)), gd_pos hin]
    unfold fX3_judgeFire_41
    have set_ : RF X c n T (up2 (up2 v (2 + 41 * t) 10 2) (2 + 41 * t) 11 (nI b)) (up2 (up2 u 25 t 2) 26 t (nI b)) := h.st hX ht (Or.inr (Or.inr rfl)) (Or.inr ⟨b, hbn, rfl⟩) (fun _ => ⟨b, hbn, rfl⟩)
    rw [j4 R ht hbn, i24, gd_pos (inb_nI (s48 ht hbn hn) (by decide)), gd_pos hin, nI_c (k := t) (by omega), ← R.E.T10 ht, ← R.E.T11 ht]
    by_cases h2 : v (2 + 41 * t) 10 = 2
    · obtain ⟨s, hs, es⟩ := R.B ht (by rw [h2]; decide)
      unfold fX3_fireRank
      rw [if_pos h2, if_pos h2, es, if_neg (fun z => nI_pos (n := s) (by omega) (by rw [z]; decide)), gd_pos (inb_nI hs (by omega)), bd_some, i24, gd_pos (inb_nI (s48 ht hs hn) (by decide)), nI_c (by omega), nI_c (by omega), nI_c (by omega), nI_c (by omega), ← R.E.S3 ht (by omega), ← R.E.S3 ht (by omega)]
      by_cases hr : v (2 + 41 * t + 17 + b) 3 ≤ v (2 + 41 * t + 17 + s) 3
      · rw [if_pos hr, if_pos hr]; exact ⟨v, u, rfl, rfl, h⟩
      · rw [if_neg hr, if_neg hr]; exact ⟨_, _, rfl, rfl, set_⟩
    · rw [if_neg h2, if_neg h2]; exact ⟨_, _, rfl, rfl, set_⟩
/-- the tube that counts -/
theorem p_tube (R : Rel n T v u) : ∃ w, fX4_tubeThatCounts n v = some (oI w, v) ∧ fX5_burning u = some (oI w, u) ∧ ∀ t, w = some t → t < 2 ∧ v (2 + 41 * t) 10 = 2 := by
  have hn := R.n24
  have a0 : u 25 0 = v 2 10 := (R.E.T10 (t := 0) (by decide)).symm
  have a1 : u 25 1 = v 43 10 := (R.E.T10 (t := 1) (by decide)).symm
  have p0 : u 26 0 = v 2 11 := (R.E.T11 (t := 0) (by decide)).symm
  have p1 : u 26 1 = v 43 11 := (R.E.T11 (t := 1) (by decide)).symm
  have i0' : inb (0 : Int32) 2 := by decide
  have i1' : inb (1 : Int32) 2 := by decide
  unfold fX4_tubeThatCounts fX4_tubeThatCounts_16 fX4_tubeThatCounts_33 fX4_tubeThatCounts_65 fX5_burning fX5_burning_54
  rw [gd_pos i0', gd_pos i1', gd_pos i1', gd_pos i0', gd_pos i0', gd_pos i1', show (0 : Int32).toNatClampNeg = 0 from rfl, show (1 : Int32).toNatClampNeg = 1 from rfl, a0, a1, p0, p1]
  by_cases h0 : v 2 10 = 2
  · rw [if_pos h0, if_pos h0, if_pos h0]
    by_cases h1 : v 43 10 = 2
    · obtain ⟨s0, hs0, es0⟩ := R.B (t := 0) (by decide) (by show v 2 10 ≠ 0; rw [h0]; decide)
      obtain ⟨s1, hs1, es1⟩ := R.B (t := 1) (by decide) (by show v 43 10 ≠ 0; rw [h1]; decide)
      have es0 : v 2 11 = nI s0 := es0
      have es1 : v 43 11 = nI s1 := es1
      have r0 : u 20 s0 = v (2 + 17 + s0) 3 := by have := R.E.S3 (t := 0) (s := s0) (by decide) (by omega); rw [show 24 * 0 + s0 = s0 by omega] at this; exact this.symm
      have r1 : u 20 (24 + s1) = v (43 + 17 + s1) 3 := (R.E.S3 (t := 1) (s := s1) (by decide) (by omega)).symm
      rw [if_pos h1, if_pos h1, if_neg (by decide), if_neg (by decide)]
      unfold fX3_fireRank
      rw [es0, es1, if_neg (fun z => nI_pos (n := s1) (by omega) (by rw [z]; decide)), gd_pos (inb_nI hs1 (by omega)), bd_some, es0, if_neg (fun z => nI_pos (n := s0) (by omega) (by rw [z]; decide)), gd_pos (inb_nI hs0 (by omega)), bd_some, show (24 : Int32) + nI s1 = nI (24 + s1) from nI_add 24 s1, gd_pos (inb_nI (by omega) (by decide)), gd_pos (inb_nI (by omega) (by decide)), nI_c (by omega), nI_c (by omega), nI_c (by omega), r0, r1]
      by_cases hr : v (43 + 17 + s1) 3 ≤ v (2 + 17 + s0) 3
      · rw [if_pos hr, if_pos hr]
        exact ⟨some 0, rfl, rfl, fun t ht => by cases ht; exact ⟨by decide, h0⟩⟩
      · rw [if_neg hr, if_neg hr]
        exact ⟨some 1, rfl, rfl, fun t ht => by cases ht; exact ⟨by decide, h1⟩⟩
    · rw [if_neg h1, if_neg h1, if_neg (by decide), if_pos rfl, if_neg (by decide)]
      exact ⟨some 0, rfl, rfl, fun t ht => by cases ht; exact ⟨by decide, h0⟩⟩
  · rw [if_neg h0, if_neg h0, if_neg h0]
    by_cases h1 : v 43 10 = 2
    · rw [if_pos h1, if_pos h1, if_pos rfl, if_pos rfl, if_neg (by decide)]
      exact ⟨some 1, rfl, rfl, fun t ht => by cases ht; exact ⟨by decide, h1⟩⟩
    · rw [if_neg h1, if_neg h1, if_pos rfl, if_pos rfl, if_pos rfl]
      exact ⟨none, rfl, rfl, fun t ht => by cases ht⟩
theorem RF.wn {t : Nat} {d k : Int32} (hX : XT X) (h : RF X c n T v u) (ht : t < 2) (hd : pm1 d) (hk : le12 k) : RF X c n T (up2 (up2 v (2 + 41 * t) 8 d) (2 + 41 * t) 9 k) (up2 (up2 u 30 t d) 31 t k) :=
  h.of ((h.1.tub (j := 8) ht (by decide) (by decide) (by decide) hd).tub (j := 9) ht (by decide) (by decide) (by decide) hk) (by rw [u00 (by decide), u00 (by decide)]) (by rw [up2_n (Or.inl (by omega)), up2_n (Or.inl (by omega))]) (by rw [up2_n (Or.inl (by decide)), up2_n (Or.inl (by decide))]) (hX _ _ _ _ ht (hX _ _ _ _ ht h.2.2.2.2))
/-- what the reference wants for both tubes -/
theorem w5 {w d0 k0 d1 k1 : Int32} (a0 : ∀ kb, (fX5_want_26 kb w u 0 (if 0 ≤ w then 24 * w + u 26 w.toNatClampNeg else 0)) = kb (up2 (up2 u 30 0 d0) 31 0 k0) 1) (a1 : ∀ kb u', (∀ a k, a ≠ 30 → a ≠ 31 → u' a k = u a k) → (fX5_want_26 kb w u' 1 (if 0 ≤ w then 24 * w + u' 26 w.toNatClampNeg else 0)) = kb (up2 (up2 u' 30 1 d1) 31 1 k1) 2) (hw : 0 ≤ w → inb w 2) : fX5_want w u = some (up2 (up2 (up2 (up2 u 30 0 d0) 31 0 k0) 30 1 d1) 31 1 k1) := by
  have one : ∀ (fuel : Nat) (u' : Mem) (l : Int32), ¬ 2 ≤ l → fX5_want_2 w (fuel + 1) u' l = fX5_want_26 (fun v l2 => fX5_want_2 w fuel v l2) w u' l (if 0 ≤ w then 24 * w + u' 26 w.toNatClampNeg else 0) := by
    intro fuel u' l hl
    rw [fX5_want_2, if_neg hl]
    by_cases h : 0 ≤ w
    · rw [if_pos h, if_pos h, gd_pos (hw h)]
    · rw [if_neg h, if_neg h]
  unfold fX5_want
  rw [show (1000 : Nat) = 997 + 1 + 1 + 1 from rfl, one _ _ _ (by decide), a0, one _ _ _ (by decide), a1 _ _ (fun a k h1 h2 => by rw [up2_n (Or.inl h2), up2_n (Or.inl h1)]), fX5_want_2, if_pos (by decide)]
theorem w26_n {kb : Mem → Int32 → Option Mem} {u : Mem} {t : Nat} (ht : t < 2) : fX5_want_26 kb (-1) u (nI t) 0 = kb (up2 (up2 u 30 t (u 28 t)) 31 t (u 29 t)) (nI (t + 1)) := by
  unfold fX5_want_26 fX5_want_65
  have hin : inb (nI t) 2 := inb_nI ht (by decide)
  rw [if_neg (by decide), gd_pos hin, if_neg (by decide), gd_pos hin, gd_pos hin, gd_pos hin, nI_c (by omega), up2_n (Or.inl (by decide)), nI_1]
theorem w26_s {kb : Mem → Int32 → Option Mem} {u : Mem} {t tl s : Nat} (ht : t < 2) (htl : tl < 2) (hs : s < 24) : fX5_want_26 kb (nI tl) u (nI t) (nI (24 * tl + s)) = (if t = tl then kb (up2 (up2 u 30 t (u 21 (24 * tl + s))) 31 t (u 22 (24 * tl + s))) (nI (t + 1)) else kb (up2 (up2 u 30 t (u 23 (24 * tl + s))) 31 t (u 24 (24 * tl + s))) (nI (t + 1))) := by
  unfold fX5_want_26 fX5_want_65
  have hin : inb (nI t) 2 := inb_nI ht (by decide)
  have hix : inb (nI (24 * tl + s)) 48 := inb_nI (by omega) (by decide)
  simp only [if_pos (nI_pos' (n := tl) (by omega)), gd_pos hin, gd_pos hix, nI_c (show t < 2 ^ 31 by omega), nI_c (show 24 * tl + s < 2 ^ 31 by omega), nI_1]
  by_cases e : t = tl
  · rw [if_pos e, if_pos (by rw [e]), if_pos (by rw [e]), up2_n (Or.inl (by decide))]
  · rw [if_neg e, if_neg (fun q => e ((nI_eq (by omega) (by omega)).mp q)), if_neg (fun q => e ((nI_eq (by omega) (by omega)).mp q)), up2_n (Or.inl (by decide))]
theorem p_want (hX : XT X) (h : RF X c n T v u) {w : Option Nat} (hw : ∀ t, w = some t → t < 2 ∧ v (2 + 41 * t) 10 = 2) : ∃ v' u', fX4_wantFans n (if w = none then 0 else 1) (if w = some 1 then 43 else 2) (if w = some 1 then 2 else 43) v = some v' ∧ fX5_want (oI w) u = some u' ∧ RF X c n T v' u' := by
  have R := h.1
  have hn := R.n24
  cases w with
  | none =>
    rw [if_pos rfl, if_neg (by decide), if_neg (by decide)]
    have r1 := h.wn hX (t := 0) (by decide) (R.I.wdir (t := 0) (by decide)) (R.I.wfan (t := 0) (by decide))
    have r2 := r1.wn hX (t := 1) (by decide) (R.I.wdir (t := 1) (by decide)) (R.I.wfan (t := 1) (by decide))
    refine ⟨_, _, rfl, ?_, r2⟩
    refine w5 (w := -1) (fun kb => ?_) (fun kb u' hu' => ?_) (fun q => absurd q (by decide))
    · have := w26_n (kb := kb) (u := u) (t := 0) (by decide)
      rw [← R.E.T6 (t := 0) (by decide), ← R.E.T7 (t := 0) (by decide)] at this
      exact this
    · have := w26_n (kb := kb) (u := u') (t := 1) (by decide)
      rw [hu' 28 _ (by decide) (by decide), hu' 29 _ (by decide) (by decide), ← R.E.T6 (t := 1) (by decide), ← R.E.T7 (t := 1) (by decide)] at this
      exact this
  | some tl =>
    obtain ⟨htl, h2⟩ := hw tl rfl
    obtain ⟨s, hs, es⟩ := R.B htl (by rw [h2]; decide)
    have hs24 : s < 24 := by omega
    have hin : inb (nI tl) 2 := inb_nI htl (by decide)
    have up26 : u 26 tl = nI s := by rw [← R.E.T11 htl, es]
    have d4 := R.I.S4 htl hs24
    have d5 := R.I.S5 htl hs24
    have d6 := R.I.S6 htl hs24
    have d7 := R.I.S7 htl hs24
    have e4 := R.E.S4 htl hs24
    have e5 := R.E.S5 htl hs24
    have e6 := R.E.S6 htl hs24
    have e7 := R.E.S7 htl hs24
    have go : ∀ d0 k0 d1 k1 : Int32, (if (0 : Nat) = tl then (d0 = v (2 + 41 * tl + 17 + s) 4 ∧ k0 = v (2 + 41 * tl + 17 + s) 5) else (d0 = v (2 + 41 * tl + 17 + s) 6 ∧ k0 = v (2 + 41 * tl + 17 + s) 7)) → (if (1 : Nat) = tl then (d1 = v (2 + 41 * tl + 17 + s) 4 ∧ k1 = v (2 + 41 * tl + 17 + s) 5) else (d1 = v (2 + 41 * tl + 17 + s) 6 ∧ k1 = v (2 + 41 * tl + 17 + s) 7)) → fX5_want (nI tl) u = some (up2 (up2 (up2 (up2 u 30 0 d0) 31 0 k0) 30 1 d1) 31 1 k1) := by
      intro d0 k0 d1 k1 q0 q1
      refine w5 (fun kb => ?_) (fun kb u' hu' => ?_) (fun _ => hin)
      · rw [if_pos (nI_pos' (by omega)), nI_c (by omega), up26, i24]
        refine (w26_s (kb := kb) (u := u) (t := 0) (by decide) htl hs24).trans ?_
        rw [← e4, ← e5, ← e6, ← e7]
        by_cases e : 0 = tl
        · rw [if_pos e] at q0 ⊢; rw [q0.1, q0.2]; rfl
        · rw [if_neg e] at q0 ⊢; rw [q0.1, q0.2]; rfl
      · rw [if_pos (nI_pos' (by omega)), nI_c (by omega), hu' 26 _ (by decide) (by decide), up26, i24]
        refine (w26_s (kb := kb) (u := u') (t := 1) (by decide) htl hs24).trans ?_
        rw [hu' 21 _ (by decide) (by decide), hu' 22 _ (by decide) (by decide), hu' 23 _ (by decide) (by decide), hu' 24 _ (by decide) (by decide), ← e4, ← e5, ← e6, ← e7]
        by_cases e : 1 = tl
        · rw [if_pos e] at q1 ⊢; rw [q1.1, q1.2]; rfl
        · rw [if_neg e] at q1 ⊢; rw [q1.1, q1.2]; rfl
    rcases (show tl = 0 ∨ tl = 1 by omega) with rfl | rfl
    · rw [if_neg (by decide), if_neg (by decide), if_neg (by decide)]
      have r1 := h.wn hX (t := 0) (by decide) d4 d5
      have r2 := r1.wn hX (t := 1) (by decide) d6 d7
      refine ⟨_, _, ?_, go _ _ _ _ ⟨rfl, rfl⟩ ⟨rfl, rfl⟩, r2⟩
      unfold fX4_wantFans
      have es' : v 2 11 = nI s := es
      rw [if_neg (by decide), es', if_neg (fun z => nI_pos (n := s) (by omega) (by rw [z]; decide)), gd_pos (inb_nI hs (by omega)), nI_c (by omega)]
      unfold fX3_want
      simp only [Option.bind_some]
      rw [up2_n (a := 2 + 17 + s) (Or.inl (by omega)), up2_n (a := 2 + 17 + s) (Or.inl (by omega)), up2_n (a := 2 + 17 + s) (Or.inl (by omega)), up2_n (a := 2 + 17 + s) (Or.inl (by omega))]
    · rw [if_neg (by decide), if_pos rfl, if_pos rfl]
      have r1 := h.wn hX (t := 0) (by decide) d6 d7
      have r2 := r1.wn hX (t := 1) (by decide) d4 d5
      refine ⟨_, _, ?_, go _ _ _ _ ⟨rfl, rfl⟩ ⟨rfl, rfl⟩, r2⟩
      unfold fX4_wantFans
      have es' : v 43 11 = nI s := es
      rw [if_neg (by decide), es', if_neg (fun z => nI_pos (n := s) (by omega) (by rw [z]; decide)), gd_pos (inb_nI hs (by omega)), nI_c (by omega)]
      unfold fX3_want
      simp only [Option.bind_some]
      rw [up2_n (a := 43 + 17 + s) (Or.inl (by omega)), up2_n (a := 43 + 17 + s) (Or.inl (by omega)), up2_n (a := 43 + 17 + s) (Or.inl (by omega)), up2_n (a := 43 + 17 + s) (Or.inl (by omega))]
      congr 1
      show up2 (up2 (up2 (up2 v 43 8 (v (43 + 17 + s) 4)) 43 9 (v (43 + 17 + s) 5)) 2 8 (v (43 + 17 + s) 6)) 2 9 (v (43 + 17 + s) 7) = up2 (up2 (up2 (up2 v 2 8 (v (43 + 17 + s) 6)) 2 9 (v (43 + 17 + s) 7)) 43 8 (v (43 + 17 + s) 4)) 43 9 (v (43 + 17 + s) 5)
      rw [up2_comm (v := up2 v 43 8 (v (43 + 17 + s) 4)) (a := 43) (b := 2) (Or.inl (by decide)), up2_comm (v := v) (a := 43) (b := 2) (Or.inl (by decide)), up2_comm (a := 43) (b := 2) (Or.inl (by decide)), up2_comm (a := 43) (j := 8) (b := 2) (Or.inl (by decide))]
end PL
