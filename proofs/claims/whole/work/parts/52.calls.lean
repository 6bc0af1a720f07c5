/-! calls: both answer alike -/
def AG2 (n : Nat) (A : Option ((Int32 ⊕ String) × Mem)) (B : Option (Int32 × Mem)) : Prop := ∃ T v' u' r y, A = some (r, v') ∧ B = some (y, u') ∧ Rel n T v' u' ∧ ((r = .inl y ∧ u' 0 0 = 0) ∨ (r = .inr IAE ∧ u' 0 0 = 1) ∨ (r = .inr ISE ∧ u' 0 0 = 2))
def AG (n : Nat) (A : Option ((Int32 ⊕ String) × Mem)) (B : Option (Int32 × Mem)) : Prop := ∃ T v' u' r y, A = some (r, v') ∧ B = some (y, u') ∧ Rel n T v' u' ∧ ((r = .inl y ∧ u' 0 0 = 0) ∨ (r = .inr IAE ∧ u' 0 0 = 1))
def AW (n : Nat) (A : Option ((Unit ⊕ String) × Mem)) (B : Option Mem) : Prop := ∃ T v' u' r, A = some (r, v') ∧ B = some u' ∧ Rel n T v' u' ∧ ((r = .inl () ∧ u' 0 0 = 0) ∨ (r = .inr IAE ∧ u' 0 0 = 1))
def AV (n : Nat) (A : Option ((Unit ⊕ String) × Mem)) (B : Option Mem) : Prop := ∃ T v' u' r, A = some (r, v') ∧ B = some u' ∧ Rel n T v' u' ∧ ((r = .inl () ∧ u' 0 0 = 0) ∨ (r = .inr IAE ∧ u' 0 0 = 1) ∨ (r = .inr ISE ∧ u' 0 0 = 2))
section AGS
variable {n T : Nat} {v u : Mem}
theorem AG.good {y : Int32} (h : Rel n T v u) (h0 : u 0 0 = 0) : AG n (some (.inl y, v)) (some (y, u)) := ⟨T, v, u, _, y, rfl, rfl, h, Or.inl ⟨rfl, h0⟩⟩
theorem AG.bad {y : Int32} (h : Rel n T v u) : AG n (some (.inr "java/lang/IllegalArgumentException", v)) (some (y, up2 u 0 0 1)) := ⟨T, v, _, _, y, rfl, rfl, h.putR (Or.inl rfl), Or.inr ⟨rfl, up2_s _ _ _ _⟩⟩
theorem AG2.good {y : Int32} (h : Rel n T v u) (h0 : u 0 0 = 0) : AG2 n (some (.inl y, v)) (some (y, u)) := ⟨T, v, u, _, y, rfl, rfl, h, Or.inl ⟨rfl, h0⟩⟩
theorem AG2.bad {y : Int32} (h : Rel n T v u) : AG2 n (some (.inr "java/lang/IllegalArgumentException", v)) (some (y, up2 u 0 0 1)) := ⟨T, v, _, _, y, rfl, rfl, h.putR (Or.inl rfl), Or.inr (Or.inl ⟨rfl, up2_s _ _ _ _⟩)⟩
theorem AG2.ise {y : Int32} (h : Rel n T v u) : AG2 n (some (.inr "java/lang/IllegalStateException", v)) (some (y, up2 u 0 0 2)) := ⟨T, v, _, _, y, rfl, rfl, h.putR (Or.inl rfl), Or.inr (Or.inr ⟨rfl, up2_s _ _ _ _⟩)⟩
theorem AW.good (h : Rel n T v u) (h0 : u 0 0 = 0) : AW n (some (.inl (), v)) (some u) := ⟨T, v, u, _, rfl, rfl, h, Or.inl ⟨rfl, h0⟩⟩
theorem AW.bad (h : Rel n T v u) : AW n (some (.inr "java/lang/IllegalArgumentException", v)) (some (up2 u 0 0 1)) := ⟨T, v, _, _, rfl, rfl, h.putR (Or.inl rfl), Or.inr ⟨rfl, up2_s _ _ _ _⟩⟩
theorem AV.good (h : Rel n T v u) (h0 : u 0 0 = 0) : AV n (some (.inl (), v)) (some u) := ⟨T, v, u, _, rfl, rfl, h, Or.inl ⟨rfl, h0⟩⟩
theorem AV.bad (h : Rel n T v u) : AV n (some (.inr "java/lang/IllegalArgumentException", v)) (some (up2 u 0 0 1)) := ⟨T, v, _, _, rfl, rfl, h.putR (Or.inl rfl), Or.inr (Or.inl ⟨rfl, up2_s _ _ _ _⟩)⟩
theorem AV.ise (h : Rel n T v u) : AV n (some (.inr "java/lang/IllegalStateException", v)) (some (up2 u 0 0 2)) := ⟨T, v, _, _, rfl, rfl, h.putR (Or.inl rfl), Or.inr (Or.inr ⟨rfl, up2_s _ _ _ _⟩)⟩
theorem Rel.ok0 (h : Rel n T v u) : Rel n T v (up2 u 0 0 0) := h.putR (Or.inl rfl)
end AGS
theorem need1 (v : Mem) : fX4_need 1 v = some (.inl (), v) := rfl
theorem need0 (v : Mem) : fX4_need 0 v = some (.inr "java/lang/IllegalArgumentException", v) := rfl
theorem needS1 (v : Mem) : fX4_needState 1 v = some (.inl (), v) := rfl
theorem needS0 (v : Mem) : fX4_needState 0 v = some (.inr "java/lang/IllegalStateException", v) := rfl
theorem wtn (p lo hi : Int32) (v : Mem) : (fX4_isWithin p lo hi v = some (1, v) ∧ ¬ p < lo ∧ ¬ hi < p) ∨ (fX4_isWithin p lo hi v = some (0, v) ∧ (p < lo ∨ hi < p)) := by
  unfold fX4_isWithin fX4_isWithin_14
  by_cases h1 : p < lo
  · rw [if_pos h1]; exact Or.inr ⟨rfl, Or.inl h1⟩
  · rw [if_neg h1]
    by_cases h2 : hi < p
    · rw [if_pos h2]; exact Or.inr ⟨rfl, Or.inr h2⟩
    · rw [if_neg h2]; exact Or.inl ⟨rfl, h1, h2⟩
theorem if2_bad {α : Type} {p lo hi : Int32} {B G : α} (h : p < lo ∨ hi < p) : (if p < lo then B else if hi < p then B else G) = B := by
  by_cases h1 : p < lo
  · rw [if_pos h1]
  · rw [if_neg h1, if_pos (h.resolve_left h1)]
theorem if2_good {α : Type} {p lo hi : Int32} {B G : α} (h1 : ¬ p < lo) (h2 : ¬ hi < p) : (if p < lo then B else if hi < p then B else G) = G := by rw [if_neg h1, if_neg h2]
theorem needTube_ok {t : Nat} (ht : t < 2) (v : Mem) : fX4_needTube (nI t) v = some (.inl (), v) := by
  rcases (show t = 0 ∨ t = 1 by omega) with rfl | rfl <;> rfl
theorem needTube_bad {p : Int32} (hp : p < 0 ∨ 1 < p) (v : Mem) : fX4_needTube p v = some (.inr "java/lang/IllegalArgumentException", v) := by
  unfold fX4_needTube
  rcases wtn p 0 1 v with ⟨e, h1, h2⟩ | ⟨e, h⟩
  · exact absurd hp (fun q => q.elim h1 h2)
  · rw [e]; rfl
theorem isTube_ok {t : Nat} (ht : t < 2) (v : Mem) : fX5_isTube (nI t) v = some (1, v) := by
  rcases (show t = 0 ∨ t = 1 by omega) with rfl | rfl <;> rfl
theorem isTube_bad {p : Int32} (hp : p < 0 ∨ 1 < p) (v : Mem) : fX5_isTube p v = some (0, v) := by
  unfold fX5_isTube
  rw [if_neg, if_neg]
  · rintro rfl; revert hp; decide
  · rintro rfl; revert hp; decide
theorem tubeAt_ok {t : Nat} (ht : t < 2) (v : Mem) : fX4_tubeAt (nI t) v = some (2 + 41 * t, v) := by
  rcases (show t = 0 ∨ t = 1 by omega) with rfl | rfl <;> rfl
theorem tube_cases (p : Int32) : (∃ t, t < 2 ∧ p = nI t) ∨ (p < 0 ∨ 1 < p) := by
  by_cases h : p = 0 ∨ p = 1
  · exact Or.inl (tub h)
  · exact Or.inr (not_tub h)
/-- a number from 0 to below k -/
theorem range_cases (p : Int32) {k : Nat} (hk : k < 2 ^ 31) : (∃ s, s < k ∧ p = nI s) ∨ (p < 0 ∨ nI k ≤ p) := by
  by_cases h : p < 0
  · exact Or.inr (Or.inl h)
  · obtain ⟨j, hj, rfl⟩ := nI_of h
    by_cases h2 : j < k
    · exact Or.inl ⟨j, h2, rfl⟩
    · exact Or.inr (Or.inr (nI_le (by omega) hj))
theorem nI_m1 {n : Nat} (h : 0 < n) : nI n - 1 = nI (n - 1) := by
  obtain ⟨m, rfl⟩ : ∃ m, n = m + 1 := ⟨n - 1, by omega⟩
  rw [nI_pred]; rfl
section CA
variable {n T : Nat} {v u : Mem}
theorem sec_cases (h : Rel n T v u) (p1 p2 : Int32) : (∃ t s, t < 2 ∧ s < n ∧ p1 = nI t ∧ p2 = nI s ∧ fX4_needSection p1 p2 v = some (.inl (), v) ∧ fX5_isSection p1 p2 u = some (1, u)) ∨ (fX4_needSection p1 p2 v = some (.inr "java/lang/IllegalArgumentException", v) ∧ fX5_isSection p1 p2 u = some (0, u)) := by
  have hn := h.n24
  have hn2 := h.n2
  have e0 : v 0 0 = nI n := h.I.W0
  have e1 : u 0 1 = nI n := by rw [← h.E.W0, e0]
  unfold fX4_needSection fX5_isSection
  rcases tube_cases p1 with ⟨t, ht, rfl⟩ | hb
  · rw [needTube_ok ht, isTube_ok ht, xd_l, bd_some, if_neg (by decide), e0, e1, nI_m1 (by omega)]
    rcases range_cases p2 (k := n) (by omega) with ⟨s, hs, rfl⟩ | hb2
    · left
      refine ⟨t, s, ht, hs, rfl, rfl, ?_, ?_⟩
      · rcases wtn (nI s) 0 (nI (n - 1)) v with ⟨e, h1, h2⟩ | ⟨e, hx⟩
        · rw [e]; rfl
        · exfalso
          rcases hx with hx | hx
          · exact nI_pos (by omega) hx
          · exact nI_nlt (a := n - 1) (b := s) (by omega) (by omega) hx
      · rw [if_neg (nI_pos (by omega)), if_neg (nI_ge (by omega) (by omega))]
    · right
      constructor
      · rcases wtn p2 0 (nI (n - 1)) v with ⟨e, h1, h2⟩ | ⟨e, hx⟩
        · exfalso
          rcases hb2 with hb2 | hb2
          · exact h1 hb2
          · apply h2
            simp only [i32_lt, i32_le, nI_toInt (show n - 1 < 2 ^ 31 by omega), nI_toInt (show n < 2 ^ 31 by omega)] at *
            omega
        · rw [e]; rfl
      · by_cases hx : p2 < 0
        · rw [if_pos hx]; rfl
        · rw [if_neg hx, if_pos (hb2.resolve_left hx)]; rfl
  · right
    rw [needTube_bad hb, isTube_bad hb]
    exact ⟨rfl, rfl⟩
theorem dev_cases (h : Rel n T v u) (p1 p2 : Int32) : (∃ t d k, t < 2 ∧ d < 2 + k ∧ k ≤ 12 ∧ v (2 + 41 * t) 4 = nI k ∧ p1 = nI t ∧ p2 = nI d ∧ fX4_needDevice p1 p2 v = some (.inl (), v) ∧ fX5_isDevice p1 p2 u = some (1, u)) ∨ (fX4_needDevice p1 p2 v = some (.inr "java/lang/IllegalArgumentException", v) ∧ fX5_isDevice p1 p2 u = some (0, u)) := by
  unfold fX4_needDevice fX5_isDevice
  rcases tube_cases p1 with ⟨t, ht, rfl⟩ | hb
  · obtain ⟨k, hk, e0⟩ := h.I.cnt ht
    have e1 : u 5 t = nI k := by rw [← h.E.T4 ht, e0]
    rw [needTube_ok ht, isTube_ok ht, xd_l, bd_some, if_neg (by decide), tubeAt_ok ht, bd_some, gd_pos (inb_nI ht (by decide)), nI_c (by omega), e0, e1, show (2 : Int32) + nI k = nI (2 + k) from nI_add 2 k, nI_m1 (by omega)]
    rcases range_cases p2 (k := 2 + k) (by omega) with ⟨s, hs, rfl⟩ | hb2
    · left
      refine ⟨t, s, k, ht, hs, hk, e0, rfl, rfl, ?_, ?_⟩
      · rcases wtn (nI s) 0 (nI (2 + k - 1)) v with ⟨e, h1, h2⟩ | ⟨e, hx⟩
        · rw [e]; rfl
        · exfalso
          rcases hx with hx | hx
          · exact nI_pos (by omega) hx
          · exact nI_nlt (a := 2 + k - 1) (b := s) (by omega) (by omega) hx
      · rw [if_neg (nI_pos (by omega)), if_neg (nI_ge (by omega) (by omega))]
    · right
      constructor
      · rcases wtn p2 0 (nI (2 + k - 1)) v with ⟨e, h1, h2⟩ | ⟨e, hx⟩
        · exfalso
          rcases hb2 with hb2 | hb2
          · exact h1 hb2
          · apply h2
            simp only [i32_lt, i32_le, nI_toInt (show 2 + k - 1 < 2 ^ 31 by omega), nI_toInt (show 2 + k < 2 ^ 31 by omega)] at *
            omega
        · rw [e]; rfl
      · by_cases hx : p2 < 0
        · rw [if_pos hx]; rfl
        · rw [if_neg hx, if_pos (hb2.resolve_left hx)]; rfl
  · right
    rw [needTube_bad hb, isTube_bad hb]
    exact ⟨rfl, rfl⟩
theorem deviceAt_ok {t d : Nat} (hd : d < 14) (v : Mem) : fX3_deviceAt (2 + 41 * t) (nI d) v = some (5 + 41 * t + d, v) := by
  unfold fX3_deviceAt
  by_cases h0 : d = 0
  · subst h0
    rw [if_pos (by decide), show 2 + 41 * t + 3 = 5 + 41 * t + 0 by omega]
  · by_cases h1 : d = 1
    · subst h1
      rw [if_neg (by decide), if_pos (by decide), show 2 + 41 * t + 4 = 5 + 41 * t + 1 by omega]
    · obtain ⟨f, rfl⟩ : ∃ f, d = 2 + f := ⟨d - 2, by omega⟩
      have e : nI (2 + f) - 2 = nI f := by
        rw [← nI_add 2 f, show nI 2 = 2 from rfl, Int32.add_comm, Int32.add_sub_cancel]
      rw [if_neg (nI_ne0 (by omega) (by omega)), if_neg (fun q => by have := (nI_eq (a := 2 + f) (b := 1) (by omega) (by decide)).mp q; omega), e, gd_pos (inb_nI (by omega) (by decide)), nI_c (by omega), show 2 + 41 * t + 5 + f = 5 + 41 * t + (2 + f) by omega]
theorem okp_dev {t d j : Nat} {x : Int32} (ht : t < 2) (hd : d < 14) (hj : j = 1 ∨ j = 3 ∨ j = 4) : okp n T (5 + 41 * t + d) j x := by
  rcases Nat.lt_or_ge d 2 with hd2 | hd2
  · rcases (show d = 0 ∨ d = 1 by omega) with rfl | rfl
    · rw [show 5 + 41 * t + 0 = 2 + 41 * t + 3 by omega, okp_D3 ht]
      rcases hj with rfl | rfl | rfl <;> exact trivial
    · rw [show 5 + 41 * t + 1 = 2 + 41 * t + 4 by omega, okp_D4 ht]
      rcases hj with rfl | rfl | rfl <;> exact trivial
  · obtain ⟨f, rfl⟩ : ∃ f, d = 2 + f := ⟨d - 2, by omega⟩
    rw [show 5 + 41 * t + (2 + f) = 2 + 41 * t + 5 + f by omega, okp_F ht (by omega)]
    rcases hj with rfl | rfl | rfl <;> exact trivial
theorem neu_dev {t d j : Nat} (ht : t < 2) (hj : j = 1 ∨ j = 3 ∨ j = 4 ∨ j = 6 ∨ j = 7) (hd : d < 14) : neu (5 + 41 * t + d) j := ⟨by omega, fun _ => by omega, fun _ => by omega⟩
theorem neu_sec {t s j : Nat} (ht : t < 2) (hs : s < 24) : neu (2 + 41 * t + 17 + s) j := ⟨by omega, fun _ => by omega, fun _ => by omega⟩
theorem neu_tub {t j : Nat} (ht : t < 2) (hj : j ≠ 4 ∧ j ≠ 10 ∧ j ≠ 11) : neu (2 + 41 * t) j := ⟨by omega, fun _ => hj, fun _ => by omega⟩
theorem Rel.dev {t d j : Nat} {x : Int32} (h : Rel n T v u) (ht : t < 2) (hd : d < 14) (hj : j = 1 ∨ j = 3 ∨ j = 4) : Rel n T (up2 v (5 + 41 * t + d) j x) (up2 u (da j) (14 * t + d) x) := h.put (ph_dev t ht d hd j (by omega)) (okp_dev ht hd hj) (neu_dev ht (by omega) hd) rfl
theorem Rel.sec {t s j : Nat} {x : Int32} (h : Rel n T v u) (ht : t < 2) (hs : s < n) (hj : j < 8) (hx : okp n T (2 + 41 * t + 17 + s) j x) : Rel n T (up2 v (2 + 41 * t + 17 + s) j x) (up2 u (17 + j) (24 * t + s) x) := h.put (phS t ht s (Nat.lt_of_lt_of_le hs h.n24) j hj) hx (neu_sec ht (Nat.lt_of_lt_of_le hs h.n24)) rfl
theorem Rel.tub {t j : Nat} {x : Int32} (h : Rel n T v u) (ht : t < 2) (hj : j < 12) (hj4 : 4 < j) (hj2 : j < 10) (hx : okq n T 0 j x) : Rel n T (up2 v (2 + 41 * t) j x) (up2 u (ta j) t x) := h.put (ph_tub t ht j hj (by omega)) (by rw [okp_T ht]; exact hx) (neu_tub ht (by omega)) rfl
theorem u00 {a k : Nat} {x : Int32} (ha : a ≠ 0) : up2 u a k x 0 0 = u 0 0 := up2_n (Or.inl (Ne.symm ha))
theorem okS {t s j : Nat} {x : Int32} (h : Rel n T v u) (ht : t < 2) (hs : s < n) (hx : if j = 1 then bo x else if j = 4 ∨ j = 6 then pm1 x else if j = 5 ∨ j = 7 then le12 x else True) : okp n T (2 + 41 * t + 17 + s) j x := by
  rw [okp_S ht (Nat.lt_of_lt_of_le hs h.n24)]; exact hx
theorem in12 {p : Int32} (h1 : ¬ p < 0) (h2 : ¬ 12 < p) : le12 p := by
  obtain ⟨j, hj, rfl⟩ := nI_of2 (x := p) (M := 12) (n := 12) rfl h1 (by simp only [i32_lt, i32_le] at *; omega)
  exact ⟨j, hj, rfl⟩
theorem c_lag (h : Rel n T v u) (p1 p2 p3 : Int32) : AG n (fX4_lag p1 p2 p3 v) (fX5_lag p1 p2 p3 u) := by
  unfold fX4_lag fX5_lag fX5_lag_23
  rcases dev_cases h p1 p2 with ⟨t, d, k, ht, hd, hk, e0, rfl, rfl, e1, e2⟩ | ⟨e1, e2⟩
  · rw [e1, e2, xd_l, bd_some, if_neg (by decide)]
    rcases wtn p3 0 5 v with ⟨w, w1, w2⟩ | ⟨w, w1⟩
    · rw [w, bd_some, need1, xd_l, tubeAt_ok ht, bd_some, deviceAt_ok (by omega), bd_some, if2_good w1 w2]
      unfold fX5_lag_24
      rw [up2_s, if_pos (by decide), i14, gd_pos (inb_nI (by omega) (by decide)), gd_pos (inb_nI (by omega) (by decide)), nI_c (by omega)]
      have r := (h.ok0.dev (x := p3) (j := 3) (d := d) ht (by omega) (by omega))
      have e := h.ok0.E _ _ _ (ph_dev t ht d (by omega) 3 (by omega))
      rw [show (up2 u 0 0 0) 6 (14 * t + d) = v (5 + 41 * t + d) 3 from e.symm]
      exact AG.good r (by rw [u00 (by decide), up2_s])
    · rw [w, bd_some, need0, xd_r, if2_bad w1]
      unfold fX5_lag_24
      rw [up2_s, if_neg (by decide)]
      exact AG.bad h
  · rw [e1, e2, xd_r, bd_some, if_pos rfl]
    unfold fX5_lag_24
    rw [up2_s, if_neg (by decide)]
    exact AG.bad h
end CA
