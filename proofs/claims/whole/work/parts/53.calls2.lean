theorem goes_bad (p2 : Int32) (u : Mem) : fX5_goes 0 p2 u = some (0, up2 u 0 0 1) := by
  unfold fX5_goes fX5_goes_18
  rw [if_pos rfl, up2_s, if_neg (by decide)]
theorem goes_ise (u : Mem) : fX5_goes 1 0 u = some (0, up2 u 0 0 2) := by
  unfold fX5_goes fX5_goes_18
  rw [if_neg (by decide), if_pos rfl, up2_s, if_neg (by decide)]
theorem goes_ok (u : Mem) : fX5_goes 1 1 u = some (1, up2 u 0 0 0) := by
  unfold fX5_goes fX5_goes_18
  rw [if_neg (by decide), if_neg (by decide), up2_s, if_pos rfl]
def dirOf (p : Int32) : Int32 := if 0 ≤ p then 1 else -1
theorem dirOf_pm (p : Int32) : pm1 (dirOf p) := by
  unfold dirOf pm1
  by_cases h : 0 ≤ p
  · rw [if_pos h]; exact Or.inl rfl
  · rw [if_neg h]; exact Or.inr rfl
theorem dir4 (p : Int32) (v : Mem) : fX4_directionOf p v = some (dirOf p, v) := by
  unfold fX4_directionOf dirOf
  by_cases h : 0 ≤ p
  · rw [if_pos h, if_pos h]
  · rw [if_neg h, if_neg h]
theorem dir5 (p : Int32) (v : Mem) : fX5_turnOf p v = some (dirOf p, v) := by
  unfold fX5_turnOf dirOf
  by_cases h : 0 ≤ p
  · rw [if_pos h, if_pos h]
  · rw [if_neg h, if_neg h]
theorem nar1 : vp_nar .boolean 1 = 1 := nar_bo (Or.inr rfl)
theorem nar0 : vp_nar .boolean 0 = 0 := nar_bo (Or.inl rfl)
section CB
variable {n T : Nat} {v u : Mem}
theorem s48 {t s : Nat} (ht : t < 2) (hs : s < n) (hn : n ≤ 24) : 24 * t + s < 48 := by omega
theorem c_limit (h : Rel n T v u) (p1 : Int32) : AG n (fX4_limit p1 v) (fX5_limit p1 u) := by
  unfold fX4_limit fX5_limit fX5_limit_15
  rcases wtn p1 0 100000 v with ⟨w, w1, w2⟩ | ⟨w, w1⟩
  · rw [w, bd_some, need1, xd_l, if2_good w1 w2]
    unfold fX5_limit_16
    rw [up2_s, if_pos (show (0 : Int32) ≤ 0 by decide)]
    have hx : leT 100000 p1 := by
      obtain ⟨j, hj, rfl⟩ := nI_of2 (x := p1) (M := 100000) (n := 100000) rfl w1 (by simp only [i32_lt, i32_le] at *; omega)
      exact ⟨j, hj, rfl⟩
    have r := h.ok0.put (o := 0) (j := 5) (q := (0, 3)) (x := p1) rfl hx ⟨by decide, fun _ => by omega, fun _ => by omega⟩ rfl
    rw [show (up2 u 0 0 0) 0 3 = v 0 5 from h.ok0.E.W5.symm]
    exact AG.good r (by rw [up2_n (Or.inr (by decide)), up2_s])
  · rw [w, bd_some, need0, xd_r, if2_bad w1]
    unfold fX5_limit_16
    rw [up2_s, if_neg (by decide)]
    exact AG.bad h
theorem c_sense (h : Rel n T v u) (p1 p2 p3 : Int32) : AG n (fX4_sense n p1 p2 p3 v) (fX5_sense p1 p2 p3 u) := by
  unfold fX4_sense fX5_sense fX5_sense_24
  rcases sec_cases h p1 p2 with ⟨t, s, ht, hs, rfl, rfl, e1, e2⟩ | ⟨e1, e2⟩
  · have hn := h.n24
    rw [e1, e2, xd_l, bd_some, if_neg (by decide)]
    rcases wtn p3 0 100 v with ⟨w, w1, w2⟩ | ⟨w, w1⟩
    · rw [w, bd_some, need1, xd_l, tubeAt_ok ht, bd_some, gd_pos (inb_nI hs (by omega)), nI_c (by omega), if2_good w1 w2]
      unfold fX5_sense_25
      rw [up2_s, if_pos (show (0 : Int32) ≤ 0 by decide), i24, gd_pos (inb_nI (s48 ht hs hn) (by decide)), gd_pos (inb_nI (s48 ht hs hn) (by decide)), nI_c (by omega), show (up2 u 0 0 0) 17 (24 * t + s) = v (2 + 41 * t + 17 + s) 0 from (h.ok0.E.S0 ht (by omega)).symm]
      exact AG.good (h.ok0.sec (j := 0) ht hs (by decide) (okS h ht hs trivial)) (by rw [u00 (by decide), up2_s])
    · rw [w, bd_some, need0, xd_r, if2_bad w1]
      unfold fX5_sense_25
      rw [up2_s, if_neg (by decide)]
      exact AG.bad h
  · rw [e1, e2, xd_r, bd_some, if_pos rfl]
    unfold fX5_sense_25
    rw [up2_s, if_neg (by decide)]
    exact AG.bad h
theorem c_deafen (h : Rel n T v u) (p1 p2 p3 : Int32) (hp : bo p3) : AG n (fX4_deafen n p1 p2 p3 v) (fX5_deafen p1 p2 p3 u) := by
  unfold fX4_deafen fX5_deafen fX5_deafen_15
  rcases sec_cases h p1 p2 with ⟨t, s, ht, hs, rfl, rfl, e1, e2⟩ | ⟨e1, e2⟩
  · have hn := h.n24
    have hb := h.I.S1 ht (s := s) (by omega)
    rw [e1, e2, xd_l, bd_some, if_neg (by decide), tubeAt_ok ht, bd_some, gd_pos (inb_nI hs (by omega)), gd_pos hp, nI_c (by omega), gd_pos hb, up2_s, if_pos (show (0 : Int32) ≤ 0 by decide), i24, gd_pos (inb_nI (s48 ht hs hn) (by decide)), gd_pos (inb_nI (s48 ht hs hn) (by decide)), nI_c (by omega), show (up2 u 0 0 0) 18 (24 * t + s) = v (2 + 41 * t + 17 + s) 1 from (h.ok0.E.S1 ht (by omega)).symm, gd_pos hb, nar_bo hp]
    exact AG.good (h.ok0.sec (j := 1) ht hs (by decide) (okS h ht hs hp)) (by rw [u00 (by decide), up2_s])
  · rw [e1, e2, xd_r, bd_some, if_pos rfl, up2_s, if_neg (by decide)]
    exact AG.bad h
theorem c_pull (h : Rel n T v u) (p1 p2 : Int32) : AG n (fX4_pull n p1 p2 v) (fX5_pull p1 p2 u) := by
  unfold fX4_pull fX5_pull fX5_pull_15
  rcases sec_cases h p1 p2 with ⟨t, s, ht, hs, rfl, rfl, e1, e2⟩ | ⟨e1, e2⟩
  · have hn := h.n24
    have r := h.ok0.sec (j := 2) (x := 1) ht hs (by decide) (okS h ht hs trivial)
    have r0 : up2 (up2 u 0 0 0) 19 (24 * t + s) 1 0 0 = 0 := by rw [u00 (by decide), up2_s]
    rw [e1, e2, xd_l, bd_some, if_neg (by decide), tubeAt_ok ht, bd_some, gd_pos (inb_nI hs (by omega)), nI_c (by omega), up2_s, if_pos (show (0 : Int32) ≤ 0 by decide), i24, gd_pos (inb_nI (s48 ht hs hn) (by decide)), gd_pos (inb_nI (s48 ht hs hn) (by decide)), nI_c (by omega), show (up2 u 0 0 0) 19 (24 * t + s) = v (2 + 41 * t + 17 + s) 2 from (h.ok0.E.S2 ht (by omega)).symm, nar1]
    unfold fX4_pull_29
    by_cases hq : v (2 + 41 * t + 17 + s) 2 = 0
    · rw [if_pos hq, if_pos hq, gd_pos (Or.inr rfl)]
      exact AG.good r r0
    · rw [if_neg hq, if_neg hq, gd_pos (Or.inl rfl)]
      exact AG.good r r0
  · rw [e1, e2, xd_r, bd_some, if_pos rfl, up2_s, if_neg (by decide)]
    exact AG.bad h
theorem c_turn (h : Rel n T v u) (p1 p2 p3 : Int32) : AV n (fX4_turn n p1 p2 p3 v) (fX5_turn p1 p2 p3 u) := by
  unfold fX4_turn fX5_turn fX5_turn_19 fX4_turn_18
  have e6 : u 0 4 = v 0 6 := h.E.W6.symm
  rcases sec_cases h p1 p2 with ⟨t, s, ht, hs, rfl, rfl, e1, e2⟩ | ⟨e1, e2⟩
  · have hn := h.n24
    rw [e1, e2, xd_l, bd_some, e6]
    by_cases hq : v 0 6 = 0
    · rw [if_pos hq, if_pos hq, needS1, xd_l, tubeAt_ok ht, bd_some, gd_pos (inb_nI hs (by omega)), nI_c (by omega), dir4, bd_some, goes_ok, bd_some, if_neg (by decide), dir5, bd_some, i24, gd_pos (inb_nI (s48 ht hs hn) (by decide)), nI_c (by omega)]
      exact AV.good (h.ok0.sec (j := 6) ht hs (by decide) (okS h ht hs (dirOf_pm p3))) (by rw [u00 (by decide), up2_s])
    · rw [if_neg hq, if_neg hq, needS0, xd_r, goes_ise, bd_some, if_pos rfl]
      exact AV.ise h
  · rw [e1, e2, xd_r, bd_some, goes_bad, goes_bad, bd_some, if_pos rfl]
    rw [ite_self]
    exact AV.bad h
theorem plan_bad (h : Rel n T v u) (p1 p2 p3 p4 p5 p6 : Int32) : AV n (some (.inr "java/lang/IllegalArgumentException", v)) (fX5_plan_48 p1 p2 p3 p4 p5 p6 u) := by
  unfold fX5_plan_48 fX5_plan_49 fX5_plan_61
  rw [goes_bad, goes_bad, bd_some, if_pos rfl, ite_self]
  exact AV.bad h
theorem c_plan (h : Rel n T v u) (p1 p2 p3 p4 p5 p6 : Int32) : AV n (fX4_plan n p1 p2 p3 p4 p5 p6 v) (fX5_plan p1 p2 p3 p4 p5 p6 u) := by
  unfold fX4_plan fX5_plan fX4_plan_50
  have e6 : u 0 4 = v 0 6 := h.E.W6.symm
  rcases sec_cases h p1 p2 with ⟨t, s, ht, hs, rfl, rfl, e1, e2⟩ | ⟨e1, e2⟩
  · have hn := h.n24
    rw [e1, e2, xd_l, bd_some, if_neg (by decide)]
    rcases wtn p3 0 100 v with ⟨w, w1, w2⟩ | ⟨w, w1⟩
    · rw [w, bd_some, need1, xd_l, if_neg w1, if_neg w2]
      rcases wtn p5 0 12 v with ⟨w3, w4, w5⟩ | ⟨w3, w4⟩
      · rw [w3, bd_some, need1, xd_l, if_neg w4, if_neg w5]
        rcases wtn p6 0 12 v with ⟨w6, w7, w8⟩ | ⟨w6, w7⟩
        · rw [w6, bd_some, need1, xd_l, if_neg w7, if_neg w8]
          unfold fX5_plan_49 fX5_plan_61
          rw [e6]
          by_cases hq : v 0 6 = 0
          · rw [if_pos hq, if_pos hq, needS1, xd_l, tubeAt_ok ht, bd_some, gd_pos (inb_nI hs (by omega)), nI_c (by omega), dir4, bd_some, goes_ok, bd_some, if_neg (by decide), i24, gd_pos (inb_nI (s48 ht hs hn) (by decide)), dir5, bd_some, gd_pos (inb_nI (s48 ht hs hn) (by decide)), gd_pos (inb_nI (s48 ht hs hn) (by decide)), gd_pos (inb_nI (s48 ht hs hn) (by decide)), nI_c (by omega)]
            have r1 := h.ok0.sec (j := 3) (x := p3) ht hs (by decide) (okS h ht hs trivial)
            have r2 := r1.sec (j := 4) (x := dirOf p4) ht hs (by decide) (okS h ht hs (dirOf_pm p4))
            have r3 := r2.sec (j := 5) (x := p5) ht hs (by decide) (okS h ht hs (in12 w4 w5))
            have r4 := r3.sec (j := 7) (x := p6) ht hs (by decide) (okS h ht hs (in12 w7 w8))
            exact AV.good r4 (by rw [u00 (by decide), u00 (by decide), u00 (by decide), u00 (by decide), up2_s])
          · rw [if_neg hq, if_neg hq, needS0, xd_r, goes_ise, bd_some, if_pos rfl]
            exact AV.ise h
        · rw [w6, bd_some, need0, xd_r, if2_bad w7]
          exact plan_bad h _ _ _ _ _ _
      · rw [w3, bd_some, need0, xd_r, if2_bad w4]
        exact plan_bad h _ _ _ _ _ _
    · rw [w, bd_some, need0, xd_r, if2_bad w1]
      exact plan_bad h _ _ _ _ _ _
  · rw [e1, e2, xd_r, bd_some, if_pos rfl]
    exact plan_bad h _ _ _ _ _ _
theorem c_wish (h : Rel n T v u) (p1 p2 p3 : Int32) : AW n (fX4_wish p1 p2 p3 v) (fX5_wish p1 p2 p3 u) := by
  unfold fX4_wish fX5_wish fX5_wish_22 fX5_wish_23
  rcases tube_cases p1 with ⟨t, ht, rfl⟩ | hb
  · rw [needTube_ok ht, xd_l, isTube_ok ht, bd_some, if_neg (by decide)]
    rcases wtn p3 0 12 v with ⟨w, w1, w2⟩ | ⟨w, w1⟩
    · rw [w, bd_some, need1, xd_l, tubeAt_ok ht, bd_some, dir4, bd_some, if2_good w1 w2, up2_s, if_pos rfl, dir5, bd_some, gd_pos (inb_nI ht (by decide)), gd_pos (inb_nI ht (by decide)), nI_c (by omega)]
      have r1 := h.ok0.tub (j := 6) (x := dirOf p2) ht (by decide) (by decide) (by decide) (dirOf_pm p2)
      have r2 := r1.tub (j := 7) (x := p3) ht (by decide) (by decide) (by decide) (in12 w1 w2)
      exact AW.good r2 (by rw [u00 (by decide), u00 (by decide), up2_s])
    · rw [w, bd_some, need0, xd_r, if2_bad w1, up2_s, if_neg (by decide)]
      exact AW.bad h
  · rw [needTube_bad hb, xd_r, isTube_bad hb, bd_some, if_pos rfl, up2_s, if_neg (by decide)]
    exact AW.bad h
theorem c_order (h : Rel n T v u) (p1 p2 : Int32) (hp : bo p2) : AG n (fX4_order p1 p2 v) (fX5_order p1 p2 u) := by
  unfold fX4_order fX5_order fX5_order_13
  rcases tube_cases p1 with ⟨t, ht, rfl⟩ | hb
  · have hb := h.I.ord ht
    rw [needTube_ok ht, xd_l, isTube_ok ht, bd_some, if_neg (by decide), tubeAt_ok ht, bd_some, gd_pos hp, gd_pos hb, up2_s, if_pos (show (0 : Int32) ≤ 0 by decide), gd_pos (inb_nI ht (by decide)), gd_pos (inb_nI ht (by decide)), nI_c (by omega), show (up2 u 0 0 0) 27 t = v (2 + 41 * t) 5 from (h.ok0.E.T5 ht).symm, gd_pos hb, nar_bo hp]
    exact AG.good (h.ok0.tub (j := 5) ht (by decide) (by decide) (by decide) hp) (by rw [u00 (by decide), up2_s])
  · rw [needTube_bad hb, xd_r, isTube_bad hb, bd_some, if_pos rfl, up2_s, if_neg (by decide)]
    exact AG.bad h
theorem c_fail (h : Rel n T v u) (p1 p2 : Int32) : AG n (fX4_fail p1 p2 v) (fX5_fail p1 p2 u) := by
  unfold fX4_fail fX5_fail fX5_fail_15
  rcases dev_cases h p1 p2 with ⟨t, d, k, ht, hd, hk, e0, rfl, rfl, e1, e2⟩ | ⟨e1, e2⟩
  · have r := h.ok0.dev (x := 1) (j := 4) (d := d) ht (by omega) (by omega)
    have r0 : up2 (up2 u 0 0 0) 10 (14 * t + d) 1 0 0 = 0 := by rw [u00 (by decide), up2_s]
    have e := h.ok0.E _ _ _ (ph_dev t ht d (by omega) 4 (by omega))
    rw [e1, e2, xd_l, bd_some, if_neg (by decide), tubeAt_ok ht, bd_some, deviceAt_ok (by omega), bd_some, up2_s, if_pos (show (0 : Int32) ≤ 0 by decide), i14, gd_pos (inb_nI (by omega) (by decide)), gd_pos (inb_nI (by omega) (by decide)), nI_c (by omega), show (up2 u 0 0 0) 10 (14 * t + d) = v (5 + 41 * t + d) 4 from e.symm, nar1]
    unfold fX4_fail_28
    by_cases hq : v (5 + 41 * t + d) 4 = 0
    · rw [if_pos hq, if_pos hq, gd_pos (Or.inr rfl)]
      exact AG.good r r0
    · rw [if_neg hq, if_neg hq, gd_pos (Or.inl rfl)]
      exact AG.good r r0
  · rw [e1, e2, xd_r, bd_some, if_pos rfl, up2_s, if_neg (by decide)]
    exact AG.bad h
/-- out no more -/
theorem Rel.out0 {t d : Nat} (h : Rel n T v u) (ht : t < 2) (hd : d < 14) : Rel n T (up2 v (5 + 41 * t + d) 5 0) (up2 u 11 (14 * t + d) 0) := by
  have hq := ph_dev t ht d hd 5 (by omega)
  rcases Nat.lt_or_ge d 2 with hd2 | hd2
  · refine h.put hq ?_ ⟨by omega, fun _ => by omega, fun _ => by omega⟩ rfl
    rcases (show d = 0 ∨ d = 1 by omega) with rfl | rfl
    · rw [show 5 + 41 * t + 0 = 2 + 41 * t + 3 by omega, okp_D3 ht]; exact trivial
    · rw [show 5 + 41 * t + 1 = 2 + 41 * t + 4 by omega, okp_D4 ht]; exact trivial
  · obtain ⟨f, rfl⟩ : ∃ f, d = 2 + f := ⟨d - 2, by omega⟩
    rw [show 5 + 41 * t + (2 + f) = 2 + 41 * t + 5 + f by omega] at hq ⊢
    have hE := h.E.put hq (x := 0) rfl
    have hI := h.I.put (o := 2 + 41 * t + 5 + f) (j := 5) (x := 0) (by rw [okp_F ht (by omega)]; exact Or.inl rfl)
    refine ⟨h.1, hE, hI, fun t' ht' => ?_, fun t' ht' f' hf' => ?_, ?_⟩
    · unfold B1
      rw [up2_n (Or.inl (by omega)), up2_n (Or.inl (by omega))]
      exact h.B ht'
    · obtain ⟨a1, a2, a3, a4⟩ := h.F ht' hf'
      refine ⟨?_, ?_, ?_, ?_⟩
      · by_cases e : 2 + 41 * t' + 5 + f' = 2 + 41 * t + 5 + f
        · rw [e, up2_s]
          exact fun q => absurd rfl q
        · rw [up2_n (Or.inl e), up2_n (Or.inl e)]
          exact a1
      · rw [up2_n (Or.inr (by decide)), up2_n (Or.inr (by decide))]; exact a2
      · rw [up2_n (Or.inr (by decide)), up2_n (Or.inl (by decide)), up2_n (Or.inr (by decide))]; exact a3
      · rw [up2_n (Or.inr (by decide)), up2_n (Or.inr (by decide)), up2_n (Or.inl (by decide)), up2_n (Or.inr (by decide))]; exact a4
    · exact ⟨fun τ a b => by rw [up2_n (Or.inl (by omega)), up2_n (Or.inl (by decide))]; exact h.C.1 τ a b, fun τ a => by rw [up2_n (Or.inl (by decide))]; exact h.C.2.1 τ a, fun j a b => by rw [up2_n (Or.inl (by omega))]; exact h.C.2.2 j a b⟩
theorem c_mend (h : Rel n T v u) (p1 p2 : Int32) : AG n (fX4_mend p1 p2 v) (fX5_mend p1 p2 u) := by
  unfold fX4_mend fX5_mend fX5_mend_15
  rcases dev_cases h p1 p2 with ⟨t, d, k, ht, hd, hk, e0, rfl, rfl, e1, e2⟩ | ⟨e1, e2⟩
  · have r1 := h.ok0.dev (x := 0) (j := 4) (d := d) ht (by omega) (by omega)
    have r2 := r1.out0 (d := d) ht (by omega)
    have e7 := r2.E _ _ _ (ph_dev t ht d (by omega) 0 (by omega))
    have r3 := r2.dev (x := (up2 (up2 v (5 + 41 * t + d) 4 0) (5 + 41 * t + d) 5 0) (5 + 41 * t + d) 0) (j := 1) (d := d) ht (by omega) (by omega)
    have r0 : up2 (up2 (up2 (up2 u 0 0 0) 10 (14 * t + d) 0) 11 (14 * t + d) 0) 8 (14 * t + d) ((up2 (up2 v (5 + 41 * t + d) 4 0) (5 + 41 * t + d) 5 0) (5 + 41 * t + d) 0) 0 0 = 0 := by rw [u00 (by decide), u00 (by decide), u00 (by decide), up2_s]
    have e4 := h.ok0.E _ _ _ (ph_dev t ht d (by omega) 4 (by omega))
    have e5 := h.ok0.E _ _ _ (ph_dev t ht d (by omega) 5 (by omega))
    have g : ∀ s0, bo s0 → AG n (bd (fX0_repair_19 (5 + 41 * t + d) v s0) fun x12 v11 => gd (bo x12) (some (.inl x12, v11))) (fX5_mend_57 (nI t) (nI d) (up2 u 0 0 0) (nI (14 * t + d)) s0) := by
      intro s0 hs0
      unfold fX0_repair_19 fX5_mend_57
      rw [gd_pos hs0, bd_some, gd_pos hs0, gd_pos (inb_nI (by omega) (by decide)), gd_pos (inb_nI (by omega) (by decide)), gd_pos (inb_nI (by omega) (by decide)), gd_pos (inb_nI (by omega) (by decide)), gd_pos hs0, nI_c (by omega), nar0, show (up2 (up2 (up2 u 0 0 0) 10 (14 * t + d) 0) 11 (14 * t + d) 0) 7 (14 * t + d) = (up2 (up2 v (5 + 41 * t + d) 4 0) (5 + 41 * t + d) 5 0) (5 + 41 * t + d) 0 from e7.symm]
      exact AG.good r3 r0
    rw [e1, e2, xd_l, bd_some, if_neg (by decide), tubeAt_ok ht, bd_some, deviceAt_ok (by omega), bd_some, up2_s, if_pos (show (0 : Int32) ≤ 0 by decide), i14, gd_pos (inb_nI (by omega) (by decide)), gd_pos (inb_nI (by omega) (by decide)), nI_c (by omega), show (up2 u 0 0 0) 10 (14 * t + d) = v (5 + 41 * t + d) 4 from e4.symm, show (up2 u 0 0 0) 11 (14 * t + d) = v (5 + 41 * t + d) 5 from e5.symm]
    unfold fX0_repair
    by_cases hq : v (5 + 41 * t + d) 4 = 0
    · rw [if_pos hq, if_pos hq]
      by_cases hq2 : v (5 + 41 * t + d) 5 = 0
      · rw [if_pos hq2, if_pos hq2]; exact g 0 (Or.inl rfl)
      · rw [if_neg hq2, if_neg hq2]; exact g 1 (Or.inr rfl)
    · rw [if_neg hq, if_neg hq]; exact g 1 (Or.inr rfl)
  · rw [e1, e2, xd_r, bd_some, if_pos rfl, up2_s, if_neg (by decide)]
    exact AG.bad h
theorem c_confirm (h : Rel n T v u) (p1 : Int32) : AG n (fX4_confirm n p1 v) (fX5_confirm p1 u) := by
  unfold fX4_confirm fX5_confirm fX5_confirm_13
  rcases tube_cases p1 with ⟨t, ht, rfl⟩ | hb
  · have hn := h.n24
    rw [needTube_ok ht, xd_l, isTube_ok ht, bd_some, if_neg (by decide), tubeAt_ok ht, bd_some, up2_s, if_neg (by decide), gd_pos (inb_nI ht (by decide)), gd_pos (inb_nI ht (by decide)), nI_c (by omega), show (up2 u 0 0 0) 25 t = v (2 + 41 * t) 10 from (h.ok0.E.T10 ht).symm, show (up2 u 0 0 0) 26 t = v (2 + 41 * t) 11 from (h.ok0.E.T11 ht).symm]
    unfold fX3_pullWhereSuspected
    by_cases hq : v (2 + 41 * t) 10 = 1
    · obtain ⟨s, hs, es⟩ := h.B ht (by rw [hq]; decide)
      rw [if_pos hq, if_pos hq, es, if_neg (fun q => by have := nI_pos (n := s) (by omega); rw [q] at this; exact this (by decide)), gd_pos (inb_nI hs (by omega)), nI_c (by omega), bd_some, gd_pos (Or.inr rfl), i24, gd_pos (inb_nI (s48 ht hs hn) (by decide)), nI_c (by omega), nar1]
      exact AG.good (h.ok0.sec (j := 2) (x := 1) ht hs (by decide) (okS h ht hs trivial)) (by rw [u00 (by decide), up2_s])
    · rw [if_neg hq, if_neg hq, bd_some, gd_pos (Or.inl rfl)]
      exact AG.good h.ok0 (up2_s _ _ _ _)
  · rw [needTube_bad hb, xd_r, isTube_bad hb, bd_some, if_pos rfl, up2_s, if_pos (by decide)]
    exact AG.bad h
end CB
