theorem rest_id (a b c : Int32) : a - (b - c) = c + a - b := by
  apply Int32.toBitVec_inj.mp
  simp only [Int32.toBitVec_sub, Int32.toBitVec_add]
  apply BitVec.eq_of_toInt_eq
  simp only [BitVec.toInt_sub, BitVec.toInt_add]
  simp only [Int.sub_bmod_bmod, Int.bmod_sub_bmod, Int.bmod_add_bmod, Int.add_bmod_bmod]
  congr 1
  omega
theorem clamp0 (x : Int32) : (if x ≤ 0 then 0 else x) = (if 0 ≤ x then x else 0) := by
  by_cases h : x ≤ 0
  · rw [if_pos h]
    by_cases h2 : 0 ≤ x
    · rw [if_pos h2]
      simp only [i32_le, i32_eq] at *
      omega
    · rw [if_neg h2]
  · rw [if_neg h, if_pos]
    simp only [i32_le] at *
    omega
section CC
variable {n T : Nat} {v u : Mem}
theorem Rel.cnt1 {t k : Nat} (h : Rel n T v u) (ht : t < 2) (hk : k < 12) (e0 : v (2 + 41 * t) 4 = nI k) : Rel n T (up2 v (2 + 41 * t) 4 (nI (k + 1))) (up2 u 5 t (nI (k + 1))) := by
  refine ⟨h.1, h.E.put (ph_tub t ht 4 (by decide) (by decide)) rfl, h.I.put (by rw [okp_T ht]; exact ⟨k + 1, by omega, rfl⟩), fun t' ht' => ?_, fun t' ht' f' hf' => ?_, ?_⟩
  · unfold B1
    rw [up2_n (Or.inr (by decide)), up2_n (Or.inr (by decide))]
    exact h.B ht'
  · obtain ⟨a1, a2, a3, a4⟩ := h.F ht' hf'
    refine ⟨?_, ?_, ?_, ?_⟩
    · rw [up2_n (Or.inl (by omega)), up2_n (Or.inl (by omega))]; exact a1
    · rw [up2_n (a := 2 + 41 * t' + 5 + f') (Or.inl (by omega))]
      by_cases e : t' = t
      · subst e
        rw [up2_s]
        intro k' hk' h12 hkf
        have := (nI_eq (a := k + 1) (b := k') (by omega) (by omega)).mp hk'
        exact a2 k e0 (by omega) (by omega)
      · rw [up2_n (Or.inl (by omega))]; exact a2
    · rw [up2_n (Or.inl (by omega)), up2_n (Or.inl (by decide)), up2_n (Or.inl (by omega))]; exact a3
    · rw [up2_n (Or.inl (by omega)), up2_n (Or.inl (by omega)), up2_n (Or.inl (by decide)), up2_n (Or.inl (by omega))]; exact a4
  · exact ⟨fun τ a b => by rw [up2_n (Or.inl (by omega)), up2_n (Or.inl (by decide))]; exact h.C.1 τ a b, fun τ a => by rw [up2_n (Or.inl (by decide))]; exact h.C.2.1 τ a, fun j a b => by rw [up2_n (Or.inl (by omega))]; exact h.C.2.2 j a b⟩
theorem Rel.kw {t f : Nat} {x : Int32} (h : Rel n T v u) (ht : t < 2) (hf : f < 12) : Rel n T (up2 v (2 + 41 * t + 5 + f) 6 x) (up2 u 12 (14 * t + 2 + f) x) := h.put (phF t ht f hf 6 (by omega)) (by rw [okp_F ht hf]; exact trivial) ⟨by omega, fun _ => by omega, fun _ => by omega⟩ rfl
theorem Rel.run {t f : Nat} {x : Int32} (h : Rel n T v u) (ht : t < 2) (hf : f < 12) : Rel n T (up2 v (2 + 41 * t + 5 + f) 7 x) (up2 u 13 (14 * t + 2 + f) x) := h.put (phF t ht f hf 7 (by omega)) (by rw [okp_F ht hf]; exact trivial) ⟨by omega, fun _ => by omega, fun _ => by omega⟩ rfl
theorem c_fan (h : Rel n T v u) (p1 p2 : Int32) : AG2 n (fX4_fan p1 p2 v) (fX5_fan p1 p2 u) := by
  unfold fX4_fan fX5_fan fX5_fan_24 fX5_fan_25 fX5_fan_54
  have e6 : u 0 4 = v 0 6 := h.E.W6.symm
  rcases tube_cases p1 with ⟨t, ht, rfl⟩ | hb
  · obtain ⟨k, hk, e0⟩ := h.I.cnt ht
    have e1 : u 5 t = nI k := by rw [← h.E.T4 ht, e0]
    rw [needTube_ok ht, isTube_ok ht, xd_l, bd_some, if_neg (show ¬ (1 : Int32) = 0 by decide), isTube_ok ht, bd_some, bd_some, if_neg (show ¬ (1 : Int32) = 0 by decide), if_neg (show ¬ (1 : Int32) = 0 by decide), gd_pos (inb_nI ht (by decide)), gd_pos (inb_nI ht (by decide)), nI_c (by omega), e1, e6]
    rcases wtn p2 1 1000 v with ⟨w, w1, w2⟩ | ⟨w, w1⟩
    · rw [w, bd_some, need1, xd_l, tubeAt_ok ht, bd_some, if2_good w1 w2, e0]
      unfold fX4_fan_35
      by_cases h12 : 12 ≤ nI k
      · rw [if_pos h12, needS0, xd_r, if_pos h12]
        unfold fX5_fan_55
        rw [goes_ise, bd_some, if_pos rfl, ite_self]
        exact AG2.ise h
      · have hk2 : k < 12 := by
          rcases Nat.lt_or_ge k 12 with q | q
          · exact q
          · exact absurd (nI_le (a := 12) (b := k) q (by omega)) h12
        rw [if_neg h12, needS1, xd_l, if_neg h12]
        unfold fX4_fan_50
        by_cases hq : v 0 6 = 0
        · rw [if_pos hq, if_pos hq, needS1, xd_l]
          unfold fX5_fan_55 fX3_addFan
          have e1' : (up2 u 0 0 0) 5 t = nI k := by rw [up2_n (Or.inl (by decide)), e1]
          have e0' : (up2 v (2 + 41 * t + 5 + k) 6 p2) (2 + 41 * t) 4 = nI k := by rw [up2_n (Or.inl (by omega)), e0]
          have e1'' : (up2 (up2 u 0 0 0) 12 (14 * t + 2 + k) p2) 5 t = nI k := by rw [up2_n (Or.inl (by decide)), e1']
          have hidx : inb (14 * nI t + 2 + (up2 u 0 0 0) 5 (nI t).toNatClampNeg) 28 := by
            rw [nI_c (by omega), e1', i14_f]
            exact inb_nI (by omega) (by decide)
          rw [goes_ok, bd_some, if_neg (show ¬ (1 : Int32) = 0 by decide), e0, if_neg h12, gd_pos (inb_nI hk2 (by decide)), nI_c (by omega), e0', nI_1, bd_some, gd_pos (inb_nI ht (by decide)), gd_pos hidx, gd_pos (inb_nI ht (by decide)), gd_pos (inb_nI ht (by decide)), gd_pos (inb_nI ht (by decide)), nI_c (by omega), e1', i14_f, nI_c (by omega), e1'', nI_1, up2_s, nI_pred]
          exact AG2.good ((h.ok0.kw (x := p2) ht hk2).cnt1 ht hk2 e0') (by rw [u00 (by decide), u00 (by decide), up2_s])
        · rw [if_neg hq, if_neg hq, needS0, xd_r]
          unfold fX5_fan_55
          rw [goes_ise, bd_some, if_pos rfl]
          exact AG2.ise h
    · rw [w, bd_some, need0, xd_r, if2_bad w1]
      unfold fX5_fan_55
      simp only [goes_bad, bd_some, ↓reduceIte, ite_self]
      exact AG2.bad h
  · rw [needTube_bad hb, xd_r, isTube_bad hb, bd_some, if_pos rfl, isTube_bad hb, bd_some, if_pos rfl]
    unfold fX5_fan_55
    simp only [goes_bad, bd_some, ↓reduceIte, ite_self]
    exact AG2.bad h
theorem c_broken (h : Rel n T v u) : AG n ((fX4_broken v).map (fun q => (.inl q.1, q.2))) (fX5_broken u) := by
  unfold fX4_broken fX5_broken
  rw [show (up2 u 0 0 0) 0 33 = v 0 8 from h.ok0.E.W8.symm]
  exact AG.good h.ok0 (up2_s _ _ _ _)
theorem fan_at {t f : Nat} : 5 + 41 * t + (2 + f) = 2 + 41 * t + 5 + f := by omega
theorem c_device (h : Rel n T v u) (p1 p2 p3 : Int32) : AG n (fX4_device p1 p2 p3 v) (fX5_device p1 p2 p3 u) := by
  unfold fX4_device fX5_device fX5_device_23
  rcases dev_cases h p1 p2 with ⟨t, d, k, ht, hd, hk, e0, rfl, rfl, e1, e2⟩ | ⟨e1, e2⟩
  · rw [e1, e2, xd_l, bd_some, if_neg (by decide)]
    rcases wtn p3 0 5 v with ⟨w, w1, w2⟩ | ⟨w, w1⟩
    · rw [w, bd_some, need1, xd_l, if2_good w1 w2]
      obtain ⟨j, hj, rfl⟩ := nI_of2 (x := p3) (M := 5) (n := 5) rfl w1 (by simp only [i32_lt, i32_le] at *; omega)
      unfold fX5_device_24
      have E := h.ok0.E
      have hd14 : d < 14 := by omega
      have c0 := E _ _ _ (ph_dev t ht d hd14 0 (by omega))
      have c1 := E _ _ _ (ph_dev t ht d hd14 1 (by omega))
      have c2 := E _ _ _ (ph_dev t ht d hd14 2 (by omega))
      have c4 := E _ _ _ (ph_dev t ht d hd14 4 (by omega))
      have c5 := E _ _ _ (ph_dev t ht d hd14 5 (by omega))
      have g0 : AG n (some (.inl (v (5 + 41 * t + d) 0), v)) (some ((up2 u 0 0 0) 7 (14 * t + d), up2 u 0 0 0)) := by
        rw [show (up2 u 0 0 0) 7 (14 * t + d) = v (5 + 41 * t + d) 0 from c0.symm]; exact AG.good h.ok0 (up2_s _ _ _ _)
      have hin : inb (nI (14 * t + d)) 28 := inb_nI (by omega) (by decide)
      rw [up2_s, if_pos (show (0 : Int32) ≤ 0 by decide), i14, tubeAt_ok ht, bd_some, deviceAt_ok hd14, bd_some, bd_some]
      rcases (show j = 0 ∨ j = 1 ∨ j = 2 ∨ j = 3 ∨ j = 4 ∨ j = 5 by omega) with rfl | rfl | rfl | rfl | rfl | rfl
      · rw [if_pos (show nI 0 < 4 by decide), if_pos (show nI 0 = 0 by decide), if_pos (show nI 0 = 0 by decide), gd_pos hin, nI_c (by omega)]
        exact g0
      · rw [if_pos (show nI 1 < 4 by decide), if_neg (show ¬ nI 1 = 0 by decide), if_neg (show ¬ nI 1 = 0 by decide), if_pos (show nI 1 = 1 by decide), if_pos (show nI 1 = 1 by decide), gd_pos hin, nI_c (by omega), show (up2 u 0 0 0) 8 (14 * t + d) = v (5 + 41 * t + d) 1 from c1.symm]
        exact AG.good h.ok0 (up2_s _ _ _ _)
      · rw [if_pos (show nI 2 < 4 by decide), if_neg (show ¬ nI 2 = 0 by decide), if_neg (show ¬ nI 2 = 0 by decide), if_neg (show ¬ nI 2 = 1 by decide), if_neg (show ¬ nI 2 = 1 by decide), if_pos (show nI 2 = 2 by decide), if_pos (show nI 2 = 2 by decide), gd_pos hin, nI_c (by omega), show (up2 u 0 0 0) 9 (14 * t + d) = v (5 + 41 * t + d) 2 from c2.symm]
        exact AG.good h.ok0 (up2_s _ _ _ _)
      · rw [if_pos (show nI 3 < 4 by decide), if_neg (show ¬ nI 3 = 0 by decide), if_neg (show ¬ nI 3 = 0 by decide), if_neg (show ¬ nI 3 = 1 by decide), if_neg (show ¬ nI 3 = 1 by decide), if_neg (show ¬ nI 3 = 2 by decide), if_neg (show ¬ nI 3 = 2 by decide), if_pos (show nI 3 = 3 by decide), gd_pos hin, nI_c (by omega), show (up2 u 0 0 0) 10 (14 * t + d) = v (5 + 41 * t + d) 4 from c4.symm]
        have g : ∀ s0, AG n (fX4_device_115 (nI t) (nI d) (nI 3) v (5 + 41 * t + d) s0) (fX5_device_119 (nI t) (nI d) (nI 3) (up2 u 0 0 0) (nI (14 * t + d)) s0) := by
          intro s0
          unfold fX4_device_115 fX5_device_119
          rw [gd_pos hin, nI_c (by omega), show (up2 u 0 0 0) 11 (14 * t + d) = v (5 + 41 * t + d) 5 from c5.symm]
          by_cases hq : v (5 + 41 * t + d) 5 = 0
          · rw [if_pos hq, if_pos hq]; exact AG.good h.ok0 (up2_s _ _ _ _)
          · rw [if_neg hq, if_neg hq]; exact AG.good h.ok0 (up2_s _ _ _ _)
        by_cases hq : v (5 + 41 * t + d) 4 = 0
        · rw [if_pos hq, if_pos hq]; exact g 0
        · rw [if_neg hq, if_neg hq]; exact g 1
      · rw [if_neg (show ¬ nI 4 < 4 by decide), if_neg (show ¬ nI 4 = 0 by decide), if_neg (show ¬ nI 4 = 1 by decide), if_neg (show ¬ nI 4 = 2 by decide), if_neg (show ¬ nI 4 = 3 by decide), if_pos (show nI 4 = 4 by decide)]
        by_cases h2 : 2 ≤ nI d
        · obtain ⟨f, rfl⟩ : ∃ f, d = 2 + f := ⟨d - 2, by have := (nI_leI (a := 2) (b := d) (by decide) (by omega)).mp h2; omega⟩
          have e : nI (2 + f) - 2 = nI f := by
            rw [← nI_add 2 f, show nI 2 = 2 from rfl, Int32.add_comm, Int32.add_sub_cancel]
          unfold fX4_tellFan
          rw [if_pos h2, if_pos h2, e, gd_pos (inb_nI (by omega) (by decide)), nI_c (by omega), if_pos (show nI 4 = 4 by decide), bd_some, gd_pos hin, nI_c (by omega), show (up2 u 0 0 0) 13 (14 * t + (2 + f)) = v (2 + 41 * t + 5 + f) 7 from by rw [show 14 * t + (2 + f) = 14 * t + 2 + f by omega]; exact (E.F7 ht (by omega)).symm]
          exact AG.good h.ok0 (up2_s _ _ _ _)
        · rw [if_neg h2, if_neg h2]
          exact AG.good h.ok0 (up2_s _ _ _ _)
      · rw [if_neg (show ¬ nI 5 < 4 by decide), if_neg (show ¬ nI 5 = 0 by decide), if_neg (show ¬ nI 5 = 1 by decide), if_neg (show ¬ nI 5 = 2 by decide), if_neg (show ¬ nI 5 = 3 by decide), if_neg (show ¬ nI 5 = 4 by decide)]
        unfold fX5_device_168 fX5_device_213
        by_cases h2 : 2 ≤ nI d
        · obtain ⟨f, rfl⟩ : ∃ f, d = 2 + f := ⟨d - 2, by have := (nI_leI (a := 2) (b := d) (by decide) (by omega)).mp h2; omega⟩
          have e : nI (2 + f) - 2 = nI f := by
            rw [← nI_add 2 f, show nI 2 = 2 from rfl, Int32.add_comm, Int32.add_sub_cancel]
          have h3 : ¬ nI (2 + f) < 2 := by simp only [i32_lt, i32_le] at *; omega
          have hix : 14 * t + (2 + f) = 14 * t + 2 + f := by omega
          unfold fX4_tellFan fX1_restLeft
          rw [if_pos h2, if_neg h3, e, gd_pos (inb_nI (by omega) (by decide)), nI_c (by omega), if_neg (show ¬ nI 5 = 4 by decide), gd_pos hin, gd_pos hin, gd_pos hin, nI_c (by omega), hix, show (up2 u 0 0 0) 14 (14 * t + 2 + f) = v (2 + 41 * t + 5 + f) 8 from (E.F8 ht (by omega)).symm, show (up2 u 0 0 0) 7 (14 * t + 2 + f) = v (2 + 41 * t + 5 + f) 0 from (E.F0 ht (by omega)).symm, show (up2 u 0 0 0) 0 2 = v 0 1 from E.W1.symm, show (up2 u 0 0 0) 0 4 = v 0 6 from E.W6.symm]
          by_cases hl : v (2 + 41 * t + 5 + f) 8 = 0
          · rw [if_pos hl, if_pos hl, bd_some, if_pos h2]
            exact AG.good h.ok0 (up2_s _ _ _ _)
          · rw [if_neg hl, if_neg hl]
            by_cases hc : v (2 + 41 * t + 5 + f) 0 = 0
            · have hs : (up2 u 0 0 0) 15 (14 * t + 2 + f) = v (2 + 41 * t + 5 + f) 2 := (h.ok0.F ht (by omega)).2.2.2 hc hl
              have hg : ∀ x : Int32, AG n (bd (bd (if x ≤ 0 then some ((0 : Int32), v) else some (x, v)) fun x4 v3 => some (x4, v3)) fun x28 v27 => some (.inl x28, v27)) (if 0 ≤ x then some (x, up2 u 0 0 0) else some (0, up2 u 0 0 0)) := by
                intro x
                have hc0 := clamp0 x
                by_cases a : x ≤ 0
                · rw [if_pos a] at hc0 ⊢
                  by_cases b : 0 ≤ x
                  · rw [if_pos b] at hc0 ⊢
                    rw [← hc0]; exact AG.good h.ok0 (up2_s _ _ _ _)
                  · rw [if_neg b]; exact AG.good h.ok0 (up2_s _ _ _ _)
                · rw [if_neg a] at hc0 ⊢
                  rw [if_pos (by simp only [i32_le] at *; omega)]
                  exact AG.good h.ok0 (up2_s _ _ _ _)
              rw [if_pos hc, if_pos hc, hs, rest_id]
              exact hg _
            · obtain ⟨r, hr, er⟩ := h.I.W1
              rw [if_neg hc, if_neg hc, er, if_pos (nI_pos' (by omega)), bd_some]
              exact AG.good h.ok0 (up2_s _ _ _ _)
        · have h3 : nI d < 2 := by simp only [i32_lt, i32_le] at *; omega
          rw [if_neg h2, if_pos h3, if_neg h2]
          exact AG.good h.ok0 (up2_s _ _ _ _)
    · rw [w, bd_some, need0, xd_r, if2_bad w1]
      unfold fX5_device_24
      rw [up2_s, if_neg (by decide)]
      exact AG.bad h
  · rw [e1, e2, xd_r, bd_some, if_pos rfl]
    unfold fX5_device_24
    rw [up2_s, if_neg (by decide)]
    exact AG.bad h
end CC
