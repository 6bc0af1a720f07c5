/-! one tick of both -/
section TK
variable {n T : Nat} {v u : Mem}
theorem t54_step (R : Rel n T v u) {t : Nat} (ht : t < 2) {w : Option Nat} (hw : ∀ j, w = some j → j < 2 ^ 31) (fuel : Nat) : fX5_tick_54 (fuel + 1) u (oI w) (nI t) = (fX5_calm (nI t) (bi (!w.isSome || hal v t T)) u).bind fun v32 => fX5_tick_54 fuel v32 (oI w) (nI (t + 1)) := by
  have q := oI_neg w hw
  rw [fX5_tick_54, if_neg (show ¬ (2 : Int32) ≤ nI t from nI_ge (a := t) (b := 2) ht (by decide)), ha5 R ht, bd_some]
  unfold fX5_tick_78
  rw [nI_1]
  cases w with
  | none => rw [if_pos (show oI none < 0 by decide)]; rfl
  | some j =>
    rw [if_neg (fun z => by have := q.2.1.mp z; cases this)]
    cases hal v t T with
    | false => rw [if_pos (show bi false = 0 from rfl)]; rfl
    | true => rw [if_neg (show ¬ bi true = 0 by decide)]; rfl
theorem p_tail (h : RF (NB T) 0 n T v u) {w : Option Nat} {tl tf : Nat} (hw : w = none ∧ tl = 0 ∧ tf = 1 ∨ w = some 0 ∧ tl = 0 ∧ tf = 1 ∨ w = some 1 ∧ tl = 1 ∧ tf = 0) : ∃ v' u', ((fX3_commandTraffic 2 (bi w.isSome) (v 0 6) v).bind fun v24 => (fX3_commandTraffic 43 (bi w.isSome) (v24 0 6) v24).bind fun v27 => (fX3_stopFans 2 (bi w.isSome) (v27 0 6) v27).bind fun v30 => (fX3_stopFans 43 (bi w.isSome) (v30 0 6) v30).bind fun v33 => (fX4_shedLoad (2 + 41 * tl) (2 + 41 * tf) v33).bind fun v36 => bd (fX4_startFans (2 + 41 * tl) v36) fun x40 v39 => if x40 = 0 then fX4_tick_192 n v39 else bd (fX4_startFans (2 + 41 * tf) v39) fun x44 v43 => fX4_tick_192 n v43) = some v' ∧ fX5_tick_49 u (oI w) (bi w.isSome) = some u' ∧ Rel n T v' u' ∧ u' 0 0 = 0 := by
  have hF := CO_F T
  have hC := CO_C T
  have htl : tl < 2 := by omega
  have htf : tf < 2 := by omega
  have hsum : tl + tf = 1 := by omega
  have hwb : ∀ j, w = some j → j < 2 ^ 31 := fun j hj => by
    rcases hw with ⟨rfl, _⟩ | ⟨rfl, _⟩ | ⟨rfl, _⟩ <;> cases hj <;> decide
  obtain ⟨v1, u1, a1, a2, a3, a4⟩ := p_traffic h w.isSome
  obtain ⟨v24, b1, b2⟩ := Option.bind_eq_some_iff.mp a1
  have w6 := h.1.I.W6
  have w24 : v24 0 6 = nI T := by
    have c0 := ct4 0 T w.isSome v
    have c0 : fX3_commandTraffic 2 (bi w.isSome) (nI T) v = _ := c0
    rw [c0] at b1
    have := Option.some.inj b1
    rw [← this, snd_n (by decide), snd_n (by decide)]
    exact w6
  obtain ⟨v2, u2, d1, d2, d3⟩ := p_stop hF (t := 0) (by decide) a3 w.isSome
  obtain ⟨v3, u3, e1, e2, e3⟩ := p_stop hF (t := 1) (by decide) d3 w.isSome
  obtain ⟨v4, u4, f1, f2, f3⟩ := p_shed hF htl htf hsum e3
  obtain ⟨b, v5, u5, g1, g2, g3⟩ := p_start hF hC htl f3
  have d1 : fX3_stopFans 2 (bi w.isSome) (nI T) v1 = some v2 := d1
  have e1 : fX3_stopFans 43 (bi w.isSome) (nI T) v2 = some v3 := e1
  have t0 := t54_step a3.1 (t := 0) (by decide) hwb 999
  have t1 := t54_step d3.1 (t := 1) (by decide) hwb 998
  -- the end of it
  have last : ∀ (v6 u6 : Mem), RF (CO T) 0 n T v6 u6 → ∃ v' u', fX4_tick_192 n v6 = some v' ∧ fX5_tick_128 u6 = some u' ∧ Rel n T v' u' ∧ u' 0 0 = 0 := by
    intro v6 u6 r6
    obtain ⟨v7, u7, h1, h2, h3⟩ := cr_tube hF (t := 0) (by decide) r6
    obtain ⟨v8, u8, i1, i2, i3⟩ := cr_tube hF (t := 1) (by decide) h3
    obtain ⟨v9, u9, k1, k2, k3, k4⟩ := p_look i3
    have h1 : fX3_countRun 2 v6 = some v7 := h1
    have i1 : fX3_countRun 43 v7 = some v8 := i1
    refine ⟨v9, u9, ?_, ?_, k3, k4⟩
    · unfold fX4_tick_192
      rw [h1]
      simp only [Option.bind_some]
      rw [i1]
      simp only [Option.bind_some]
      exact k1
    · unfold fX5_tick_128
      refine (show fX5_tick_130 (986 + 14) u6 (nI (14 * 0)) = _ from h2 986).trans ?_
      refine (show fX5_tick_130 (972 + 14) u7 (nI (14 * 1)) = _ from i2 972).trans ?_
      rw [show (972 : Nat) = 971 + 1 from rfl, fX5_tick_130, if_pos (by decide), k2]; rfl
  have ref : fX5_tick_49 u (oI w) (bi w.isSome) = (if bi b = 0 then fX5_tick_128 u5 else bd (fX5_starting (nI tf) u5) fun x40 v39 => fX5_tick_128 v39) := by
    unfold fX5_tick_49
    rw [a2]
    simp only [Option.bind_some]
    refine (show fX5_tick_54 (999 + 1) u1 (oI w) (nI 0) = _ from t0).trans ?_
    rw [d2]
    simp only [Option.bind_some]
    refine (show fX5_tick_54 (998 + 1) u2 (oI w) (nI (0 + 1)) = _ from t1).trans ?_
    rw [e2]
    simp only [Option.bind_some]
    rw [show (998 : Nat) = 997 + 1 from rfl, fX5_tick_54, if_pos (by decide)]
    unfold fX5_tick_99 fX5_tick_111
    have e1 : (1 : Int32) - nI tl = nI tf := by
      rcases (show tl = 0 ∧ tf = 1 ∨ tl = 1 ∧ tf = 0 by omega) with ⟨rfl, rfl⟩ | ⟨rfl, rfl⟩ <;> decide
    rcases hw with ⟨rfl, rfl, rfl⟩ | ⟨rfl, rfl, rfl⟩ | ⟨rfl, rfl, rfl⟩
    · have f2' : fX5_relieve 1 u3 = some u4 := f2
      have g2' : fX5_starting 0 u4 = some (bi b, u5) := g2
      rw [if_neg (show ¬ 0 ≤ oI none by decide), f2']
      simp only [Option.bind_some]
      rw [if_neg (show ¬ 0 ≤ oI none by decide), g2', bd_some, show (1 : Int32) - 0 = nI 1 by decide]
    · rw [if_pos (show 0 ≤ oI (some 0) by decide), show oI (some 0) = nI 0 from rfl, e1, f2]
      simp only [Option.bind_some]
      rw [if_pos (show 0 ≤ nI 0 by decide), g2, bd_some]
    · rw [if_pos (show 0 ≤ oI (some 1) by decide), show oI (some 1) = nI 1 from rfl, e1, f2]
      simp only [Option.bind_some]
      rw [if_pos (show 0 ≤ nI 1 by decide), g2, bd_some]
  have cls : ((fX3_commandTraffic 2 (bi w.isSome) (v 0 6) v).bind fun v24 => (fX3_commandTraffic 43 (bi w.isSome) (v24 0 6) v24).bind fun v27 => (fX3_stopFans 2 (bi w.isSome) (v27 0 6) v27).bind fun v30 => (fX3_stopFans 43 (bi w.isSome) (v30 0 6) v30).bind fun v33 => (fX4_shedLoad (2 + 41 * tl) (2 + 41 * tf) v33).bind fun v36 => bd (fX4_startFans (2 + 41 * tl) v36) fun x40 v39 => if x40 = 0 then fX4_tick_192 n v39 else bd (fX4_startFans (2 + 41 * tf) v39) fun x44 v43 => fX4_tick_192 n v43) = (if bi b = 0 then fX4_tick_192 n v5 else bd (fX4_startFans (2 + 41 * tf) v5) fun x44 v43 => fX4_tick_192 n v43) := by
    rw [w6, b1]
    simp only [Option.bind_some]
    rw [w24, b2]
    simp only [Option.bind_some]
    rw [a3.1.I.W6, d1]
    simp only [Option.bind_some]
    rw [d3.1.I.W6, e1]
    simp only [Option.bind_some]
    rw [f1]
    simp only [Option.bind_some]
    rw [g1, bd_some]
  rw [cls, ref]
  cases b with
  | false =>
    rw [if_pos (show bi false = 0 from rfl), if_pos (show bi false = 0 from rfl)]
    exact last v5 u5 g3
  | true =>
    rw [if_neg (show ¬ bi true = 0 by decide), if_neg (show ¬ bi true = 0 by decide)]
    obtain ⟨b2, v6, u6, m1, m2, m3⟩ := p_start hF hC htf g3
    rw [m1, bd_some, m2, bd_some]
    exact last v6 u6 m3
theorem p_tick (R : Rel n T v u) (h00 : u 0 0 = 0) (hT : T + 1 ≤ 20000) : ∃ v' u', fX4_tick n v = some v' ∧ fX5_tick u = some u' ∧ Rel n (T + 1) v' u' ∧ u' 0 0 = 0 := by
  obtain ⟨R1, hNB⟩ := R.next hT
  have e6 : v 0 6 + 1 = nI (T + 1) := by rw [R.I.W6, nI_1]
  have e4 : u 0 4 + 1 = nI (T + 1) := by rw [← R.E.W6, e6]
  have hin : inb (nI ((T + 1) % 10)) 10 := inb_nI (by omega) (by decide)
  generalize hva : up2 (up2 (up2 v 0 6 (nI (T + 1))) 1 ((T + 1) % 10) 0) 0 7 0 = va at R1 hNB
  generalize hua : up2 (up2 u 0 4 (nI (T + 1))) 0 34 0 = ua at R1
  have F0 : RF (NB (T + 1)) 0 n (T + 1) va ua := ⟨R1, by rw [← hua, up2_n (Or.inr (by decide)), up2_n (Or.inr (by decide))]; exact h00, by rw [← hva, up2_s], by rw [← hua, up2_s], hNB⟩
  obtain ⟨v2, u2, a1, a2, a3⟩ := p_settle (NB_F _) (NB_A _) F0
  obtain ⟨v1, b1, b2⟩ := Option.bind_eq_some_iff.mp a1
  obtain ⟨v3, u3, c1, c2, c3⟩ := p_judge (NB_T _) a3 (t := 0) (by decide)
  obtain ⟨v4, u4, d1, d2, d3⟩ := p_judge (NB_T _) c3 (t := 1) (by decide)
  obtain ⟨w, f1, f2, f3⟩ := p_tube d3.1
  obtain ⟨v5, u5, g1, g2, g3⟩ := p_want (NB_T _) d3 f3
  have c1 : fX3_judgeFire n 2 v2 = some v3 := c1
  have d1 : fX3_judgeFire n 43 v3 = some v4 := d1
  have c2 : fX5_judge 0 u2 = some u3 := c2
  have d2 : fX5_judge 1 u3 = some u4 := d2
  have hcases : ∃ tl tf, (w = none ∧ tl = 0 ∧ tf = 1 ∨ w = some 0 ∧ tl = 0 ∧ tf = 1 ∨ w = some 1 ∧ tl = 1 ∧ tf = 0) := by
    cases w with
    | none => exact ⟨0, 1, Or.inl ⟨rfl, rfl, rfl⟩⟩
    | some t =>
      have := (f3 t rfl).1
      rcases (show t = 0 ∨ t = 1 by omega) with rfl | rfl
      · exact ⟨0, 1, Or.inr (Or.inl ⟨rfl, rfl, rfl⟩)⟩
      · exact ⟨1, 0, Or.inr (Or.inr ⟨rfl, rfl, rfl⟩)⟩
  obtain ⟨tl, tf, hw⟩ := hcases
  obtain ⟨v6, u6, k1, k2, k3, k4⟩ := p_tail g3 hw
  refine ⟨v6, u6, ?_, ?_, k3, k4⟩
  · unfold fX4_tick
    rw [e6]
    simp only [up2_s, mod10 hT, nI_c (show (T + 1) % 10 < 2 ^ 31 by omega), gd_pos hin, hva]
    rw [b1]
    simp only [Option.bind_some]
    rw [b2]
    simp only [Option.bind_some]
    rw [c1]
    simp only [Option.bind_some]
    rw [d1]
    simp only [Option.bind_some]
    rw [f1, bd_some]
    unfold fX4_tick_79 fX4_tick_96 fX4_tick_113
    rcases hw with ⟨rfl, rfl, rfl⟩ | ⟨rfl, rfl, rfl⟩ | ⟨rfl, rfl, rfl⟩
    · have g1 : fX4_wantFans n 0 2 43 v4 = some v5 := g1
      rw [if_pos (show oI none = -1 from rfl), if_neg (show ¬ oI none = 1 by decide), if_neg (show ¬ oI none = 1 by decide), g1]
      exact k1
    · have g1 : fX4_wantFans n 1 2 43 v4 = some v5 := g1
      rw [if_neg (show ¬ oI (some 0) = -1 by decide), if_neg (show ¬ oI (some 0) = 1 by decide), if_neg (show ¬ oI (some 0) = 1 by decide), g1]
      exact k1
    · have g1 : fX4_wantFans n 1 43 2 v4 = some v5 := g1
      rw [if_neg (show ¬ oI (some 1) = -1 by decide), if_pos (show oI (some 1) = 1 by decide), if_pos (show oI (some 1) = 1 by decide), g1]
      exact k1
  · unfold fX5_tick
    rw [e4, hua, a2]
    simp only [Option.bind_some]
    rw [c2]
    simp only [Option.bind_some]
    rw [d2]
    simp only [Option.bind_some]
    rw [f2, bd_some, g2]
    simp only [Option.bind_some]
    rcases hw with ⟨rfl, rfl, rfl⟩ | ⟨rfl, rfl, rfl⟩ | ⟨rfl, rfl, rfl⟩
    · rw [if_pos (show oI none < 0 by decide)]; exact k2
    · rw [if_neg (show ¬ oI (some 0) < 0 by decide)]; exact k2
    · rw [if_neg (show ¬ oI (some 1) < 0 by decide)]; exact k2
theorem tk_loop {m : Nat} (hm : m ≤ 200) : ∀ r i T (v u : Mem), Rel n T v u → u 0 0 = 0 → i + r = m → T + r ≤ 20000 → ∀ f1 f2, r < f1 → r < f2 → ∃ T' v' u', fX4_ticks_33 n (nI m) f1 v (nI i) = some (.inl (v' 0 6), v') ∧ fX5_ticks_45 (nI m) f2 u (nI i) = some (u' 0 4, u') ∧ Rel n T' v' u' ∧ u' 0 0 = 0 := by
  intro r
  induction r with
  | zero =>
    intro i T v u R h0 hi hT f1 f2 g1 g2
    obtain ⟨m1, rfl⟩ : ∃ m, f1 = m + 1 := ⟨f1 - 1, by omega⟩
    obtain ⟨m2, rfl⟩ : ∃ m, f2 = m + 1 := ⟨f2 - 1, by omega⟩
    have : i = m := by omega
    subst this
    refine ⟨T, v, u, ?_, ?_, R, h0⟩
    · rw [fX4_ticks_33, if_pos (nI_le (Nat.le_refl _) (by omega))]
    · rw [fX5_ticks_45, if_pos (nI_le (Nat.le_refl _) (by omega))]
  | succ r ih =>
    intro i T v u R h0 hi hT f1 f2 g1 g2
    obtain ⟨m1, rfl⟩ : ∃ m, f1 = m + 1 := ⟨f1 - 1, by omega⟩
    obtain ⟨m2, rfl⟩ : ∃ m, f2 = m + 1 := ⟨f2 - 1, by omega⟩
    obtain ⟨v1, u1, a1, a2, a3, a4⟩ := p_tick R h0 (by omega)
    rw [fX4_ticks_33, if_neg (nI_ge (by omega) (by omega)), a1, fX5_ticks_45, if_neg (nI_ge (by omega) (by omega)), a2]
    simp only [Option.bind_some, nI_1]
    exact ih (i + 1) (T + 1) v1 u1 a3 a4 (by omega) (by omega) m1 m2 (by omega) (by omega)
theorem c_ticks (h : Rel n T v u) (p1 : Int32) : AG2 n (fX4_ticks n p1 v) (fX5_ticks p1 u) := by
  unfold fX4_ticks fX5_ticks fX5_ticks_17 fX5_ticks_18
  have e4 : u 0 4 = v 0 6 := h.E.W6.symm
  have hT := h.T2
  rcases wtn p1 1 200 v with ⟨w, w1, w2⟩ | ⟨w, w1⟩
  · obtain ⟨m, hm, rfl⟩ := nI_of2 (x := p1) (M := 200) (n := 200) rfl (by simp only [i32_lt] at *; have : (0 : Int32).toInt = 0 := rfl; have : (1 : Int32).toInt = 1 := rfl; omega) (by simp only [i32_lt, i32_le] at *; omega)
    rw [w, bd_some, need1, xd_l, if2_good w1 w2, e4, h.I.W6, nI_add]
    unfold fX4_ticks_28 fX5_ticks_35
    by_cases hq : 20000 < nI (T + m)
    · rw [if_pos hq, if_pos hq, needS0, xd_r, goes_ise, bd_some, if_pos rfl]
      exact AG2.ise h
    · have hq' : T + m ≤ 20000 := by
        rcases Nat.lt_or_ge 20000 (T + m) with z | z
        · exact absurd (nI_lt (a := 20000) (b := T + m) z (by omega)) hq
        · exact z
      rw [if_neg hq, if_neg hq, needS1, xd_l, goes_ok, bd_some, if_neg (by decide)]
      obtain ⟨T', v', u', a1, a2, a3, a4⟩ := tk_loop hm m 0 T v (up2 u 0 0 0) h.ok0 (up2_s _ _ _ _) (by omega) hq' 1000 1000 (by omega) (by omega)
      have a1 : fX4_ticks_33 n (nI m) 1000 v 0 = some (.inl (v' 0 6), v') := a1
      have a2 : fX5_ticks_45 (nI m) 1000 (up2 u 0 0 0) 0 = some (u' 0 4, u') := a2
      rw [a1, a2, ← a3.E.W6]
      exact AG2.good a3 a4
  · rw [w, bd_some, need0, xd_r, if2_bad w1]
    unfold fX5_ticks_35
    rw [goes_bad, goes_bad, bd_some, if_pos rfl, ite_self]
    exact AG2.bad h
end TK
