/-! a fan stops; devices act -/
def stR (u : Mem) (d : Nat) : Mem := if u 7 d = 0 then u else up2 (up2 (up2 u 15 d (u 0 4)) 7 d 0) 9 d (u 0 4)
theorem stand4 (o : Nat) (now : Int32) (v : Mem) : fX1_stand o now v = some (snd v o 0 now) := by
  unfold fX1_stand
  rw [send4]; rfl
theorem stop5 {d : Nat} (hd : d < 28) (u : Mem) : fX5_stop (nI d) u = some (stR u d) := by
  have hin : inb (nI d) 28 := inb_nI hd (by decide)
  unfold fX5_stop fX5_stop_27 stR
  simp only [gd_pos hin, nI_c (show d < 2 ^ 31 by omega), send5 hd, Option.bind_some]
  unfold sndR
  by_cases h : u 7 d = 0
  · rw [if_pos h, if_pos h, up2_self, if_pos h]
  · rw [if_neg h, if_neg h, up2_n (a := 7) (Or.inl (by decide)), if_neg h, up2_n (a := 0) (Or.inl (by decide))]
def XF (X : Mem → Prop) : Prop := ∀ v t f j x, t < 2 → f < 12 → X v → X (up2 v (2 + 41 * t + 5 + f) j x)
def XA (X : Mem → Prop) : Prop := ∀ v t d x, t < 2 → d < 14 → X v → X (up2 v (5 + 41 * t + d) 1 x)
theorem NB_F (T : Nat) : XF (NB T) := fun v t f j x _ _ h t' ht' => by rw [up2_n (Or.inl (by omega))]; exact h t' ht'
theorem NB_T (T : Nat) : XT (NB T) := fun v t j x _ h t' ht' => by rw [up2_n (Or.inl (by omega))]; exact h t' ht'
theorem NB_A (T : Nat) : XA (NB T) := fun v t d x _ _ h t' ht' => by rw [up2_n (Or.inr (by decide))]; exact h t' ht'
theorem CO_F (T : Nat) : XF (CO T) := fun v t f j x ht hf h t' ht' => by
  rw [up2_n (Or.inl (by omega)), up2_n (Or.inl (by omega)), hal_congr (v := v) (fun j => up2_n (Or.inl (by omega)))]
  exact h t' ht'
section AC
variable {X : Mem → Prop} {c : Int32} {n T : Nat} {v u : Mem}
theorem Rel.stop (h : Rel n T v u) {t f : Nat} (ht : t < 2) (hf : f < 12) : Rel n T (snd v (2 + 41 * t + 5 + f) 0 (nI T)) (stR u (14 * t + 2 + f)) := by
  unfold snd stR
  rw [← h.E.F0 ht hf, ← h.E.W6, h.I.W6]
  by_cases e : v (2 + 41 * t + 5 + f) 0 = 0
  · rw [if_pos e, if_pos e]; exact h
  · rw [if_neg e, if_neg e]
    have E1 := h.E.putR (a := 15) (k := 14 * t + 2 + f) (x := nI T) (Or.inr (Or.inl rfl))
    have E2 := E1.put (phF t ht f hf 0 (by decide)) (x := 0) rfl
    have E3 := E2.put (phF t ht f hf 2 (by decide)) (x := nI T) rfl
    have I1 := h.I.put (o := 2 + 41 * t + 5 + f) (j := 0) (x := 0) (by rw [okp_F ht hf]; exact Or.inl rfl)
    have I2 := I1.put (o := 2 + 41 * t + 5 + f) (j := 2) (x := nI T) (by rw [okp_F ht hf]; exact ⟨T, Nat.le_refl _, rfl⟩)
    refine ⟨h.1, E3, I2, fun t' ht' => ?_, fun t' ht' f' hf' => ?_, ?_⟩
    · unfold B1
      rw [up2_n (Or.inl (by omega)), up2_n (Or.inl (by omega)), up2_n (Or.inl (by omega)), up2_n (Or.inl (by omega))]
      exact h.B ht'
    · by_cases e2 : t' = t ∧ f' = f
      · obtain ⟨rfl, rfl⟩ := e2
        have z : up2 (up2 v (2 + 41 * t' + 5 + f') 0 0) (2 + 41 * t' + 5 + f') 2 (nI T) (2 + 41 * t' + 5 + f') 0 = 0 := by rw [up2_n (Or.inr (by decide)), up2_s]
        refine ⟨fun _ => z, fun _ _ _ _ => z, fun q => absurd z q, fun _ _ => ?_⟩
        rw [up2_s, up2_n (Or.inl (by decide)), up2_n (Or.inl (by decide)), up2_s]
      · have hne : 2 + 41 * t' + 5 + f' ≠ 2 + 41 * t + 5 + f := by omega
        have hne2 : 14 * t' + 2 + f' ≠ 14 * t + 2 + f := by omega
        have g : ∀ j, up2 (up2 v (2 + 41 * t + 5 + f) 0 0) (2 + 41 * t + 5 + f) 2 (nI T) (2 + 41 * t' + 5 + f') j = v (2 + 41 * t' + 5 + f') j := fun j => by rw [up2_n (Or.inl hne), up2_n (Or.inl hne)]
        have g4 : up2 (up2 v (2 + 41 * t + 5 + f) 0 0) (2 + 41 * t + 5 + f) 2 (nI T) (2 + 41 * t') 4 = v (2 + 41 * t') 4 := by rw [up2_n (Or.inl (by omega)), up2_n (Or.inl (by omega))]
        have gu : ∀ a, a = 15 ∨ a = 16 → up2 (up2 (up2 u 15 (14 * t + 2 + f) (nI T)) 7 (14 * t + 2 + f) 0) 9 (14 * t + 2 + f) (nI T) a (14 * t' + 2 + f') = u a (14 * t' + 2 + f') := fun a ha => by rw [up2_n (Or.inl (by omega)), up2_n (Or.inl (by omega)), up2_n (Or.inr hne2)]
        have := h.F ht' hf'
        unfold fok at this ⊢
        rw [g, g, g, g, g4]
        refine ⟨this.1, this.2.1, ?_, ?_⟩
        · have q := gu 16 (by omega); exact fun a => q.trans (this.2.2.1 a)
        · have q := gu 15 (by omega); exact fun a b => q.trans (this.2.2.2 a b)
    · exact ⟨fun τ a b => by rw [up2_n (Or.inl (by omega)), up2_n (Or.inl (by omega)), up2_n (Or.inl (by decide)), up2_n (Or.inl (by decide)), up2_n (Or.inl (by decide))]; exact h.C.1 τ a b, fun τ a => by rw [up2_n (Or.inl (by decide)), up2_n (Or.inl (by decide)), up2_n (Or.inl (by decide))]; exact h.C.2.1 τ a, fun j a b => by rw [up2_n (Or.inl (by omega)), up2_n (Or.inl (by omega))]; exact h.C.2.2 j a b⟩
theorem stR_n {u : Mem} {d a k : Nat} (h7 : a ≠ 7) (h9 : a ≠ 9) (h15 : a ≠ 15) : stR u d a k = u a k := by
  unfold stR
  by_cases e : u 7 d = 0
  · rw [if_pos e]
  · rw [if_neg e, up2_n (Or.inl h9), up2_n (Or.inl h7), up2_n (Or.inl h15)]
theorem X_snd (hX : XF X) {t f : Nat} {x now : Int32} (ht : t < 2) (hf : f < 12) (h : X v) : X (snd v (2 + 41 * t + 5 + f) x now) := by
  unfold snd
  by_cases e : v (2 + 41 * t + 5 + f) 0 = x
  · rw [if_pos e]; exact h
  · rw [if_neg e]; exact hX _ _ _ _ _ ht hf (hX _ _ _ _ _ ht hf h)
theorem RF.stop (hX : XF X) (h : RF X c n T v u) {t f : Nat} (ht : t < 2) (hf : f < 12) : RF X c n T (snd v (2 + 41 * t + 5 + f) 0 (nI T)) (stR u (14 * t + 2 + f)) :=
  h.of (h.1.stop ht hf) (stR_n (by decide) (by decide) (by decide)) (snd_n (by omega) _) (stR_n (by decide) (by decide) (by decide)) (X_snd hX ht hf h.2.2.2.2)
/-- a standing fan is marked out -/
theorem Rel.out1 (h : Rel n T v u) {t f : Nat} (ht : t < 2) (hf : f < 12) (h0 : v (2 + 41 * t + 5 + f) 0 = 0) : Rel n T (up2 v (2 + 41 * t + 5 + f) 5 1) (up2 u 11 (14 * t + 2 + f) 1) := by
  have hE := h.E.put (phF t ht f hf 5 (by decide)) (x := 1) rfl
  have hI := h.I.put (o := 2 + 41 * t + 5 + f) (j := 5) (x := 1) (by rw [okp_F ht hf]; exact Or.inr rfl)
  refine ⟨h.1, hE, hI, fun t' ht' => ?_, fun t' ht' f' hf' => ?_, ?_⟩
  · unfold B1
    rw [up2_n (Or.inl (by omega)), up2_n (Or.inl (by omega))]
    exact h.B ht'
  · obtain ⟨a1, a2, a3, a4⟩ := h.F ht' hf'
    refine ⟨?_, ?_, ?_, ?_⟩
    · by_cases e : 2 + 41 * t' + 5 + f' = 2 + 41 * t + 5 + f
      · rw [e, up2_n (j := 0) (Or.inr (by decide))]
        exact fun _ => h0
      · rw [up2_n (Or.inl e), up2_n (Or.inl e)]
        exact a1
    · rw [up2_n (Or.inr (by decide)), up2_n (Or.inr (by decide))]; exact a2
    · rw [up2_n (Or.inr (by decide)), up2_n (Or.inl (by decide)), up2_n (Or.inr (by decide))]; exact a3
    · rw [up2_n (Or.inr (by decide)), up2_n (Or.inr (by decide)), up2_n (Or.inl (by decide)), up2_n (Or.inr (by decide))]; exact a4
  · exact ⟨fun τ a b => by rw [up2_n (Or.inl (by omega)), up2_n (Or.inl (by decide))]; exact h.C.1 τ a b, fun τ a => by rw [up2_n (Or.inl (by decide))]; exact h.C.2.1 τ a, fun j a b => by rw [up2_n (Or.inl (by omega))]; exact h.C.2.2 j a b⟩
def avC (v : Mem) (o : Nat) (now : Int32) : Int32 := if v o 4 = 0 then (if now - v o 2 < v o 3 then v o 1 else v o 0) else v o 1
def avR (u : Mem) (d : Nat) : Int32 := if u 10 d = 0 then (if u 0 4 - u 9 d < u 6 d then u 8 d else u 7 d) else u 8 d
theorem act4 (o : Nat) (now : Int32) (v : Mem) : fX0_act o now v = some (up2 v o 1 (avC v o now)) := by
  unfold fX0_act avC
  by_cases h1 : v o 4 = 0
  · rw [if_pos h1, if_pos h1]
    by_cases h2 : now - v o 2 < v o 3
    · rw [if_pos h2, if_pos h2, up2_self]
    · rw [if_neg h2, if_neg h2]
  · rw [if_neg h1, if_neg h1, up2_self]
theorem av_eq (h : Rel n T v u) {t d : Nat} (ht : t < 2) (hd : d < 14) : avC v (5 + 41 * t + d) (nI T) = avR u (14 * t + d) := by
  unfold avC avR
  have E := h.E
  rw [show u 10 (14 * t + d) = v (5 + 41 * t + d) 4 from (E _ _ _ (ph_dev t ht d hd 4 (by decide))).symm, show u 9 (14 * t + d) = v (5 + 41 * t + d) 2 from (E _ _ _ (ph_dev t ht d hd 2 (by decide))).symm, show u 6 (14 * t + d) = v (5 + 41 * t + d) 3 from (E _ _ _ (ph_dev t ht d hd 3 (by decide))).symm, show u 8 (14 * t + d) = v (5 + 41 * t + d) 1 from (E _ _ _ (ph_dev t ht d hd 1 (by decide))).symm, show u 7 (14 * t + d) = v (5 + 41 * t + d) 0 from (E _ _ _ (ph_dev t ht d hd 0 (by decide))).symm, ← E.W6, h.I.W6]
theorem RF.act (hX : XA X) (h : RF X c n T v u) {t d : Nat} (ht : t < 2) (hd : d < 14) {x : Int32} : RF X c n T (up2 v (5 + 41 * t + d) 1 x) (up2 u 8 (14 * t + d) x) :=
  h.of (h.1.dev (j := 1) ht hd (by decide)) (u00 (by decide)) (up2_n (Or.inl (by omega))) (up2_n (Or.inl (by decide))) (hX _ _ _ _ ht hd h.2.2.2.2)
theorem a9_step {t d k : Nat} (ht : t < 2) (hk : k ≤ 12) (hd : d < 2 + k) (hc : u 5 t = nI k) (kb2 : Mem → Int32 → Option Mem) (fuel : Nat) : fX5_act_9 kb2 (fuel + 1) u (nI t) (nI d) = fX5_act_77 kb2 (fun v l1 l2 => fX5_act_9 kb2 fuel v l1 l2) u (nI t) (nI d) (nI (14 * t + d)) (avR u (14 * t + d)) (nI (14 * t + d)) := by
  have hin : inb (nI t) 2 := inb_nI ht (by decide)
  have hix : inb (nI (14 * t + d)) 28 := inb_nI (by omega) (by decide)
  rw [fX5_act_9, i14]
  unfold fX5_act_71 avR
  simp only [gd_pos hin, gd_pos hix, nI_c (show t < 2 ^ 31 by omega), nI_c (show 14 * t + d < 2 ^ 31 by omega), hc, show (2 : Int32) + nI k = nI (2 + k) from nI_add 2 k, if_neg (nI_ge (a := d) (b := 2 + k) hd (by omega))]
  by_cases h1 : u 10 (14 * t + d) = 0
  · rw [if_pos h1, if_pos h1]
    by_cases h2 : u 0 4 - u 9 (14 * t + d) < u 6 (14 * t + d)
    · rw [if_pos h2, if_pos h2]
    · rw [if_neg h2, if_neg h2]
  · rw [if_neg h1, if_neg h1]
theorem a9_end {t k : Nat} (ht : t < 2) (hk : k ≤ 12) (hc : u 5 t = nI k) (kb2 : Mem → Int32 → Option Mem) (fuel : Nat) : fX5_act_9 kb2 (fuel + 1) u (nI t) (nI (2 + k)) = kb2 u (nI (t + 1)) := by
  have hin : inb (nI t) 2 := inb_nI ht (by decide)
  rw [fX5_act_9, gd_pos hin, nI_c (by omega), hc, show (2 : Int32) + nI k = nI (2 + k) from nI_add 2 k, if_pos (nI_le (Nat.le_refl _) (by omega)), nI_1]
theorem a77_d {t d : Nat} (ht : t < 2) (hd : d < 2) (kb2 : Mem → Int32 → Option Mem) (kb9 : Mem → Int32 → Int32 → Option Mem) (a : Int32) : fX5_act_77 kb2 kb9 u (nI t) (nI d) (nI (14 * t + d)) a (nI (14 * t + d)) = kb9 (up2 u 8 (14 * t + d) a) (nI t) (nI (d + 1)) := by
  have hix : inb (nI (14 * t + d)) 28 := inb_nI (by omega) (by decide)
  unfold fX5_act_77
  rw [gd_pos hix, if_pos (show nI d ≤ 1 from nI_le (a := d) (b := 1) (by omega) (by decide)), nI_c (by omega), nI_1]
theorem a77_f {t f : Nat} (ht : t < 2) (hf : f < 12) (kb2 : Mem → Int32 → Option Mem) (kb9 : Mem → Int32 → Int32 → Option Mem) (a : Int32) (u1 : Mem) (hu1 : u1 = up2 u 8 (14 * t + 2 + f) a) : fX5_act_77 kb2 kb9 u (nI t) (nI (2 + f)) (nI (14 * t + (2 + f))) a (nI (14 * t + (2 + f))) = kb9 (if u1 11 (14 * t + 2 + f) = 0 then (if u1 8 (14 * t + 2 + f) = u1 7 (14 * t + 2 + f) then u1 else if u1 0 4 - u1 9 (14 * t + 2 + f) < 10 then u1 else stR (up2 u1 11 (14 * t + 2 + f) 1) (14 * t + 2 + f)) else u1) (nI t) (nI (2 + (f + 1))) := by
  have hix : inb (nI (14 * t + 2 + f)) 28 := inb_nI (by omega) (by decide)
  rw [show 14 * t + (2 + f) = 14 * t + 2 + f by omega]
  unfold fX5_act_77
  simp only [gd_pos hix, nI_c (show 14 * t + 2 + f < 2 ^ 31 by omega), nar1, stop5 (show 14 * t + 2 + f < 28 by omega), Option.bind_some, nI_1, ← hu1]
  rw [if_neg (show ¬ nI (2 + f) ≤ 1 from nI_ge (a := 1) (b := 2 + f) (by omega) (by omega)), show 2 + f + 1 = 2 + (f + 1) by omega]
  by_cases h1 : u1 11 (14 * t + 2 + f) = 0
  · rw [if_pos h1, if_pos h1]
    by_cases h2 : u1 8 (14 * t + 2 + f) = u1 7 (14 * t + 2 + f)
    · rw [if_pos h2, if_pos h2]
    · rw [if_neg h2, if_neg h2]
      by_cases h3 : u1 0 4 - u1 9 (14 * t + 2 + f) < 10
      · rw [if_pos h3, if_pos h3]
      · rw [if_neg h3, if_neg h3]
  · rw [if_neg h1, if_neg h1]
theorem jo_step (hX : XF X) (h : RF X c n T v u) {t f : Nat} (ht : t < 2) (hf : f < 12) : ∃ v', fX1_judgeOut (2 + 41 * t + 5 + f) (nI T) v = some v' ∧ RF X c n T v' (if u 11 (14 * t + 2 + f) = 0 then (if u 8 (14 * t + 2 + f) = u 7 (14 * t + 2 + f) then u else if u 0 4 - u 9 (14 * t + 2 + f) < 10 then u else stR (up2 u 11 (14 * t + 2 + f) 1) (14 * t + 2 + f)) else u) ∧ v' (2 + 41 * t) 4 = v (2 + 41 * t) 4 := by
  have R := h.1
  have E := R.E
  unfold fX1_judgeOut
  rw [stand4, ← E.F5 ht hf, ← E.F1 ht hf, ← E.F0 ht hf, ← E.F2 ht hf, ← E.W6, R.I.W6]
  have keep : v (2 + 41 * t + 5 + f) 5 ≠ 0 → snd (up2 v (2 + 41 * t + 5 + f) 5 1) (2 + 41 * t + 5 + f) 0 (nI T) = v := fun q => by
    have o1 : v (2 + 41 * t + 5 + f) 5 = 1 := (R.I.F5 ht hf).resolve_left q
    rw [up2_same o1, snd_eq ((R.F ht hf).1 q)]
  by_cases h2 : v (2 + 41 * t + 5 + f) 1 = v (2 + 41 * t + 5 + f) 0
  · rw [if_pos h2, if_pos h2]
    exact ⟨v, rfl, by rw [ite_self]; exact h, rfl⟩
  · rw [if_neg h2, if_neg h2]
    by_cases h3 : nI T - v (2 + 41 * t + 5 + f) 2 < 10
    · rw [if_pos h3, if_pos h3]
      exact ⟨v, rfl, by rw [ite_self]; exact h, rfl⟩
    · rw [if_neg h3, if_neg h3]
      by_cases h1 : v (2 + 41 * t + 5 + f) 5 = 0
      · rw [if_pos h1]
        have r1 := h.stop hX ht hf
        have r2 := r1.1.out1 ht hf snd_0
        have e1 : snd (up2 v (2 + 41 * t + 5 + f) 5 1) (2 + 41 * t + 5 + f) 0 (nI T) = up2 (snd v (2 + 41 * t + 5 + f) 0 (nI T)) (2 + 41 * t + 5 + f) 5 1 := by
          have z : (up2 v (2 + 41 * t + 5 + f) 5 1) (2 + 41 * t + 5 + f) 0 = v (2 + 41 * t + 5 + f) 0 := up2_n (Or.inr (by decide))
          by_cases e : v (2 + 41 * t + 5 + f) 0 = 0
          · rw [snd_eq e, snd_eq (z.trans e)]
          · rw [snd_ne e, snd_ne (fun q => e (z.symm.trans q)), up2_comm (v := v) (j := 5) (k := 0) (Or.inr (by decide)), up2_comm (j := 5) (k := 2) (Or.inr (by decide))]
        have e2 : stR (up2 u 11 (14 * t + 2 + f) 1) (14 * t + 2 + f) = up2 (stR u (14 * t + 2 + f)) 11 (14 * t + 2 + f) 1 := by
          unfold stR
          rw [up2_n (a := 7) (Or.inl (by decide)), up2_n (a := 0) (Or.inl (by decide))]
          by_cases e : u 7 (14 * t + 2 + f) = 0
          · rw [if_pos e, if_pos e]
          · rw [if_neg e, if_neg e, up2_comm (v := u) (a := 11) (b := 15) (Or.inl (by decide)), up2_comm (a := 11) (b := 7) (Or.inl (by decide)), up2_comm (a := 11) (b := 9) (Or.inl (by decide))]
        rw [e1, e2]
        refine ⟨_, rfl, r1.of r2 (u00 (by decide)) (up2_n (Or.inl (by omega))) (up2_n (Or.inl (by decide))) (hX _ _ _ _ _ ht hf r1.2.2.2.2), ?_⟩
        rw [up2_n (Or.inl (by omega)), snd_n (by omega)]
      · rw [if_neg h1, keep h1]
        exact ⟨v, rfl, h, rfl⟩
theorem sd_loop (hX : XF X) (hA : XA X) {t k : Nat} (ht : t < 2) (hk : k ≤ 12) (kb2 : Mem → Int32 → Option Mem) : ∀ r f (v u : Mem), RF X c n T v u → v (2 + 41 * t) 4 = nI k → f + r = k → ∀ f1 f2, r < f1 → r < f2 → ∃ v' u', fX3_settleDevices_18 (2 + 41 * t) (nI T) f1 v (nI f) = some v' ∧ fX5_act_9 kb2 f2 u (nI t) (nI (2 + f)) = kb2 u' (nI (t + 1)) ∧ RF X c n T v' u' := by
  intro r
  induction r with
  | zero =>
    intro f v u h hc hi f1 f2 g1 g2
    obtain ⟨m, rfl⟩ : ∃ m, f1 = m + 1 := ⟨f1 - 1, by omega⟩
    obtain ⟨m2, rfl⟩ : ∃ m, f2 = m + 1 := ⟨f2 - 1, by omega⟩
    have : f = k := by omega
    subst this
    exact ⟨v, u, by rw [fX3_settleDevices_18, hc, if_pos (nI_le (Nat.le_refl _) (by omega))], a9_end ht hk (by rw [← h.1.E.T4 ht, hc]) kb2 m2, h⟩
  | succ r ih =>
    intro f v u h hc hi f1 f2 g1 g2
    obtain ⟨m, rfl⟩ : ∃ m, f1 = m + 1 := ⟨f1 - 1, by omega⟩
    obtain ⟨m2, rfl⟩ : ∃ m, f2 = m + 1 := ⟨f2 - 1, by omega⟩
    have hf : f < 12 := by omega
    have r1 := h.act hA ht (show 2 + f < 14 by omega) (x := avC v (2 + 41 * t + 5 + f) (nI T))
    have ea := av_eq h.1 ht (show 2 + f < 14 by omega)
    rw [fan_at] at r1 ea
    rw [show 14 * t + (2 + f) = 14 * t + 2 + f by omega] at r1 ea
    obtain ⟨v', j1, j2, j3⟩ := jo_step hX r1 ht hf
    obtain ⟨v2, u2, q1, q2, q3⟩ := ih (f + 1) v' _ j2 (by rw [j3, up2_n (Or.inl (by omega)), hc]) (by omega) m m2 (by omega) (by omega)
    refine ⟨v2, u2, ?_, ?_, q3⟩
    · rw [fX3_settleDevices_18, hc, if_neg (nI_ge (by omega) (by omega))]
      simp only [gd_pos (show inb (nI f) 12 from inb_nI hf (by decide)), nI_c (show f < 2 ^ 31 by omega), act4, Option.bind_some, j1, nI_1]
      exact q1
    · rw [a9_step ht hk (by omega) (by rw [← h.1.E.T4 ht, hc]), a77_f ht hf kb2 _ _ (up2 u 8 (14 * t + 2 + f) (avC v (2 + 41 * t + 5 + f) (nI T))) (by rw [ea, show 14 * t + (2 + f) = 14 * t + 2 + f by omega])]
      exact q2
theorem sd_tube (hX : XF X) (hA : XA X) (h : RF X c n T v u) {t : Nat} (ht : t < 2) (kb2 : Mem → Int32 → Option Mem) : ∃ v' u', fX3_settleDevices (2 + 41 * t) (nI T) v = some v' ∧ fX5_act_9 kb2 1000 u (nI t) 0 = kb2 u' (nI (t + 1)) ∧ RF X c n T v' u' := by
  obtain ⟨k, hk, hc⟩ := h.1.I.cnt ht
  have e0 := av_eq h.1 ht (show 0 < 14 by decide)
  have r0 := h.act hA ht (show 0 < 14 by decide) (x := avR u (14 * t + 0))
  have e1 := av_eq r0.1 ht (show 1 < 14 by decide)
  have r1 := r0.act hA ht (show 1 < 14 by decide) (x := avR (up2 u 8 (14 * t + 0) (avR u (14 * t + 0))) (14 * t + 1))
  have hc0 : (up2 v (5 + 41 * t + 0) 1 (avR u (14 * t + 0))) (2 + 41 * t) 4 = nI k := by rw [up2_n (Or.inl (by omega)), hc]
  have hc1 : (up2 (up2 v (5 + 41 * t + 0) 1 (avR u (14 * t + 0))) (5 + 41 * t + 1) 1 (avR (up2 u 8 (14 * t + 0) (avR u (14 * t + 0))) (14 * t + 1))) (2 + 41 * t) 4 = nI k := by rw [up2_n (Or.inl (by omega)), hc0]
  obtain ⟨v', u', q1, q2, q3⟩ := sd_loop hX hA ht hk kb2 k 0 _ _ r1 hc1 (by omega) 1000 998 (by omega) (by omega)
  refine ⟨v', u', ?_, ?_, q3⟩
  · unfold fX3_settleDevices
    rw [show 2 + 41 * t + 3 = 5 + 41 * t + 0 by omega, show 2 + 41 * t + 4 = 5 + 41 * t + 1 by omega, act4, e0]
    simp only [Option.bind_some]
    rw [act4, e1]
    simp only [Option.bind_some]
    exact q1
  · have s0 := a9_step (u := u) (d := 0) ht hk (by omega) (by rw [← h.1.E.T4 ht, hc]) kb2 999
    have s1 := a9_step (u := up2 u 8 (14 * t + 0) (avR u (14 * t + 0))) (d := 1) ht hk (by omega) (by rw [← r0.1.E.T4 ht, hc0]) kb2 998
    rw [a77_d ht (by decide)] at s0 s1
    exact (s0.trans s1).trans q2
theorem p_settle (hX : XF X) (hA : XA X) (h : RF X c n T v u) : ∃ v' u', ((fX3_settleDevices 2 (v 0 6) v).bind fun v3 => fX3_settleDevices 43 (v3 0 6) v3) = some v' ∧ fX5_act u = some u' ∧ RF X c n T v' u' := by
  have w6 : v 0 6 = nI T := h.1.I.W6
  obtain ⟨v1, u1, a1, a2, a3⟩ := sd_tube hX hA h (t := 0) (by decide) (fun v l1 => fX5_act_2 999 v l1)
  have w61 : v1 0 6 = nI T := a3.1.I.W6
  obtain ⟨v2, u2, b1, b2, b3⟩ := sd_tube hX hA a3 (t := 1) (by decide) (fun v l1 => fX5_act_2 998 v l1)
  have a1 : fX3_settleDevices 2 (nI T) v = some v1 := a1
  have b1 : fX3_settleDevices 43 (nI T) v1 = some v2 := b1
  refine ⟨v2, u2, ?_, ?_, b3⟩
  · rw [w6, a1]
    simp only [Option.bind_some]
    rw [w61, b1]
  · unfold fX5_act
    have c1 : fX5_act_2 1000 u 0 = fX5_act_9 (fun v l1 => fX5_act_2 999 v l1) 1000 u (nI 0) 0 := by
      rw [show (1000 : Nat) = 999 + 1 from rfl, fX5_act_2, if_neg (by decide)]; rfl
    have c2 : fX5_act_2 999 u1 (nI (0 + 1)) = fX5_act_9 (fun v l1 => fX5_act_2 998 v l1) 1000 u1 (nI 1) 0 := by
      rw [show (999 : Nat) = 998 + 1 from rfl, fX5_act_2, if_neg (by decide)]
    have c3 : fX5_act_2 998 u2 (nI (1 + 1)) = some u2 := by
      rw [show (998 : Nat) = 997 + 1 from rfl, fX5_act_2, if_pos (by decide)]
    rw [c1, a2]
    show fX5_act_2 999 u1 (nI (0 + 1)) = _
    rw [c2, b2]
    exact c3
end AC
