def snd (v : Mem) (o : Nat) (x now : Int32) : Mem := if v o 0 = x then v else up2 (up2 v o 0 x) o 2 now
def sndR (u : Mem) (d : Nat) (x : Int32) : Mem := if u 7 d = x then u else up2 (up2 u 7 d x) 9 d (u 0 4)
theorem send4 (o : Nat) (x now : Int32) (v : Mem) : fX0_send o x now v = some (snd v o x now) := by
  unfold fX0_send snd
  by_cases h : v o 0 = x
  · rw [if_pos h, if_pos h]
  · rw [if_neg h, if_neg h]
theorem send5 {d : Nat} (hd : d < 28) (x : Int32) (u : Mem) : fX5_send (nI d) x u = some (sndR u d x) := by
  have hin : inb (nI d) 28 := inb_nI hd (by decide)
  unfold fX5_send fX5_send_28 sndR
  simp only [gd_pos hin, nI_c (show d < 2 ^ 31 by omega)]
  by_cases h : u 7 d = x
  · rw [if_pos h, if_pos h, up2_self, up2_same h]
  · rw [if_neg h, if_neg h, up2_comm (Or.inl (by decide))]
theorem snd_n {v : Mem} {o p : Nat} {x now : Int32} (h : p ≠ o) (q : Nat) : snd v o x now p q = v p q := by
  unfold snd
  by_cases e : v o 0 = x
  · rw [if_pos e]
  · rw [if_neg e, up2_n (Or.inl h), up2_n (Or.inl h)]
theorem snd_o {v : Mem} {o : Nat} {x now : Int32} {q : Nat} (h0 : q ≠ 0) (h2 : q ≠ 2) : snd v o x now o q = v o q := by
  unfold snd
  by_cases e : v o 0 = x
  · rw [if_pos e]
  · rw [if_neg e, up2_n (Or.inr h2), up2_n (Or.inr h0)]
theorem snd_0 {v : Mem} {o : Nat} {x now : Int32} : snd v o x now o 0 = x := by
  unfold snd
  by_cases e : v o 0 = x
  · rw [if_pos e, e]
  · rw [if_neg e, up2_n (Or.inr (by decide)), up2_s]
theorem snd_eq {v : Mem} {o : Nat} {x now : Int32} (h : v o 0 = x) : snd v o x now = v := if_pos h
theorem snd_ne {v : Mem} {o : Nat} {x now : Int32} (h : ¬ v o 0 = x) : snd v o x now = up2 (up2 v o 0 x) o 2 now := if_neg h
theorem snd_comm {v : Mem} {a b : Nat} {x y now : Int32} (h : a ≠ b) : snd (snd v a x now) b y now = snd (snd v b y now) a x now := by
  have e1 : (snd v a x now) b 0 = v b 0 := snd_n (Ne.symm h) 0
  have e2 : (snd v b y now) a 0 = v a 0 := snd_n h 0
  by_cases ha : v a 0 = x
  · rw [snd_eq ha, snd_eq (e2.trans ha)]
  · by_cases hb : v b 0 = y
    · rw [snd_eq hb, snd_eq (e1.trans hb)]
    · rw [snd_ne (fun q => hb (e1.symm.trans q)), snd_ne (v := snd v b y now) (fun q => ha (e2.symm.trans q)), snd_ne ha, snd_ne hb, up2_comm (v := up2 v a 0 x) (a := a) (j := 2) (b := b) (k := 0) (Or.inl h), up2_comm (v := v) (a := a) (j := 0) (b := b) (k := 0) (Or.inl h), up2_comm (a := a) (j := 2) (b := b) (k := 2) (Or.inl h), up2_comm (a := a) (j := 0) (b := b) (k := 2) (Or.inl h)]
theorem EQ.D30 {v u : Mem} (h : EQ v u) {t : Nat} (ht : t < 2) : v (2 + 41 * t + 3) 0 = u 7 (14 * t) := h.D3 ht (j := 0) (by decide)
theorem EQ.D31 {v u : Mem} (h : EQ v u) {t : Nat} (ht : t < 2) : v (2 + 41 * t + 3) 1 = u 8 (14 * t) := h.D3 ht (j := 1) (by decide)
theorem EQ.D32 {v u : Mem} (h : EQ v u) {t : Nat} (ht : t < 2) : v (2 + 41 * t + 3) 2 = u 9 (14 * t) := h.D3 ht (j := 2) (by decide)
theorem EQ.D40 {v u : Mem} (h : EQ v u) {t : Nat} (ht : t < 2) : v (2 + 41 * t + 4) 0 = u 7 (14 * t + 1) := h.D4 ht (j := 0) (by decide)
theorem EQ.D41 {v u : Mem} (h : EQ v u) {t : Nat} (ht : t < 2) : v (2 + 41 * t + 4) 1 = u 8 (14 * t + 1) := h.D4 ht (j := 1) (by decide)
theorem EQ.D42 {v u : Mem} (h : EQ v u) {t : Nat} (ht : t < 2) : v (2 + 41 * t + 4) 2 = u 9 (14 * t + 1) := h.D4 ht (j := 2) (by decide)
/-- the signals have held long enough -/
def hal (v : Mem) (t T : Nat) : Bool := decide (v (2 + 41 * t + 3) 0 = 1 ∧ (v (2 + 41 * t + 3) 1 = 1 ∨ ¬ (nI T - v (2 + 41 * t + 3) 2 < 60)))
theorem hal_congr {v w : Mem} {t T : Nat} (h : ∀ j, w (2 + 41 * t + 3) j = v (2 + 41 * t + 3) j) : hal w t T = hal v t T := by unfold hal; rw [h, h, h]
theorem ha4 (v : Mem) (t T : Nat) : fX3_isHalted (2 + 41 * t) (nI T) v = some (bi (hal v t T), v) := by
  unfold fX3_isHalted fX3_isHalted_40
  by_cases h1 : v (2 + 41 * t + 3) 0 = 1
  · rw [if_pos h1]
    by_cases h2 : v (2 + 41 * t + 3) 1 = 1
    · rw [if_pos h2, show hal v t T = true from decide_eq_true ⟨h1, Or.inl h2⟩]; rfl
    · rw [if_neg h2]
      by_cases h3 : nI T - v (2 + 41 * t + 3) 2 < 60
      · rw [if_pos h3, show hal v t T = false from decide_eq_false (fun q => q.2.elim h2 (fun z => z h3))]; rfl
      · rw [if_neg h3, show hal v t T = true from decide_eq_true ⟨h1, Or.inr h3⟩]; rfl
  · rw [if_neg h1, show hal v t T = false from decide_eq_false (fun q => h1 q.1)]; rfl
def ms (v : Mem) (t : Nat) (fl : Bool) : Bool := fl || decide (v (2 + 41 * t) 10 = 1 ∨ v (2 + 41 * t) 5 ≠ 0 ∨ v (2 + 41 * t + 4) 0 = 1 ∨ v (2 + 41 * t + 4) 1 = 1)
def mc (v : Mem) (t T : Nat) (fl : Bool) : Bool := fl && (decide (v (2 + 41 * t + 4) 0 = 1) || hal v t T)
theorem bi_eq {b : Bool} : (if bi b = 0 then (0 : Int32) else 1) = bi b := by cases b <;> decide
section TR
variable {n T : Nat} {v u : Mem}
theorem ha5 (R : Rel n T v u) {t : Nat} (ht : t < 2) : fX5_isHalted (nI t) u = some (bi (hal v t T), u) := by
  have hin : inb (nI (14 * t)) 28 := inb_nI (by omega) (by decide)
  unfold fX5_isHalted fX5_isHalted_45
  rw [i14_0]
  simp only [gd_pos hin, nI_c (show 14 * t < 2 ^ 31 by omega)]
  rw [← R.E.W6, R.I.W6, ← R.E.D30 ht, ← R.E.D31 ht, ← R.E.D32 ht]
  by_cases h1 : v (2 + 41 * t + 3) 0 = 1
  · rw [if_pos h1]
    by_cases h2 : v (2 + 41 * t + 3) 1 = 1
    · rw [if_pos h2, show hal v t T = true from decide_eq_true ⟨h1, Or.inl h2⟩]; rfl
    · rw [if_neg h2]
      by_cases h3 : nI T - v (2 + 41 * t + 3) 2 < 60
      · rw [if_pos h3, show hal v t T = false from decide_eq_false (fun q => q.2.elim h2 (fun z => z h3))]; rfl
      · rw [if_neg h3, show hal v t T = true from decide_eq_true ⟨h1, Or.inr h3⟩]; rfl
  · rw [if_neg h1, show hal v t T = false from decide_eq_false (fun q => h1 q.1)]; rfl
theorem Rel.snd3 (h : Rel n T v u) {t : Nat} (ht : t < 2) (x : Int32) : Rel n T (snd v (2 + 41 * t + 3) x (nI T)) (sndR u (14 * t) x) := by
  unfold snd sndR
  rw [← h.E.D30 ht, ← h.E.W6, h.I.W6]
  by_cases e : v (2 + 41 * t + 3) 0 = x
  · rw [if_pos e, if_pos e]; exact h
  · rw [if_neg e, if_neg e]
    have r1 := h.put (x := x) (phD3 t ht 0 (by decide)) (by rw [okp_D3 ht]; exact trivial) ⟨by omega, fun _ => by omega, fun _ => by omega⟩ rfl
    exact r1.put (x := nI T) (phD3 t ht 2 (by decide)) (by rw [okp_D3 ht]; exact ⟨T, Nat.le_refl _, rfl⟩) ⟨by omega, fun _ => by omega, fun _ => by omega⟩ rfl
theorem Rel.snd4 (h : Rel n T v u) {t : Nat} (ht : t < 2) (x : Int32) : Rel n T (snd v (2 + 41 * t + 4) x (nI T)) (sndR u (14 * t + 1) x) := by
  unfold snd sndR
  rw [← h.E.D40 ht, ← h.E.W6, h.I.W6]
  by_cases e : v (2 + 41 * t + 4) 0 = x
  · rw [if_pos e, if_pos e]; exact h
  · rw [if_neg e, if_neg e]
    have r1 := h.put (x := x) (phD4 t ht 0 (by decide)) (by rw [okp_D4 ht]; exact trivial) ⟨by omega, fun _ => by omega, fun _ => by omega⟩ rfl
    exact r1.put (x := nI T) (phD4 t ht 2 (by decide)) (by rw [okp_D4 ht]; exact ⟨T, Nat.le_refl _, rfl⟩) ⟨by omega, fun _ => by omega, fun _ => by omega⟩ rfl
theorem sndR_n {u : Mem} {d : Nat} {x : Int32} {a k : Nat} (h7 : a ≠ 7) (h9 : a ≠ 9) : sndR u d x a k = u a k := by
  unfold sndR
  by_cases e : u 7 d = x
  · rw [if_pos e]
  · rw [if_neg e, up2_n (Or.inl h9), up2_n (Or.inl h7)]
theorem ct4 (t T : Nat) (fl : Bool) (v : Mem) : fX3_commandTraffic (2 + 41 * t) (bi fl) (nI T) v = some (snd (snd v (2 + 41 * t + 3) (bi (ms v t fl)) (nI T)) (2 + 41 * t + 4) (bi (mc (snd v (2 + 41 * t + 3) (bi (ms v t fl)) (nI T)) t T fl)) (nI T)) := by
  have k72 : ∀ b : Bool, fX3_commandTraffic_72 (2 + 41 * t) (bi fl) (nI T) v (bi b) (2 + 41 * t + 3) = some (snd (snd v (2 + 41 * t + 3) (bi b) (nI T)) (2 + 41 * t + 4) (bi (mc (snd v (2 + 41 * t + 3) (bi b) (nI T)) t T fl)) (nI T)) := by
    intro b
    unfold fX3_commandTraffic_72 fX3_commandTraffic_103 fX3_commandTraffic_104 fX3_commandTraffic_120
    rw [send4]
    simp only [Option.bind_some]
    cases fl with
    | false => rw [if_pos (show bi false = 0 from rfl), if_pos trivial, send4]; rfl
    | true =>
      rw [if_neg (show ¬ bi true = 0 by decide), ha4, bd_some]
      by_cases h1 : (snd v (2 + 41 * t + 3) (bi b) (nI T)) (2 + 41 * t + 4) 0 = 1
      · rw [if_pos h1, if_neg (by decide), send4]
        unfold mc
        rw [decide_eq_true h1]; rfl
      · rw [if_neg h1]
        unfold mc
        rw [decide_eq_false h1]
        cases hal (snd v (2 + 41 * t + 3) (bi b) (nI T)) t T with
        | false => rw [if_pos (show bi false = 0 from rfl), if_pos trivial, send4]; rfl
        | true => rw [if_neg (show ¬ bi true = 0 by decide), if_neg (by decide), send4]; rfl
  have k1 := k72 true
  have k0 := k72 false
  unfold fX3_commandTraffic fX3_commandTraffic_27 fX3_commandTraffic_56
  cases fl with
  | true =>
    simp only [if_neg (show ¬ bi true = 0 by decide), if_neg (show ¬ (1 : Int32) = 0 by decide), ite_self]
    exact k1
  | false =>
    simp only [if_pos (show bi false = 0 from rfl), if_neg (show ¬ (1 : Int32) = 0 by decide)]
    have hm : ∀ b, decide (v (2 + 41 * t) 10 = 1 ∨ v (2 + 41 * t) 5 ≠ 0 ∨ v (2 + 41 * t + 4) 0 = 1 ∨ v (2 + 41 * t + 4) 1 = 1) = b → ms v t false = b := fun b q => by unfold ms; rw [q]; rfl
    by_cases a1 : v (2 + 41 * t) 10 = 1
    · rw [hm true (decide_eq_true (Or.inl a1))]
      simp only [if_pos a1, ite_self]
      exact k1
    · simp only [if_neg a1]
      by_cases a2 : v (2 + 41 * t) 5 = 0
      · simp only [if_pos a2]
        by_cases a3 : v (2 + 41 * t + 4) 0 = 1
        · rw [hm true (decide_eq_true (Or.inr (Or.inr (Or.inl a3)))), if_pos a3]
          exact k1
        · rw [if_neg a3]
          by_cases a4 : v (2 + 41 * t + 4) 1 = 1
          · rw [hm true (decide_eq_true (Or.inr (Or.inr (Or.inr a4)))), if_pos a4]
            exact k1
          · rw [hm false (decide_eq_false (fun q => by rcases q with q | q | q | q; exact a1 q; exact q a2; exact a3 q; exact a4 q)), if_neg a4, if_pos trivial, if_pos trivial]
            exact k0
      · rw [hm true (decide_eq_true (Or.inr (Or.inl a2)))]
        simp only [if_neg a2, ite_self]
        exact k1
theorem tr1 (R : Rel n T v u) {t : Nat} (ht : t < 2) (fl : Bool) (fuel : Nat) : fX5_traffic_2 (bi fl) (fuel + 1) u (nI t) = fX5_traffic_2 (bi fl) fuel (sndR u (14 * t) (bi (ms v t fl))) (nI (t + 1)) := by
  have hin : inb (nI t) 2 := inb_nI ht (by decide)
  have hin2 : inb (nI (14 * t + 1)) 28 := inb_nI (by omega) (by decide)
  have k : ∀ b : Bool, fX5_traffic_64 (fun v l2 => fX5_traffic_2 (bi fl) fuel v l2) (bi fl) u (nI t) (nI (14 * t)) (bi b) = fX5_traffic_2 (bi fl) fuel (sndR u (14 * t) (bi b)) (nI (t + 1)) := by
    intro b
    unfold fX5_traffic_64 fX5_traffic_78
    rw [nI_1]
    cases b with
    | false => rw [if_pos (show bi false = 0 from rfl), send5 (by omega)]; rfl
    | true => rw [if_neg (show ¬ bi true = 0 by decide), send5 (by omega)]; rfl
  have k1 := k true
  have k0 := k false
  rw [fX5_traffic_2, if_neg (show ¬ (2 : Int32) ≤ nI t from nI_ge (a := t) (b := 2) ht (by decide)), i14_1, i14_0]
  simp only [gd_pos hin, gd_pos hin2, nI_c (show t < 2 ^ 31 by omega), nI_c (show 14 * t + 1 < 2 ^ 31 by omega)]
  rw [← R.E.T10 ht, ← R.E.T5 ht, ← R.E.D40 ht, ← R.E.D41 ht]
  cases fl with
  | true => rw [if_neg (show ¬ bi true = 0 by decide)]; exact k1
  | false =>
    rw [if_pos (show bi false = 0 from rfl)]
    have hm : ∀ b, decide (v (2 + 41 * t) 10 = 1 ∨ v (2 + 41 * t) 5 ≠ 0 ∨ v (2 + 41 * t + 4) 0 = 1 ∨ v (2 + 41 * t + 4) 1 = 1) = b → ms v t false = b := fun b q => by unfold ms; rw [q]; rfl
    by_cases a1 : v (2 + 41 * t) 10 = 1
    · rw [hm true (decide_eq_true (Or.inl a1)), if_pos a1]; exact k1
    · rw [if_neg a1]
      by_cases a2 : v (2 + 41 * t) 5 = 0
      · rw [if_pos a2]
        by_cases a3 : v (2 + 41 * t + 4) 0 = 1
        · rw [hm true (decide_eq_true (Or.inr (Or.inr (Or.inl a3)))), if_pos a3]; exact k1
        · rw [if_neg a3]
          by_cases a4 : v (2 + 41 * t + 4) 1 = 1
          · rw [hm true (decide_eq_true (Or.inr (Or.inr (Or.inr a4)))), if_pos a4]; exact k1
          · rw [hm false (decide_eq_false (fun q => by rcases q with q | q | q | q; exact a1 q; exact q a2; exact a3 q; exact a4 q)), if_neg a4]; exact k0
      · rw [hm true (decide_eq_true (Or.inr (Or.inl a2))), if_neg a2]; exact k1
theorem tr2 (R : Rel n T v u) (h34 : u 0 34 = 0) {t : Nat} (ht : t < 2) (fl : Bool) (fuel : Nat) : fX5_traffic_89 (bi fl) (fuel + 1) u (nI t) = fX5_traffic_89 (bi fl) fuel (sndR u (14 * t + 1) (bi (mc v t T fl))) (nI (t + 1)) := by
  have hin : inb (nI (14 * t + 1)) 28 := inb_nI (by omega) (by decide)
  have k : ∀ (kb : Mem → Int32 → Option Mem) (b : Bool), fX5_traffic_164 kb (bi fl) u (nI t) (nI (14 * t + 1)) (bi b) = kb (sndR u (14 * t + 1) (bi b)) (nI (t + 1)) := by
    intro kb b
    unfold fX5_traffic_164 fX5_traffic_165 fX5_traffic_180
    rw [gd_pos (Or.inl rfl), up2_same h34, nI_1]
    cases b with
    | false => rw [if_pos (show bi false = 0 from rfl), send5 (by omega)]; rfl
    | true => rw [if_neg (show ¬ bi true = 0 by decide), send5 (by omega)]; rfl
  rw [fX5_traffic_89, if_neg (show ¬ (2 : Int32) ≤ nI t from nI_ge (a := t) (b := 2) ht (by decide)), i14_1]
  unfold fX5_traffic_127 fX5_traffic_128
  simp only [gd_pos hin, nI_c (show 14 * t + 1 < 2 ^ 31 by omega), h34, ha5 R ht, bd_some, if_true]
  rw [← R.E.D40 ht]
  cases fl with
  | false => rw [if_pos (show bi false = 0 from rfl)]; exact k _ false
  | true =>
    rw [if_neg (show ¬ bi true = 0 by decide)]
    unfold mc
    by_cases h1 : v (2 + 41 * t + 4) 0 = 1
    · rw [if_pos h1, decide_eq_true h1, if_neg (show ¬ (1 : Int32) = 0 by decide), h1, if_neg (show ¬ (1 : Int32) = 0 by decide)]
      exact k _ true
    · rw [if_neg h1, decide_eq_false h1]
      cases hal v t T with
      | false => rw [if_pos (show bi false = 0 from rfl)]; exact k _ false
      | true =>
        rw [if_neg (show ¬ bi true = 0 by decide), if_neg (show ¬ (1 : Int32) = 0 by decide), if_neg (show ¬ bi true = 0 by decide), ite_self]
        exact k _ true
def NB (T : Nat) (v : Mem) : Prop := ∀ t, t < 2 → v (2 + 41 * t + 4) 2 ≠ nI T
def CO (T : Nat) (v : Mem) : Prop := ∀ t, t < 2 → v (2 + 41 * t + 4) 0 = 1 → v (2 + 41 * t + 4) 2 = nI T → hal v t T = true
theorem co_step {a : Mem} {t : Nat} {fl : Bool} (h : a (2 + 41 * t + 4) 2 ≠ nI T) : (snd a (2 + 41 * t + 4) (bi (mc a t T fl)) (nI T)) (2 + 41 * t + 4) 0 = 1 → (snd a (2 + 41 * t + 4) (bi (mc a t T fl)) (nI T)) (2 + 41 * t + 4) 2 = nI T → hal a t T = true := by
  intro h1 h2
  rw [snd_0] at h1
  cases hm : mc a t T fl with
  | false => rw [hm] at h1; exact absurd h1 (by decide)
  | true =>
    unfold mc at hm
    rw [Bool.and_eq_true, Bool.or_eq_true, decide_eq_true_eq] at hm
    rcases hm.2 with q | q
    · exfalso
      apply h
      rw [← h2]
      unfold snd
      rw [if_pos]
      rw [q, show mc a t T fl = true by unfold mc; rw [hm.1, decide_eq_true q]; rfl]; rfl
    · exact q
theorem p_traffic (h : RF (NB T) 0 n T v u) (fl : Bool) : ∃ v' u', ((fX3_commandTraffic 2 (bi fl) (nI T) v).bind fun v24 => fX3_commandTraffic 43 (bi fl) (nI T) v24) = some v' ∧ fX5_traffic (bi fl) u = some u' ∧ RF (CO T) 0 n T v' u' ∧ v' 0 6 = v 0 6 := by
  obtain ⟨R, h00, h07, h34, hNB⟩ := h
  have c0 := ct4 0 T fl v
  have c0 : fX3_commandTraffic 2 (bi fl) (nI T) v = some (snd (snd v 5 (bi (ms v 0 fl)) (nI T)) 6 (bi (mc (snd v 5 (bi (ms v 0 fl)) (nI T)) 0 T fl)) (nI T)) := c0
  rw [c0]
  simp only [Option.bind_some]
  generalize ha0 : snd v 5 (bi (ms v 0 fl)) (nI T) = a0
  have hb0 : ∀ y, ms (snd a0 6 y (nI T)) 1 fl = ms a0 1 fl := fun y => by
    unfold ms
    rw [show (snd a0 6 y (nI T)) (2 + 41 * 1) 10 = a0 (2 + 41 * 1) 10 from snd_n (by decide) _, show (snd a0 6 y (nI T)) (2 + 41 * 1) 5 = a0 (2 + 41 * 1) 5 from snd_n (by decide) _, show (snd a0 6 y (nI T)) (2 + 41 * 1 + 4) 0 = a0 (2 + 41 * 1 + 4) 0 from snd_n (by decide) _, show (snd a0 6 y (nI T)) (2 + 41 * 1 + 4) 1 = a0 (2 + 41 * 1 + 4) 1 from snd_n (by decide) _]
  have hc : ∀ x, mc (snd a0 46 x (nI T)) 0 T fl = mc a0 0 T fl := fun x => by
    unfold mc
    rw [hal_congr (v := a0) (fun j => snd_n (by decide) j), show (snd a0 46 x (nI T)) (2 + 41 * 0 + 4) 0 = a0 (2 + 41 * 0 + 4) 0 from snd_n (by decide) _]
  have c1 := ct4 1 T fl (snd a0 6 (bi (mc a0 0 T fl)) (nI T))
  rw [hb0] at c1
  have c1 : fX3_commandTraffic 43 (bi fl) (nI T) (snd a0 6 (bi (mc a0 0 T fl)) (nI T)) = some (snd (snd (snd a0 6 (bi (mc a0 0 T fl)) (nI T)) 46 (bi (ms a0 1 fl)) (nI T)) 47 (bi (mc (snd (snd a0 6 (bi (mc a0 0 T fl)) (nI T)) 46 (bi (ms a0 1 fl)) (nI T)) 1 T fl)) (nI T)) := c1
  rw [c1, snd_comm (v := a0) (a := 6) (b := 46) (by decide)]
  generalize ha1 : snd a0 46 (bi (ms a0 1 fl)) (nI T) = a1
  have hc1 : mc a1 0 T fl = mc a0 0 T fl := by rw [← ha1]; exact hc _
  generalize hb : snd a1 6 (bi (mc a0 0 T fl)) (nI T) = b0
  have R1 : Rel n T a0 (sndR u 0 (bi (ms v 0 fl))) := by rw [← ha0]; exact R.snd3 (t := 0) (by decide) _
  have R2 : Rel n T a1 (sndR (sndR u 0 (bi (ms v 0 fl))) 14 (bi (ms a0 1 fl))) := by rw [← ha1]; exact R1.snd3 (t := 1) (by decide) _
  have R3 : Rel n T b0 (sndR (sndR (sndR u 0 (bi (ms v 0 fl))) 14 (bi (ms a0 1 fl))) 1 (bi (mc a1 0 T fl))) := by rw [← hb, ← hc1]; exact R2.snd4 (t := 0) (by decide) _
  have R4 := R3.snd4 (t := 1) (by decide) (bi (mc b0 1 T fl))
  refine ⟨_, _, rfl, ?_, ⟨R4, ?_, ?_, ?_, ?_⟩, ?_⟩
  · unfold fX5_traffic
    have t1 := tr1 R (t := 0) (by decide) fl 999
    have t2 := tr1 R1 (t := 1) (by decide) fl 998
    have z34 : (sndR (sndR u 0 (bi (ms v 0 fl))) 14 (bi (ms a0 1 fl))) 0 34 = 0 := by rw [sndR_n (by decide) (by decide), sndR_n (by decide) (by decide)]; exact h34
    have t3 := tr2 R2 z34 (t := 0) (by decide) fl 999
    have t4 := tr2 R3 (by rw [sndR_n (by decide) (by decide)]; exact z34) (t := 1) (by decide) fl 998
    refine (show fX5_traffic_2 (bi fl) (999 + 1) u (nI 0) = _ from t1).trans ?_
    refine (show fX5_traffic_2 (bi fl) (998 + 1) (sndR u (14 * 0) (bi (ms v 0 fl))) (nI (0 + 1)) = _ from t2).trans ?_
    rw [show fX5_traffic_2 (bi fl) 998 (sndR (sndR u 0 (bi (ms v 0 fl))) (14 * 1) (bi (ms a0 1 fl))) (nI (1 + 1)) = fX5_traffic_89 (bi fl) 1000 (sndR (sndR u 0 (bi (ms v 0 fl))) (14 * 1) (bi (ms a0 1 fl))) 0 from by rw [show (998 : Nat) = 997 + 1 from rfl, fX5_traffic_2, if_pos (by decide)]]
    refine (show fX5_traffic_89 (bi fl) (999 + 1) (sndR (sndR u 0 (bi (ms v 0 fl))) 14 (bi (ms a0 1 fl))) (nI 0) = _ from t3).trans ?_
    refine (show fX5_traffic_89 (bi fl) (998 + 1) (sndR (sndR (sndR u 0 (bi (ms v 0 fl))) 14 (bi (ms a0 1 fl))) (14 * 0 + 1) (bi (mc a1 0 T fl))) (nI (0 + 1)) = _ from t4).trans ?_
    rw [show (998 : Nat) = 997 + 1 from rfl, fX5_traffic_89, if_pos (by decide)]
  · rw [sndR_n (by decide) (by decide), sndR_n (by decide) (by decide), sndR_n (by decide) (by decide), sndR_n (by decide) (by decide)]; exact h00
  · rw [snd_n (by decide), ← hb, snd_n (by decide), ← ha1, snd_n (by decide), ← ha0, snd_n (by decide)]; exact h07
  · rw [sndR_n (by decide) (by decide), sndR_n (by decide) (by decide), sndR_n (by decide) (by decide), sndR_n (by decide) (by decide)]; exact h34
  · intro t ht
    rcases (show t = 0 ∨ t = 1 by omega) with rfl | rfl
    · have e0 : a1 (2 + 41 * 0 + 4) 2 ≠ nI T := by
        rw [← ha1, snd_n (by decide), ← ha0, snd_n (by decide)]; exact hNB 0 (by decide)
      have k := co_step (T := T) (a := a1) (t := 0) (fl := fl) e0
      rw [hc1] at k
      have k : (snd a1 6 (bi (mc a0 0 T fl)) (nI T)) 6 0 = 1 → (snd a1 6 (bi (mc a0 0 T fl)) (nI T)) 6 2 = nI T → hal a1 0 T = true := k
      rw [hb] at k
      have hh : hal (snd b0 (2 + 41 * 1 + 4) (bi (mc b0 1 T fl)) (nI T)) 0 T = hal a1 0 T := by
        rw [hal_congr (v := b0) (fun j => snd_n (by decide) j), ← hb]
        exact hal_congr (fun j => snd_n (by decide) j)
      rw [hh, snd_n (by decide), snd_n (by decide)]
      exact k
    · have e1 : b0 (2 + 41 * 1 + 4) 2 ≠ nI T := by
        rw [← hb, snd_n (by decide), ← ha1, snd_n (by decide), ← ha0, snd_n (by decide)]; exact hNB 1 (by decide)
      have k := co_step (T := T) (a := b0) (t := 1) (fl := fl) e1
      have hh : hal (snd b0 (2 + 41 * 1 + 4) (bi (mc b0 1 T fl)) (nI T)) 1 T = hal b0 1 T := hal_congr (fun j => snd_n (by decide) j)
      rw [hh]
      exact k
  · rw [snd_n (by decide), ← hb, snd_n (by decide), ← ha1, snd_n (by decide), ← ha0, snd_n (by decide)]
end TR
