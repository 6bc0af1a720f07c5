/-! the class: thing 0 the watch, 1 its counts; tube t at 2 + 41 t: +1 sections' row, +2 fans' row, +3 signals, +4 barrier, +5+f fan f, +17+s section s -/
def kq (n q : Nat) : Nat := if q = 0 then 3 else if q = 1 then 9 else if q = 2 then 8 else if q < 5 then 0 else if q < 17 then 1 else if q < 17 + n ∧ q < 41 then 2 else 10
def kC (n o : Nat) : Nat := if o = 0 then 4 else if o = 1 then 6 else kq n (if o < 43 then o - 2 else o - 43)
def Lc (n : Nat) : List Nat := (List.range 84).filter (fun o => decide (kC n o ≠ 10))
theorem Lc_nd (n : Nat) : (Lc n).Nodup := List.Nodup.sublist (List.filter_sublist) List.nodup_range
theorem kq_big {n q : Nat} (h : 41 ≤ q) : kq n q = 10 := by
  unfold kq
  repeat (first | rw [if_neg (by omega)])
theorem Lc_mem {n o k : Nat} (h : kC n o = k) (hk : k ≠ 10) : o ∈ Lc n := by
  have h1 : kC n o ≠ 10 := by rw [h]; exact hk
  refine List.mem_filter.mpr ⟨List.mem_range.mpr ?_, by simpa using h1⟩
  rcases Nat.lt_or_ge o 84 with h2 | h2
  · exact h2
  · exfalso
    apply h1
    unfold kC
    rw [if_neg (by omega), if_neg (by omega), if_neg (by omega)]
    exact kq_big (by omega)
theorem kC_0 (n : Nat) : kC n 0 = 4 := rfl
theorem kC_1 (n : Nat) : kC n 1 = 6 := rfl
theorem kC_2 (n : Nat) : kC n 2 = 3 := rfl
theorem kC_43 (n : Nat) : kC n 43 = 3 := rfl
theorem kC_is4 {n o : Nat} (h : kC n o = 4) : o = 0 := by
  rcases Nat.eq_zero_or_pos o with h0 | h0
  · exact h0
  · exfalso
    unfold kC kq at h
    rw [if_neg (by omega)] at h
    repeat' (first | (exfalso; omega) | split at h)
theorem kC_is3 {n o : Nat} (h : kC n o = 3) : o = 2 ∨ o = 43 := by
  unfold kC at h
  by_cases h0 : o = 0
  · rw [if_pos h0] at h; cases h
  · rw [if_neg h0] at h
    by_cases h1 : o = 1
    · rw [if_pos h1] at h; cases h
    · rw [if_neg h1] at h
      by_cases h2 : o < 43
      · rw [if_pos h2] at h
        unfold kq at h
        by_cases h3 : o - 2 = 0
        · omega
        · rw [if_neg h3] at h
          repeat' (first | (exfalso; omega) | split at h)
      · rw [if_neg h2] at h
        unfold kq at h
        by_cases h3 : o - 43 = 0
        · omega
        · rw [if_neg h3] at h
          repeat' (first | (exfalso; omega) | split at h)
theorem kC_sec {n o : Nat} (h : kC n o = 3) : kC n (o + 1) = 9 := by rcases kC_is3 h with rfl | rfl <;> rfl
theorem kC_fan {n o : Nat} (h : kC n o = 3) : kC n (o + 2) = 8 := by rcases kC_is3 h with rfl | rfl <;> rfl
theorem kC_sig {n o : Nat} (h : kC n o = 3) : kC n (o + 3) = 0 := by rcases kC_is3 h with rfl | rfl <;> rfl
theorem kC_bar {n o : Nat} (h : kC n o = 3) : kC n (o + 4) = 0 := by rcases kC_is3 h with rfl | rfl <;> rfl
theorem kC_f {n o j : Nat} (h : kC n o = 3) (hj : j < 12) : kC n (o + 5 + j) = 1 := by
  rcases kC_is3 h with rfl | rfl
  · unfold kC
    rw [if_neg (by omega), if_neg (by omega), if_pos (by omega)]
    unfold kq
    rw [if_neg (by omega), if_neg (by omega), if_neg (by omega), if_neg (by omega), if_pos (by omega)]
  · unfold kC
    rw [if_neg (by omega), if_neg (by omega), if_neg (by omega)]
    unfold kq
    rw [if_neg (by omega), if_neg (by omega), if_neg (by omega), if_neg (by omega), if_pos (by omega)]
theorem kC_s {n o j : Nat} (h : kC n o = 3) (hn : n ≤ 24) (hj : j < n) : kC n (o + 17 + j) = 2 := by
  rcases kC_is3 h with rfl | rfl
  · unfold kC
    rw [if_neg (by omega), if_neg (by omega), if_pos (by omega)]
    unfold kq
    rw [if_neg (by omega), if_neg (by omega), if_neg (by omega), if_neg (by omega), if_neg (by omega), if_pos (by omega)]
  · unfold kC
    rw [if_neg (by omega), if_neg (by omega), if_neg (by omega)]
    unfold kq
    rw [if_neg (by omega), if_neg (by omega), if_neg (by omega), if_neg (by omega), if_neg (by omega), if_pos (by omega)]
abbrev fs0 (ad : Nat → Nat) (o : Nat) (r : Nat → Int32) : List Value := [.int (r 0), .int (r 1), .int (r 2), .int (r 3), .int (r 4), .int (r 5)]
abbrev fs1 (ad : Nat → Nat) (o : Nat) (r : Nat → Int32) : List Value := [.int (r 0), .int (r 1), .int (r 2), .int (r 3), .int (r 4), .int (r 5), .int (r 6), .int (r 7), .int (r 8)]
abbrev fs2 (ad : Nat → Nat) (o : Nat) (r : Nat → Int32) : List Value := [.int (r 0), .int (r 1), .int (r 2), .int (r 3), .int (r 4), .int (r 5), .int (r 6), .int (r 7)]
abbrev fs3 (ad : Nat → Nat) (o : Nat) (r : Nat → Int32) : List Value := [.ref (ad (o + 1)), .ref (ad (o + 3)), .ref (ad (o + 4)), .ref (ad (o + 2)), .int (r 4), .int (r 5), .int (r 6), .int (r 7), .int (r 8), .int (r 9), .int (r 10), .int (r 11)]
abbrev fs4 (ad : Nat → Nat) (o : Nat) (r : Nat → Int32) : List Value := [.int (r 0), .int (r 1), .ref (ad 2), .ref (ad 43), .ref (ad 1), .int (r 5), .int (r 6), .int (r 7), .int (r 8)]
def shC (cI cS cF : ClassId) (ad : Nat → Nat) (n o : Nat) (r : Nat → Int32) : va_E := if kC n o = 4 then .inr (4, fs4 ad o r) else if kC n o = 6 then .inl (cI, 10, .inl r) else if kC n o = 3 then .inr (3, fs3 ad o r) else if kC n o = 9 then .inl (cS, n, .inr (.inr (.inr (.inr (fun j => some (ad (o + 16 + j))))))) else if kC n o = 8 then .inl (cF, 12, .inr (.inr (.inr (.inr (fun j => some (ad (o + 3 + j))))))) else if kC n o = 0 then .inr (0, fs0 ad o r) else if kC n o = 1 then .inr (1, fs1 ad o r) else .inr (2, fs2 ad o r)
theorem shC_0 {cI cS cF : ClassId} {ad : Nat → Nat} {n o : Nat} (h : kC n o = 0) (r : Nat → Int32) : shC cI cS cF ad n o r = .inr (0, fs0 ad o r) := by
  unfold shC
  rw [if_neg (by rw [h]; decide), if_neg (by rw [h]; decide), if_neg (by rw [h]; decide), if_neg (by rw [h]; decide), if_neg (by rw [h]; decide), if_pos h]
theorem shC_1 {cI cS cF : ClassId} {ad : Nat → Nat} {n o : Nat} (h : kC n o = 1) (r : Nat → Int32) : shC cI cS cF ad n o r = .inr (1, fs1 ad o r) := by
  unfold shC
  rw [if_neg (by rw [h]; decide), if_neg (by rw [h]; decide), if_neg (by rw [h]; decide), if_neg (by rw [h]; decide), if_neg (by rw [h]; decide), if_neg (by rw [h]; decide), if_pos h]
theorem shC_2 {cI cS cF : ClassId} {ad : Nat → Nat} {n o : Nat} (h : kC n o = 2) (r : Nat → Int32) : shC cI cS cF ad n o r = .inr (2, fs2 ad o r) := by
  unfold shC
  rw [if_neg (by rw [h]; decide), if_neg (by rw [h]; decide), if_neg (by rw [h]; decide), if_neg (by rw [h]; decide), if_neg (by rw [h]; decide), if_neg (by rw [h]; decide), if_neg (by rw [h]; decide)]
theorem shC_3 {cI cS cF : ClassId} {ad : Nat → Nat} {n o : Nat} (h : kC n o = 3) (r : Nat → Int32) : shC cI cS cF ad n o r = .inr (3, fs3 ad o r) := by
  unfold shC
  rw [if_neg (by rw [h]; decide), if_neg (by rw [h]; decide), if_pos h]
theorem shC_4 {cI cS cF : ClassId} {ad : Nat → Nat} {n o : Nat} (h : kC n o = 4) (r : Nat → Int32) : shC cI cS cF ad n o r = .inr (4, fs4 ad o r) := by
  unfold shC
  rw [if_pos h]
theorem shC_6 {cI cS cF : ClassId} {ad : Nat → Nat} {n o : Nat} (h : kC n o = 6) (r : Nat → Int32) : shC cI cS cF ad n o r = .inl (cI, 10, .inl r) := by
  unfold shC
  rw [if_neg (by rw [h]; decide), if_pos h]
theorem shC_9 {cI cS cF : ClassId} {ad : Nat → Nat} {n o : Nat} (h : kC n o = 9) (r : Nat → Int32) : shC cI cS cF ad n o r = .inl (cS, n, .inr (.inr (.inr (.inr (fun j => some (ad (o + 16 + j))))))) := by
  unfold shC
  rw [if_neg (by rw [h]; decide), if_neg (by rw [h]; decide), if_neg (by rw [h]; decide), if_pos h]
theorem shC_8 {cI cS cF : ClassId} {ad : Nat → Nat} {n o : Nat} (h : kC n o = 8) (r : Nat → Int32) : shC cI cS cF ad n o r = .inl (cF, 12, .inr (.inr (.inr (.inr (fun j => some (ad (o + 3 + j))))))) := by
  unfold shC
  rw [if_neg (by rw [h]; decide), if_neg (by rw [h]; decide), if_neg (by rw [h]; decide), if_neg (by rw [h]; decide), if_pos h]
/-! the reference: thing 0 itself, thing k the row that its field k holds -/
def kR (o : Nat) : Nat := if o = 0 then 5 else if o < 5 ∨ 32 < o then 10 else if o = 10 ∨ o = 11 ∨ o = 18 ∨ o = 19 ∨ o = 27 then 7 else 6
def nR (o : Nat) : Nat := if o = 5 then 2 else if o < 17 then 28 else if o < 25 then 48 else if o < 32 then 2 else 20001
def Lr : List Nat := (List.range 33).filter (fun o => decide (kR o ≠ 10))
theorem Lr_nd : Lr.Nodup := List.Nodup.sublist (List.filter_sublist) List.nodup_range
theorem Lr_mem {o : Nat} (h : o = 0 ∨ (5 ≤ o ∧ o ≤ 32)) : o ∈ Lr := by
  refine List.mem_filter.mpr ⟨List.mem_range.mpr (by omega), ?_⟩
  have h1 : kR o ≠ 10 := by
    unfold kR
    by_cases h0 : o = 0
    · rw [if_pos h0]; decide
    · rw [if_neg h0, if_neg (by omega)]
      split <;> decide
  simpa using h1
abbrev fs5 (ad : Nat → Nat) (r : Nat → Int32) : List Value := [.int (r 0), .int (r 1), .int (r 2), .int (r 3), .int (r 4), .ref (ad 5), .ref (ad 6), .ref (ad 7), .ref (ad 8), .ref (ad 9), .ref (ad 10), .ref (ad 11), .ref (ad 12), .ref (ad 13), .ref (ad 14), .ref (ad 15), .ref (ad 16), .ref (ad 17), .ref (ad 18), .ref (ad 19), .ref (ad 20), .ref (ad 21), .ref (ad 22), .ref (ad 23), .ref (ad 24), .ref (ad 25), .ref (ad 26), .ref (ad 27), .ref (ad 28), .ref (ad 29), .ref (ad 30), .ref (ad 31), .ref (ad 32), .int (r 33), .int (r 34)]
def shR (cI cZ : ClassId) (ad : Nat → Nat) (o : Nat) (r : Nat → Int32) : va_E := if kR o = 5 then .inr (5, fs5 ad r) else if kR o = 7 then .inl (cZ, nR o, .inl r) else .inl (cI, nR o, .inl r)
theorem shR_0 {cI cZ : ClassId} {ad : Nat → Nat} (r : Nat → Int32) : shR cI cZ ad 0 r = .inr (5, fs5 ad r) := rfl
theorem shR_5 {cI cZ : ClassId} {ad : Nat → Nat} (r : Nat → Int32) : shR cI cZ ad 5 r = .inl (cI, 2, .inl r) := rfl
theorem shR_6 {cI cZ : ClassId} {ad : Nat → Nat} (r : Nat → Int32) : shR cI cZ ad 6 r = .inl (cI, 28, .inl r) := rfl
theorem shR_7 {cI cZ : ClassId} {ad : Nat → Nat} (r : Nat → Int32) : shR cI cZ ad 7 r = .inl (cI, 28, .inl r) := rfl
theorem shR_8 {cI cZ : ClassId} {ad : Nat → Nat} (r : Nat → Int32) : shR cI cZ ad 8 r = .inl (cI, 28, .inl r) := rfl
theorem shR_9 {cI cZ : ClassId} {ad : Nat → Nat} (r : Nat → Int32) : shR cI cZ ad 9 r = .inl (cI, 28, .inl r) := rfl
theorem shR_10 {cI cZ : ClassId} {ad : Nat → Nat} (r : Nat → Int32) : shR cI cZ ad 10 r = .inl (cZ, 28, .inl r) := rfl
theorem shR_11 {cI cZ : ClassId} {ad : Nat → Nat} (r : Nat → Int32) : shR cI cZ ad 11 r = .inl (cZ, 28, .inl r) := rfl
theorem shR_12 {cI cZ : ClassId} {ad : Nat → Nat} (r : Nat → Int32) : shR cI cZ ad 12 r = .inl (cI, 28, .inl r) := rfl
theorem shR_13 {cI cZ : ClassId} {ad : Nat → Nat} (r : Nat → Int32) : shR cI cZ ad 13 r = .inl (cI, 28, .inl r) := rfl
theorem shR_14 {cI cZ : ClassId} {ad : Nat → Nat} (r : Nat → Int32) : shR cI cZ ad 14 r = .inl (cI, 28, .inl r) := rfl
theorem shR_15 {cI cZ : ClassId} {ad : Nat → Nat} (r : Nat → Int32) : shR cI cZ ad 15 r = .inl (cI, 28, .inl r) := rfl
theorem shR_16 {cI cZ : ClassId} {ad : Nat → Nat} (r : Nat → Int32) : shR cI cZ ad 16 r = .inl (cI, 28, .inl r) := rfl
theorem shR_17 {cI cZ : ClassId} {ad : Nat → Nat} (r : Nat → Int32) : shR cI cZ ad 17 r = .inl (cI, 48, .inl r) := rfl
theorem shR_18 {cI cZ : ClassId} {ad : Nat → Nat} (r : Nat → Int32) : shR cI cZ ad 18 r = .inl (cZ, 48, .inl r) := rfl
theorem shR_19 {cI cZ : ClassId} {ad : Nat → Nat} (r : Nat → Int32) : shR cI cZ ad 19 r = .inl (cZ, 48, .inl r) := rfl
theorem shR_20 {cI cZ : ClassId} {ad : Nat → Nat} (r : Nat → Int32) : shR cI cZ ad 20 r = .inl (cI, 48, .inl r) := rfl
theorem shR_21 {cI cZ : ClassId} {ad : Nat → Nat} (r : Nat → Int32) : shR cI cZ ad 21 r = .inl (cI, 48, .inl r) := rfl
theorem shR_22 {cI cZ : ClassId} {ad : Nat → Nat} (r : Nat → Int32) : shR cI cZ ad 22 r = .inl (cI, 48, .inl r) := rfl
theorem shR_23 {cI cZ : ClassId} {ad : Nat → Nat} (r : Nat → Int32) : shR cI cZ ad 23 r = .inl (cI, 48, .inl r) := rfl
theorem shR_24 {cI cZ : ClassId} {ad : Nat → Nat} (r : Nat → Int32) : shR cI cZ ad 24 r = .inl (cI, 48, .inl r) := rfl
theorem shR_25 {cI cZ : ClassId} {ad : Nat → Nat} (r : Nat → Int32) : shR cI cZ ad 25 r = .inl (cI, 2, .inl r) := rfl
theorem shR_26 {cI cZ : ClassId} {ad : Nat → Nat} (r : Nat → Int32) : shR cI cZ ad 26 r = .inl (cI, 2, .inl r) := rfl
theorem shR_27 {cI cZ : ClassId} {ad : Nat → Nat} (r : Nat → Int32) : shR cI cZ ad 27 r = .inl (cZ, 2, .inl r) := rfl
theorem shR_28 {cI cZ : ClassId} {ad : Nat → Nat} (r : Nat → Int32) : shR cI cZ ad 28 r = .inl (cI, 2, .inl r) := rfl
theorem shR_29 {cI cZ : ClassId} {ad : Nat → Nat} (r : Nat → Int32) : shR cI cZ ad 29 r = .inl (cI, 2, .inl r) := rfl
theorem shR_30 {cI cZ : ClassId} {ad : Nat → Nat} (r : Nat → Int32) : shR cI cZ ad 30 r = .inl (cI, 2, .inl r) := rfl
theorem shR_31 {cI cZ : ClassId} {ad : Nat → Nat} (r : Nat → Int32) : shR cI cZ ad 31 r = .inl (cI, 2, .inl r) := rfl
theorem shR_32 {cI cZ : ClassId} {ad : Nat → Nat} (r : Nat → Int32) : shR cI cZ ad 32 r = .inl (cI, 20001, .inl r) := rfl
section SKH
variable {p : Program} {l : Launch} {e : Env} {R : Room} {s : State} {m : MethodId} {args : Array Value} {below : List Frame} {meth : Method} {c : Code} {cc : ByteArray} {nL : Nat} {Ts : List Cond} {own : String} {D : va_G} {A : Nat → Prop} {cells slots : Nat} {ρ : Type} {Q : ρ → State → Prop} {pc : Nat} {lv : List (Nat × Value)} {st : List Value} {K : Option ρ} {cI cS cF cZ cJ : ClassId} {ad : Nat → Nat} {n : Nat} {v : Mem} {X : va_W}
abbrev Wc (cI cS cF : ClassId) (ad : Nat → Nat) (n : Nat) (X : va_W) (v : Mem) : va_W := ow (Lc n) ad (shC cI cS cF ad n) v ++ X
abbrev Wr (cI cZ : ClassId) (ad : Nat → Nat) (X : va_W) (v : Mem) : va_W := ow Lr ad (shR cI cZ ad) v ++ X
theorem sk_aldF (F : CallFix p m c cc nL s args Ts own) (hK : va_K D vwCl (ty5 cI cS cF cZ cJ) s) {o : Nat} {i : Int32} (ho : kC n o = 3) (hd : decode cc pc = .ok (.aaload, 1)) (kk : inb i 12 → sk p l e R s m args below meth c D A nL cells slots Q (Wc cI cS cF ad n X v) (pc + 1) lv (.ref (ad (o + 5 + i.toNatClampNeg)) :: st) K) : sk p l e R s m args below meth c D A nL cells slots Q (Wc cI cS cF ad n X v) pc lv (.int i :: .ref (ad (o + 2)) :: st) (gd (inb i 12) K) :=
  sk_aald (g := fun j => o + 2 + 3 + j) F hK (Lc_mem (kC_fan ho) (by decide)) (shC_8 (kC_fan ho) _) 2 rfl hd kk
theorem sk_aldS (F : CallFix p m c cc nL s args Ts own) (hK : va_K D vwCl (ty5 cI cS cF cZ cJ) s) {o : Nat} {i : Int32} (ho : kC n o = 3) (hd : decode cc pc = .ok (.aaload, 1)) (kk : inb i n → sk p l e R s m args below meth c D A nL cells slots Q (Wc cI cS cF ad n X v) (pc + 1) lv (.ref (ad (o + 17 + i.toNatClampNeg)) :: st) K) : sk p l e R s m args below meth c D A nL cells slots Q (Wc cI cS cF ad n X v) pc lv (.int i :: .ref (ad (o + 1)) :: st) (gd (inb i n) K) :=
  sk_aald (g := fun j => o + 1 + 16 + j) F hK (Lc_mem (kC_sec ho) (by decide)) (shC_9 (kC_sec ho) _) 1 rfl hd kk
theorem sk_lenS (F : CallFix p m c cc nL s args Ts own) (hK : va_K D vwCl (ty5 cI cS cF cZ cJ) s) {o : Nat} (ho : kC n o = 3) (hd : decode cc pc = .ok (.arraylength, 1)) (kk : sk p l e R s m args below meth c D A nL cells slots Q (Wc cI cS cF ad n X v) (pc + 1) lv (.int (nI n) :: st) K) : sk p l e R s m args below meth c D A nL cells slots Q (Wc cI cS cF ad n X v) pc lv (.ref (ad (o + 1)) :: st) K :=
  sk_alen F hK (Lc_mem (kC_sec ho) (by decide)) (shC_9 (kC_sec ho) _) 1 rfl rfl hd kk
theorem sk_lenF (F : CallFix p m c cc nL s args Ts own) (hK : va_K D vwCl (ty5 cI cS cF cZ cJ) s) {o : Nat} (ho : kC n o = 3) (hd : decode cc pc = .ok (.arraylength, 1)) (kk : sk p l e R s m args below meth c D A nL cells slots Q (Wc cI cS cF ad n X v) (pc + 1) lv (.int 12 :: st) K) : sk p l e R s m args below meth c D A nL cells slots Q (Wc cI cS cF ad n X v) pc lv (.ref (ad (o + 2)) :: st) K :=
  sk_alen F hK (Lc_mem (kC_fan ho) (by decide)) (shC_8 (kC_fan ho) _) 2 rfl rfl hd kk
theorem sk_lenC (F : CallFix p m c cc nL s args Ts own) (hK : va_K D vwCl (ty5 cI cS cF cZ cJ) s) (hd : decode cc pc = .ok (.arraylength, 1)) (kk : sk p l e R s m args below meth c D A nL cells slots Q (Wc cI cS cF ad n X v) (pc + 1) lv (.int 10 :: st) K) : sk p l e R s m args below meth c D A nL cells slots Q (Wc cI cS cF ad n X v) pc lv (.ref (ad 1) :: st) K :=
  sk_alen F hK (Lc_mem (kC_1 n) (by decide)) (shC_6 (kC_1 n) _) 0 rfl rfl hd kk
theorem sk_aldC (F : CallFix p m c cc nL s args Ts own) (hK : va_K D vwCl (ty5 cI cS cF cZ cJ) s) {i : Int32} (hd : decode cc pc = .ok (.iaload, 1)) (kk : inb i 10 → sk p l e R s m args below meth c D A nL cells slots Q (Wc cI cS cF ad n X v) (pc + 1) lv (.int (v 1 i.toNatClampNeg) :: st) K) : sk p l e R s m args below meth c D A nL cells slots Q (Wc cI cS cF ad n X v) pc lv (.int i :: .ref (ad 1) :: st) (gd (inb i 10) K) :=
  sk_iald F hK (Lc_mem (kC_1 n) (by decide)) (shC_6 (kC_1 n) _) 0 rfl hd kk
theorem sk_astC (F : CallFix p m c cc nL s args Ts own) (hK : va_K D vwCl (ty5 cI cS cF cZ cJ) s) {i x : Int32} (hd : decode cc pc = .ok (.iastore, 1)) (kk : inb i 10 → sk p l e R s m args below meth c D A nL cells slots Q (Wc cI cS cF ad n X (up2 v 1 i.toNatClampNeg x)) (pc + 1) lv st K) : sk p l e R s m args below meth c D A nL cells slots Q (Wc cI cS cF ad n X v) pc lv (.int x :: .int i :: .ref (ad 1) :: st) (gd (inb i 10) K) :=
  sk_iast F hK (Lc_nd n) (Lc_mem (kC_1 n) (by decide)) (shC_6 (kC_1 n)) 0 rfl hd kk
theorem sk_g0 (F : CallFix p m c cc nL s args Ts own) (hK : va_K D vwCl (ty5 cI cS cF cZ cJ) s) {o index : Nat} {ref : String} {x : Value} (ho : kC n o = 0) (hin : ∀ w ∈ wsX00, w ∈ Ts) (k : Nat) (hk : k < 6) (hlink : Cond.fieldLink own index ref (TX0 k).2.1 (TX0 k).2.2.1 ∈ Ts) (hsame : ∀ x, s.fieldFound? (TX0 k).1 (TX0 k).2.1 (TX0 k).2.2.1 = some x → s.fieldFound? ref (TX0 k).2.1 (TX0 k).2.2.1 = some x) (hv : (fs0 ad o (v o))[k]? = some x) (hd : decode cc pc = .ok (.getfield index, 3)) (kk : sk p l e R s m args below meth c D A nL cells slots Q (Wc cI cS cF ad n X v) (pc + 3) lv (x :: st) K) : sk p l e R s m args below meth c D A nL cells slots Q (Wc cI cS cF ad n X v) pc lv (.ref (ad o) :: st) K :=
  sk_get F hK (Lc_mem ho (by decide)) (shC_0 ho _) rfl hin k hk hlink hsame hv hd kk
theorem sk_p0 (F : CallFix p m c cc nL s args Ts own) (hK : va_K D vwCl (ty5 cI cS cF cZ cJ) s) {o index : Nat} {ref : String} {x : Int32} {ty : FieldType} (ho : kC n o = 0) (hin : ∀ w ∈ wsX00, w ∈ Ts) (k : Nat) (hk : k < 6) (hlink : Cond.fieldLink own index ref (TX0 k).2.1 (TX0 k).2.2.1 ∈ Ts) (hsame : ∀ x, s.fieldFound? (TX0 k).1 (TX0 k).2.1 (TX0 k).2.2.1 = some x → s.fieldFound? ref (TX0 k).2.1 (TX0 k).2.2.1 = some x) (hfin : (TX0 k).2.2.2 = false) (hpd : parseFieldDescriptor (TX0 k).2.2.1 = some ty) (hn : narrow ty (.int x) = .int x) (hfit : fits ty (.int x) = true) (hset : (fs0 ad o (v o)).set k (.int x) = fs0 ad o (upd (v o) k x)) (hd : decode cc pc = .ok (.putfield index, 3)) (kk : sk p l e R s m args below meth c D A nL cells slots Q (Wc cI cS cF ad n X (up2 v o k x)) (pc + 3) lv st K) : sk p l e R s m args below meth c D A nL cells slots Q (Wc cI cS cF ad n X v) pc lv (.int x :: .ref (ad o) :: st) K :=
  sk_put F hK (Lc_nd n) (Lc_mem ho (by decide)) (shC_0 ho) rfl hin tyX0 tyX0_ok nmX0 k hk hlink hsame hfin hpd hn hfit hk hset hd kk
theorem sk_g1 (F : CallFix p m c cc nL s args Ts own) (hK : va_K D vwCl (ty5 cI cS cF cZ cJ) s) {o index : Nat} {ref : String} {x : Value} (ho : kC n o = 1) (hin : ∀ w ∈ wsX10, w ∈ Ts) (k : Nat) (hk : k < 9) (hlink : Cond.fieldLink own index ref (TX1 k).2.1 (TX1 k).2.2.1 ∈ Ts) (hsame : ∀ x, s.fieldFound? (TX1 k).1 (TX1 k).2.1 (TX1 k).2.2.1 = some x → s.fieldFound? ref (TX1 k).2.1 (TX1 k).2.2.1 = some x) (hv : (fs1 ad o (v o))[k]? = some x) (hd : decode cc pc = .ok (.getfield index, 3)) (kk : sk p l e R s m args below meth c D A nL cells slots Q (Wc cI cS cF ad n X v) (pc + 3) lv (x :: st) K) : sk p l e R s m args below meth c D A nL cells slots Q (Wc cI cS cF ad n X v) pc lv (.ref (ad o) :: st) K :=
  sk_get F hK (Lc_mem ho (by decide)) (shC_1 ho _) rfl hin k hk hlink hsame hv hd kk
theorem sk_p1 (F : CallFix p m c cc nL s args Ts own) (hK : va_K D vwCl (ty5 cI cS cF cZ cJ) s) {o index : Nat} {ref : String} {x : Int32} {ty : FieldType} (ho : kC n o = 1) (hin : ∀ w ∈ wsX10, w ∈ Ts) (k : Nat) (hk : k < 9) (hlink : Cond.fieldLink own index ref (TX1 k).2.1 (TX1 k).2.2.1 ∈ Ts) (hsame : ∀ x, s.fieldFound? (TX1 k).1 (TX1 k).2.1 (TX1 k).2.2.1 = some x → s.fieldFound? ref (TX1 k).2.1 (TX1 k).2.2.1 = some x) (hfin : (TX1 k).2.2.2 = false) (hpd : parseFieldDescriptor (TX1 k).2.2.1 = some ty) (hn : narrow ty (.int x) = .int x) (hfit : fits ty (.int x) = true) (hset : (fs1 ad o (v o)).set k (.int x) = fs1 ad o (upd (v o) k x)) (hd : decode cc pc = .ok (.putfield index, 3)) (kk : sk p l e R s m args below meth c D A nL cells slots Q (Wc cI cS cF ad n X (up2 v o k x)) (pc + 3) lv st K) : sk p l e R s m args below meth c D A nL cells slots Q (Wc cI cS cF ad n X v) pc lv (.int x :: .ref (ad o) :: st) K :=
  sk_put F hK (Lc_nd n) (Lc_mem ho (by decide)) (shC_1 ho) rfl hin tyX1 tyX1_ok nmX1 k hk hlink hsame hfin hpd hn hfit hk hset hd kk
theorem sk_g2 (F : CallFix p m c cc nL s args Ts own) (hK : va_K D vwCl (ty5 cI cS cF cZ cJ) s) {o index : Nat} {ref : String} {x : Value} (ho : kC n o = 2) (hin : ∀ w ∈ wsX20, w ∈ Ts) (k : Nat) (hk : k < 8) (hlink : Cond.fieldLink own index ref (TX2 k).2.1 (TX2 k).2.2.1 ∈ Ts) (hsame : ∀ x, s.fieldFound? (TX2 k).1 (TX2 k).2.1 (TX2 k).2.2.1 = some x → s.fieldFound? ref (TX2 k).2.1 (TX2 k).2.2.1 = some x) (hv : (fs2 ad o (v o))[k]? = some x) (hd : decode cc pc = .ok (.getfield index, 3)) (kk : sk p l e R s m args below meth c D A nL cells slots Q (Wc cI cS cF ad n X v) (pc + 3) lv (x :: st) K) : sk p l e R s m args below meth c D A nL cells slots Q (Wc cI cS cF ad n X v) pc lv (.ref (ad o) :: st) K :=
  sk_get F hK (Lc_mem ho (by decide)) (shC_2 ho _) rfl hin k hk hlink hsame hv hd kk
theorem sk_p2 (F : CallFix p m c cc nL s args Ts own) (hK : va_K D vwCl (ty5 cI cS cF cZ cJ) s) {o index : Nat} {ref : String} {x : Int32} {ty : FieldType} (ho : kC n o = 2) (hin : ∀ w ∈ wsX20, w ∈ Ts) (k : Nat) (hk : k < 8) (hlink : Cond.fieldLink own index ref (TX2 k).2.1 (TX2 k).2.2.1 ∈ Ts) (hsame : ∀ x, s.fieldFound? (TX2 k).1 (TX2 k).2.1 (TX2 k).2.2.1 = some x → s.fieldFound? ref (TX2 k).2.1 (TX2 k).2.2.1 = some x) (hfin : (TX2 k).2.2.2 = false) (hpd : parseFieldDescriptor (TX2 k).2.2.1 = some ty) (hn : narrow ty (.int x) = .int x) (hfit : fits ty (.int x) = true) (hset : (fs2 ad o (v o)).set k (.int x) = fs2 ad o (upd (v o) k x)) (hd : decode cc pc = .ok (.putfield index, 3)) (kk : sk p l e R s m args below meth c D A nL cells slots Q (Wc cI cS cF ad n X (up2 v o k x)) (pc + 3) lv st K) : sk p l e R s m args below meth c D A nL cells slots Q (Wc cI cS cF ad n X v) pc lv (.int x :: .ref (ad o) :: st) K :=
  sk_put F hK (Lc_nd n) (Lc_mem ho (by decide)) (shC_2 ho) rfl hin tyX2 tyX2_ok nmX2 k hk hlink hsame hfin hpd hn hfit hk hset hd kk
theorem sk_g3 (F : CallFix p m c cc nL s args Ts own) (hK : va_K D vwCl (ty5 cI cS cF cZ cJ) s) {o index : Nat} {ref : String} {x : Value} (ho : kC n o = 3) (hin : ∀ w ∈ wsX30, w ∈ Ts) (k : Nat) (hk : k < 12) (hlink : Cond.fieldLink own index ref (TX3 k).2.1 (TX3 k).2.2.1 ∈ Ts) (hsame : ∀ x, s.fieldFound? (TX3 k).1 (TX3 k).2.1 (TX3 k).2.2.1 = some x → s.fieldFound? ref (TX3 k).2.1 (TX3 k).2.2.1 = some x) (hv : (fs3 ad o (v o))[k]? = some x) (hd : decode cc pc = .ok (.getfield index, 3)) (kk : sk p l e R s m args below meth c D A nL cells slots Q (Wc cI cS cF ad n X v) (pc + 3) lv (x :: st) K) : sk p l e R s m args below meth c D A nL cells slots Q (Wc cI cS cF ad n X v) pc lv (.ref (ad o) :: st) K :=
  sk_get F hK (Lc_mem ho (by decide)) (shC_3 ho _) rfl hin k hk hlink hsame hv hd kk
theorem sk_p3 (F : CallFix p m c cc nL s args Ts own) (hK : va_K D vwCl (ty5 cI cS cF cZ cJ) s) {o index : Nat} {ref : String} {x : Int32} {ty : FieldType} (ho : kC n o = 3) (hin : ∀ w ∈ wsX30, w ∈ Ts) (k : Nat) (hk : k < 12) (hlink : Cond.fieldLink own index ref (TX3 k).2.1 (TX3 k).2.2.1 ∈ Ts) (hsame : ∀ x, s.fieldFound? (TX3 k).1 (TX3 k).2.1 (TX3 k).2.2.1 = some x → s.fieldFound? ref (TX3 k).2.1 (TX3 k).2.2.1 = some x) (hfin : (TX3 k).2.2.2 = false) (hpd : parseFieldDescriptor (TX3 k).2.2.1 = some ty) (hn : narrow ty (.int x) = .int x) (hfit : fits ty (.int x) = true) (hset : (fs3 ad o (v o)).set k (.int x) = fs3 ad o (upd (v o) k x)) (hd : decode cc pc = .ok (.putfield index, 3)) (kk : sk p l e R s m args below meth c D A nL cells slots Q (Wc cI cS cF ad n X (up2 v o k x)) (pc + 3) lv st K) : sk p l e R s m args below meth c D A nL cells slots Q (Wc cI cS cF ad n X v) pc lv (.int x :: .ref (ad o) :: st) K :=
  sk_put F hK (Lc_nd n) (Lc_mem ho (by decide)) (shC_3 ho) rfl hin tyX3 tyX3_ok nmX3 k hk hlink hsame hfin hpd hn hfit hk hset hd kk
theorem sk_g4 (F : CallFix p m c cc nL s args Ts own) (hK : va_K D vwCl (ty5 cI cS cF cZ cJ) s) {o index : Nat} {ref : String} {x : Value} (ho : kC n o = 4) (hin : ∀ w ∈ wsX40, w ∈ Ts) (k : Nat) (hk : k < 9) (hlink : Cond.fieldLink own index ref (TX4 k).2.1 (TX4 k).2.2.1 ∈ Ts) (hsame : ∀ x, s.fieldFound? (TX4 k).1 (TX4 k).2.1 (TX4 k).2.2.1 = some x → s.fieldFound? ref (TX4 k).2.1 (TX4 k).2.2.1 = some x) (hv : (fs4 ad o (v o))[k]? = some x) (hd : decode cc pc = .ok (.getfield index, 3)) (kk : sk p l e R s m args below meth c D A nL cells slots Q (Wc cI cS cF ad n X v) (pc + 3) lv (x :: st) K) : sk p l e R s m args below meth c D A nL cells slots Q (Wc cI cS cF ad n X v) pc lv (.ref (ad o) :: st) K :=
  sk_get F hK (Lc_mem ho (by decide)) (shC_4 ho _) rfl hin k hk hlink hsame hv hd kk
theorem sk_p4 (F : CallFix p m c cc nL s args Ts own) (hK : va_K D vwCl (ty5 cI cS cF cZ cJ) s) {o index : Nat} {ref : String} {x : Int32} {ty : FieldType} (ho : kC n o = 4) (hin : ∀ w ∈ wsX40, w ∈ Ts) (k : Nat) (hk : k < 9) (hlink : Cond.fieldLink own index ref (TX4 k).2.1 (TX4 k).2.2.1 ∈ Ts) (hsame : ∀ x, s.fieldFound? (TX4 k).1 (TX4 k).2.1 (TX4 k).2.2.1 = some x → s.fieldFound? ref (TX4 k).2.1 (TX4 k).2.2.1 = some x) (hfin : (TX4 k).2.2.2 = false) (hpd : parseFieldDescriptor (TX4 k).2.2.1 = some ty) (hn : narrow ty (.int x) = .int x) (hfit : fits ty (.int x) = true) (hset : (fs4 ad o (v o)).set k (.int x) = fs4 ad o (upd (v o) k x)) (hd : decode cc pc = .ok (.putfield index, 3)) (kk : sk p l e R s m args below meth c D A nL cells slots Q (Wc cI cS cF ad n X (up2 v o k x)) (pc + 3) lv st K) : sk p l e R s m args below meth c D A nL cells slots Q (Wc cI cS cF ad n X v) pc lv (.int x :: .ref (ad o) :: st) K :=
  sk_put F hK (Lc_nd n) (Lc_mem ho (by decide)) (shC_4 ho) rfl hin tyX4 tyX4_ok nmX4 k hk hlink hsame hfin hpd hn hfit hk hset hd kk
theorem sk_gD (F : CallFix p m c cc nL s args Ts own) (hK : va_K D vwCl (ty5 cI cS cF cZ cJ) s) {o index : Nat} {x : Int32} (ho : kC n o = 0 ∨ kC n o = 1) (hin0 : ∀ w ∈ wsX00, w ∈ Ts) (hin1 : ∀ w ∈ wsX10, w ∈ Ts) (k : Nat) (hk : k < 6) (hlink : Cond.fieldLink own index "TunnelWatch$Device" (TX0 k).2.1 (TX0 k).2.2.1 ∈ Ts) (hv0 : (fs0 ad o (v o))[k]? = some (.int x)) (hv1 : (fs1 ad o (v o))[k]? = some (.int x)) (h01 : TX1 k = TX0 k) (hde : (TX0 k).1 = "TunnelWatch$Device") (hd : decode cc pc = .ok (.getfield index, 3)) (kk : sk p l e R s m args below meth c D A nL cells slots Q (Wc cI cS cF ad n X v) (pc + 3) lv (.int x :: st) K) : sk p l e R s m args below meth c D A nL cells slots Q (Wc cI cS cF ad n X v) pc lv (.ref (ad o) :: st) K := by
  rcases ho with ho | ho
  · exact sk_g0 F hK ho hin0 k hk hlink (fun x h => by rw [hde] at h; exact h) hv0 hd kk
  · exact sk_g1 F hK ho hin1 k (by omega) (by rw [h01]; exact hlink) (fun x h => by rw [h01, hde] at h; rw [h01]; exact h) hv1 hd kk
theorem sk_pD (F : CallFix p m c cc nL s args Ts own) (hK : va_K D vwCl (ty5 cI cS cF cZ cJ) s) {o index : Nat} {x : Int32} {ty : FieldType} (ho : kC n o = 0 ∨ kC n o = 1) (hin0 : ∀ w ∈ wsX00, w ∈ Ts) (hin1 : ∀ w ∈ wsX10, w ∈ Ts) (k : Nat) (hk : k < 6) (hlink : Cond.fieldLink own index "TunnelWatch$Device" (TX0 k).2.1 (TX0 k).2.2.1 ∈ Ts) (hfin : (TX0 k).2.2.2 = false) (hpd : parseFieldDescriptor (TX0 k).2.2.1 = some ty) (hn : narrow ty (.int x) = .int x) (hfit : fits ty (.int x) = true) (hs0 : (fs0 ad o (v o)).set k (.int x) = fs0 ad o (upd (v o) k x)) (hs1 : (fs1 ad o (v o)).set k (.int x) = fs1 ad o (upd (v o) k x)) (h01 : TX1 k = TX0 k) (hde : (TX0 k).1 = "TunnelWatch$Device") (hd : decode cc pc = .ok (.putfield index, 3)) (kk : sk p l e R s m args below meth c D A nL cells slots Q (Wc cI cS cF ad n X (up2 v o k x)) (pc + 3) lv st K) : sk p l e R s m args below meth c D A nL cells slots Q (Wc cI cS cF ad n X v) pc lv (.int x :: .ref (ad o) :: st) K := by
  rcases ho with ho | ho
  · exact sk_p0 F hK ho hin0 k hk hlink (fun x h => by rw [hde] at h; exact h) hfin hpd hn hfit hs0 hd kk
  · exact sk_p1 F hK ho hin1 k (by omega) (by rw [h01]; exact hlink) (fun x h => by rw [h01, hde] at h; rw [h01]; exact h) (by rw [h01]; exact hfin) (by rw [h01]; exact hpd) hn hfit hs1 hd kk
theorem rc0 (hK : va_K D vwCl (ty5 cI cS cF cZ cJ) s) {o : Nat} (ho : kC n o = 0) : ∀ H : Heap, va_P D vwCl (Wc cI cS cF ad n X v) H → ∃ cell : Cell, H[ad o]? = some cell ∧ cell.vm.isStatics = false ∧ s.vm.findClass RX0 = some cell.cls := fun H hP => ow_recv hK hP rfl (Lc_mem ho (by decide)) (shC_0 ho _)
theorem rc1 (hK : va_K D vwCl (ty5 cI cS cF cZ cJ) s) {o : Nat} (ho : kC n o = 1) : ∀ H : Heap, va_P D vwCl (Wc cI cS cF ad n X v) H → ∃ cell : Cell, H[ad o]? = some cell ∧ cell.vm.isStatics = false ∧ s.vm.findClass RX1 = some cell.cls := fun H hP => ow_recv hK hP rfl (Lc_mem ho (by decide)) (shC_1 ho _)
theorem rc2 (hK : va_K D vwCl (ty5 cI cS cF cZ cJ) s) {o : Nat} (ho : kC n o = 2) : ∀ H : Heap, va_P D vwCl (Wc cI cS cF ad n X v) H → ∃ cell : Cell, H[ad o]? = some cell ∧ cell.vm.isStatics = false ∧ s.vm.findClass RX2 = some cell.cls := fun H hP => ow_recv hK hP rfl (Lc_mem ho (by decide)) (shC_2 ho _)
theorem rc3 (hK : va_K D vwCl (ty5 cI cS cF cZ cJ) s) {o : Nat} (ho : kC n o = 3) : ∀ H : Heap, va_P D vwCl (Wc cI cS cF ad n X v) H → ∃ cell : Cell, H[ad o]? = some cell ∧ cell.vm.isStatics = false ∧ s.vm.findClass RX3 = some cell.cls := fun H hP => ow_recv hK hP rfl (Lc_mem ho (by decide)) (shC_3 ho _)
theorem rc4 (hK : va_K D vwCl (ty5 cI cS cF cZ cJ) s) {o : Nat} (ho : kC n o = 4) : ∀ H : Heap, va_P D vwCl (Wc cI cS cF ad n X v) H → ∃ cell : Cell, H[ad o]? = some cell ∧ cell.vm.isStatics = false ∧ s.vm.findClass RX4 = some cell.cls := fun H hP => ow_recv hK hP rfl (Lc_mem ho (by decide)) (shC_4 ho _)
theorem rc5 (hK : va_K D vwCl (ty5 cI cS cF cZ cJ) s) : ∀ H : Heap, va_P D vwCl (Wr cI cZ ad X v) H → ∃ cell : Cell, H[ad 0]? = some cell ∧ cell.vm.isStatics = false ∧ s.vm.findClass RX5 = some cell.cls := fun H hP => ow_recv hK hP rfl (Lr_mem (by decide)) (shR_0 _)
end SKH
