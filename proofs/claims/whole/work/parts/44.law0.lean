theorem perm3 {A B C : va_W} : (A ++ (B ++ C)).Perm (B ++ (A ++ C)) := by
  rw [← List.append_assoc, ← List.append_assoc]
  exact List.perm_append_comm.append_right C
section SEL
variable {p : Program} {l : Launch} {e : Env} {R : Room} {s : State} {m : MethodId} {args : Array Value} {below : List Frame} {meth : Method} {c : Code} {cc : ByteArray} {nL : Nat} {Ts : List Cond} {own : String} {D : va_G} {A : Nat → Prop} {cells slots : Nat} {ρ : Type} {Q : ρ → State → Prop} {ws : va_W} {pc : Nat} {lv : List (Nat × Value)} {st : List Value} {K : Option ρ}
theorem sk_seli (F : CallFix p m c cc nL s args Ts own) {x : Int32} (t1 t2 : Nat) {off off2 : Int} (hd : decode cc pc = .ok (.ifCond .eq off, 3)) (ht : (pc : Int) + off = (t1 : Int)) (h1 : decode cc (pc + 3) = .ok (.iconst 1, 1)) (hg : decode cc (pc + 3 + 1) = .ok (.goto off2, 3)) (htg : ((pc + 3 + 1 : Nat) : Int) + off2 = (t2 : Int)) (h0 : decode cc t1 = .ok (.iconst 0, 1)) (he : t1 + 1 = t2) (kk : sk p l e R s m args below meth c D A nL cells slots Q ws t2 lv (.int (if x = 0 then 0 else 1 : Int32) :: st) K) : sk p l e R s m args below meth c D A nL cells slots Q ws pc lv (.int x :: st) K := by
  intro res hKK H locs ls hP hD hS hl
  have k9 := kk res hKK H locs ls hP hD hS hl
  refine lv_if_eq F.1 F.2.1 hd ht (fun h => ?_) (fun h => ?_)
  · rw [if_pos h] at k9
    subst he
    exact lv_iconst F.1 F.2.1 h0 (by decide) k9
  · rw [if_neg h] at k9
    exact lv_iconst F.1 F.2.1 h1 (by decide) (lv_goto F.1 F.2.1 hg htg k9)
theorem sk_sell (F : CallFix p m c cc nL s args Ts own) {x : Int32} (t1 t2 : Nat) {off off2 : Int} (hd : decode cc pc = .ok (.ifCond .eq off, 3)) (ht : (pc : Int) + off = (t1 : Int)) (h1 : decode cc (pc + 3) = .ok (.lconst 1, 1)) (hg : decode cc (pc + 3 + 1) = .ok (.goto off2, 3)) (htg : ((pc + 3 + 1 : Nat) : Int) + off2 = (t2 : Int)) (h0 : decode cc t1 = .ok (.lconst 0, 1)) (he : t1 + 1 = t2) (kk : sk p l e R s m args below meth c D A nL cells slots Q ws t2 lv (.long (if x = 0 then 0 else 1 : Int64) :: st) K) : sk p l e R s m args below meth c D A nL cells slots Q ws pc lv (.int x :: st) K := by
  intro res hKK H locs ls hP hD hS hl
  have k9 := kk res hKK H locs ls hP hD hS hl
  refine lv_if_eq F.1 F.2.1 hd ht (fun h => ?_) (fun h => ?_)
  · rw [if_pos h] at k9
    subst he
    exact lv_lconst F.1 F.2.1 h0 (by decide) k9
  · rw [if_neg h] at k9
    exact lv_lconst F.1 F.2.1 h1 (by decide) (lv_goto F.1 F.2.1 hg htg k9)
end SEL
