section FXG
variable {p : Program} {l : Launch} {e : Env} {R : Room} {s : State} {m : MethodId} {args : Array Value} {below : List Frame} {meth : Method} {c : Code} {H : Heap} {locs : List Loc} {cells slots : Nat} {Q : State → Prop}
variable {pc : Nat} {ls : Array Slot} {rest : List Value} {A : Nat → Prop} {H0 : Heap} {index : Nat} {D : va_G} {cy : Nat → ClassId} {ld : Nat → Nat} {ws : va_W} {own : String} {cc : ByteArray}
abbrev gg (q : Nat) : Nat → Option Nat := (va_up (va_up (va_up (va_up (va_up (va_up (va_up (va_up (fun _ => none) 0 (some (q + 1))) 1 (some (q + 2))) 2 (some (q + 3))) 3 (some (q + 4))) 4 (some (q + 5))) 5 (some (q + 6))) 6 (some (q + 7))) 7 (some (q + 8)))
theorem gg_out0 (c : ClassId) (N h0 : Nat) : ∀ i : Nat, Jvm.Free.Multi.outerC c N h0 i = arrV c N (fun j => va_rf (if j < i then some (h0 + 1 + j) else none))
  | 0 => by
    show ({ cls := c, slots := Array.replicate N .null, vm := .none } : Cell) = _
    rw [arrV_new]
    refine congrArg (arrV c N) (funext fun j => ?_)
    simp [va_rf]
  | i + 1 => by
    show (Jvm.Free.Multi.outerC c N h0 i).setSlot i (.ref (h0 + 1 + i)) = _
    rw [gg_out0 c N h0 i, arrV_store]
    refine congrArg (arrV c N) (funext fun j => ?_)
    by_cases e : j = i
    · subst e
      simp [updV, va_rf]
    · by_cases h : j < i
      · simp [updV, e, h, Nat.lt_succ_of_lt h]
      · simp [updV, e, h, show ¬ j < i + 1 by omega]
theorem gg_outer (cA : ClassId) (h : Nat) : Jvm.Free.Multi.outerC cA 8 h 8 = vp_cell cA (8, .inr (.inr (.inr (.inr (gg h))))) := by
  rw [gg_out0]
  rw [vp_cell_q]
  refine congrArg (arrV cA 8) (funext fun j => ?_)
  match j with
  | 0 => rfl
  | 1 => rfl
  | 2 => rfl
  | 3 => rfl
  | 4 => rfl
  | 5 => rfl
  | 6 => rfl
  | 7 => rfl
  | j + 8 =>
    rw [if_neg (by omega)]
    simp [gg, va_up]
theorem gg_inner (cA : ClassId) : Jvm.Free.Multi.innerC cA 8 (.int 0) = vp_cell cA (8, .inl (fun _ => 0)) := arrV_new cA 8 (.int 0)
end FXG
