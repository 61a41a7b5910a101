section FXG
variable {p : Program} {l : Launch} {e : Env} {R : Room} {s : State} {m : MethodId} {args : Array Value} {below : List Frame} {meth : Method} {c : Code} {H : Heap} {locs : List Loc} {cells slots : Nat} {Q : State → Prop}
variable {pc : Nat} {ls : Array Slot} {rest : List Value} {A : Nat → Prop} {H0 : Heap} {index : Nat} {D : va_G} {cy : Nat → ClassId} {ld : Nat → Nat} {ws : va_W} {own : String} {cc : ByteArray}
abbrev gg (q : Nat) : Nat → Option Nat := (va_up (va_up (va_up (va_up (va_up (va_up (va_up (va_up (fun _ => none) 0 (some (q + 1))) 1 (some (q + 2))) 2 (some (q + 3))) 3 (some (q + 4))) 4 (some (q + 5))) 5 (some (q + 6))) 6 (some (q + 7))) 7 (some (q + 8)))
theorem gg_out0 (c : ClassId) (N h0 : Nat) : ∀ i : Nat, Jvm.Free.Multi.outerC c N h0 i = arrV c N (fun j => va_rf (if j < i then some (h0 + 1 + j) else none))
  | 0 => by
    show ({ cls := c, slots := Array.replicate N .null, vm := .none } : Cell) = _
    rw [arrV_new]
    refine congrArg (arrV c N) (funext fun j => ?_)
    simp [va_rf]
  | i + 1 => by
    show (Jvm.Free.Multi.outerC c N h0 i).setSlot i (.ref (h0 + 1 + i)) = _
    rw [gg_out0 c N h0 i, arrV_store]
    refine congrArg (arrV c N) (funext fun j => ?_)
    by_cases e : j = i
    · subst e
      simp [updV, va_rf]
    · by_cases h : j < i
      · simp [updV, e, h, Nat.lt_succ_of_lt h]
      · simp [updV, e, h, show ¬ j < i + 1 by omega]
theorem gg_outer (cA : ClassId) (h : Nat) : Jvm.Free.Multi.outerC cA 8 h 8 = vp_cell cA (8, .inr (.inr (.inr (.inr (gg h))))) := by
  rw [gg_out0]
  rw [vp_cell_q]
  refine congrArg (arrV cA 8) (funext fun j => ?_)
  match j with
  | 0 => rfl
  | 1 => rfl
  | 2 => rfl
  | 3 => rfl
  | 4 => rfl
  | 5 => rfl
  | 6 => rfl
  | 7 => rfl
  | j + 8 =>
    rw [if_neg (by omega)]
    simp [gg, va_up]
theorem gg_inner (cA : ClassId) : Jvm.Free.Multi.innerC cA 8 (.int 0) = vp_cell cA (8, .inl (fun _ => 0)) := arrV_new cA 8 (.int 0)
/-- new int[8][8] with its rows -/
theorem fx_gridK (hx : p.tables.exec = Jvm.exec) (hb : c.code = cc) {ty : FieldType} (hty : ty = .int) (hown : s.vm.findClass own = some m.cls) (hclink : (Cond.classLink own index ("[" ++ (FieldType.array ty).toString)).before args s = true) (hover : (Cond.arrayOver (.array ty)).before args s = true) (harr : (Cond.arrayClass ty).before args s = true) (hK : kk_K D cy ld s) (hP : va_P D vwCl ws H) (hD : va_D A ws) (hS : va_S A H0 H locs) (hA : ∀ q, H0.size ≤ q → A q)
    (hcells : cells + (1 + 8) ≤ R.cells) (hslots : slots + (8 + 8 * 8) ≤ R.slots) (hdg : decode cc pc = .ok (.multianewarray index 2, 4))
    (kk : ∀ (q : Nat) (H1 : Heap), va_P D vwCl (ws ++ [(q, .inl (cy 6, 8, .inr (.inr (.inr (.inr (gg q)))))), (q + 1, .inl (cy 0, 8, .inl (fun _ => 0))), (q + 2, .inl (cy 0, 8, .inl (fun _ => 0))), (q + 3, .inl (cy 0, 8, .inl (fun _ => 0))), (q + 4, .inl (cy 0, 8, .inl (fun _ => 0))), (q + 5, .inl (cy 0, 8, .inl (fun _ => 0))), (q + 6, .inl (cy 0, 8, .inl (fun _ => 0))), (q + 7, .inl (cy 0, 8, .inl (fun _ => 0))), (q + 8, .inl (cy 0, 8, .inl (fun _ => 0)))]) H1 → va_D A (ws ++ [(q, .inl (cy 6, 8, .inr (.inr (.inr (.inr (gg q)))))), (q + 1, .inl (cy 0, 8, .inl (fun _ => 0))), (q + 2, .inl (cy 0, 8, .inl (fun _ => 0))), (q + 3, .inl (cy 0, 8, .inl (fun _ => 0))), (q + 4, .inl (cy 0, 8, .inl (fun _ => 0))), (q + 5, .inl (cy 0, 8, .inl (fun _ => 0))), (q + 6, .inl (cy 0, 8, .inl (fun _ => 0))), (q + 7, .inl (cy 0, 8, .inl (fun _ => 0))), (q + 8, .inl (cy 0, 8, .inl (fun _ => 0)))]) → va_S A H0 H1 locs → W p l e R s m args below meth c H1 locs (cells + 1 + 8) (slots + 8 + 8 * 8) Q (F0 m (pc + 4) ls (.ref q :: rest))) : W p l e R s m args below meth c H locs cells slots Q (F0 m pc ls (.int 8 :: .int 8 :: rest)) := by
  subst hty
  intro T hT Xs
  obtain ⟨vm₁, cA, comp, -, fA, fC, -, -, X', step⟩ := Xs.multianewarray2F hx hown hclink hover harr (g := F0 m pc ls (.int 8 :: .int 8 :: rest)) rfl (by rw [hb]; exact hdg) rfl (by decide) (by decide) (by decide) (by decide) (by decide) rfl rfl hcells hslots
  obtain rfl : cA = cy 6 := Option.some.inj (fA.symm.trans (hK.1.2 6 _ rfl).2)
  obtain rfl : comp = cy 0 := Option.some.inj (fC.symm.trans (hK.1.2 0 _ rfl).2)
  have hTh : (T.setVm vm₁).heap = H := hT
  generalize hF : Jvm.Free.Multi.fill (T.setVm vm₁) (cy 6) (cy 0) (8 : Int32).toNatClampNeg (8 : Int32).toNatClampNeg (defaultValue .int) (8 : Int32).toNatClampNeg = F at X' step
  obtain ⟨f1, f2, -, -⟩ := Jvm.Free.Multi.fill_facts (T.setVm vm₁) (cy 6) (cy 0) (8 : Int32).toNatClampNeg (8 : Int32).toNatClampNeg (defaultValue .int) (8 : Int32).toNatClampNeg
  rw [hF, hTh] at f1 f2
  have f1 : F.heap.size = H.size + 1 + 8 := f1
  have f2 : F.heap[H.size]? = some (vp_cell (cy 6) (8, .inr (.inr (.inr (.inr (gg H.size)))))) := f2.trans (congrArg some (gg_outer (cy 6) H.size))
  have hold : ∀ x : Nat, x < H.size → F.heap[x]? = H[x]? := fun x hx => by
    have := Jvm.Free.Multi.fill_old (T.setVm vm₁) (cy 6) (cy 0) (8 : Int32).toNatClampNeg (8 : Int32).toNatClampNeg (defaultValue .int) (a := x) (by rw [hTh]; exact hx) (8 : Int32).toNatClampNeg
    rw [hF, hTh] at this
    exact this
  have hrow : ∀ j : Nat, j < 8 → F.heap[H.size + 1 + j]? = some (vp_cell (cy 0) (8, .inl (fun _ => 0))) := fun j hj => by
    have := Jvm.Free.Multi.fill_inner (T.setVm vm₁) (cy 6) (cy 0) (8 : Int32).toNatClampNeg (8 : Int32).toNatClampNeg (defaultValue .int) (8 : Int32).toNatClampNeg j hj
    rw [hF, hTh] at this
    exact this.trans (congrArg some (gg_inner (cy 0)))
  have hn : va_P D vwCl [(H.size, .inl (cy 6, 8, .inr (.inr (.inr (.inr (gg H.size)))))), (H.size + 1, .inl (cy 0, 8, .inl (fun _ => 0))), (H.size + 2, .inl (cy 0, 8, .inl (fun _ => 0))), (H.size + 3, .inl (cy 0, 8, .inl (fun _ => 0))), (H.size + 4, .inl (cy 0, 8, .inl (fun _ => 0))), (H.size + 5, .inl (cy 0, 8, .inl (fun _ => 0))), (H.size + 6, .inl (cy 0, 8, .inl (fun _ => 0))), (H.size + 7, .inl (cy 0, 8, .inl (fun _ => 0))), (H.size + 8, .inl (cy 0, 8, .inl (fun _ => 0)))] F.heap := by
    intro k q hq
    match k, hq with
    | 0, hq => cases hq; exact f2
    | 1, hq => cases hq; exact hrow 0 (by decide)
    | 2, hq => cases hq; exact hrow 1 (by decide)
    | 3, hq => cases hq; exact hrow 2 (by decide)
    | 4, hq => cases hq; exact hrow 3 (by decide)
    | 5, hq => cases hq; exact hrow 4 (by decide)
    | 6, hq => cases hq; exact hrow 5 (by decide)
    | 7, hq => cases hq; exact hrow 6 (by decide)
    | 8, hq => cases hq; exact hrow 7 (by decide)
    | k + 9, hq => simp at hq
  have hP1 := (hP.kept (fun k9 x hx => hold x.1 ((hP k9 x hx).lt))).app hn
  have hH0 := hS.1
  have hD1 : ∀ (k : Nat) (w : va_W), w.length = k → va_D A (ws ++ w) → ∀ e : va_E, (∀ (i : Nat) (x : Nat × va_E), (ws ++ w)[i]? = some x → x.1 < H.size + k) → H0.size ≤ H.size + k → va_D A (ws ++ (w ++ [(H.size + k, e)])) ∧ ∀ (i : Nat) (x : Nat × va_E), (ws ++ (w ++ [(H.size + k, e)]))[i]? = some x → x.1 < H.size + (k + 1) := by
    intro k w hw hd e hlt hz
    rw [← List.append_assoc]
    refine ⟨⟨fun i j a b hi hj hab => ?_, fun i a hi => ?_⟩, fun i x hi => ?_⟩
    · rw [List.getElem?_append] at hi hj
      by_cases h1 : i < (ws ++ w).length
      · rw [if_pos h1] at hi
        by_cases h2 : j < (ws ++ w).length
        · rw [if_pos h2] at hj
          exact hd.1 i j a b hi hj hab
        · rw [if_neg h2] at hj
          have := hlt i a hi
          have hb : b = (H.size + k, e) := by
            rcases Nat.eq_zero_or_pos (j - (ws ++ w).length) with z | z
            · rw [z] at hj; exact (Option.some.inj hj).symm
            · rw [List.getElem?_eq_none (Nat.succ_le_of_lt z)] at hj; cases hj
          rw [hab, hb] at this
          exact absurd this (Nat.lt_irrefl _)
      · rw [if_neg h1] at hi
        have ha : a = (H.size + k, e) ∧ i - (ws ++ w).length = 0 := by
          rcases Nat.eq_zero_or_pos (i - (ws ++ w).length) with z | z
          · rw [z] at hi; exact ⟨(Option.some.inj hi).symm, z⟩
          · rw [List.getElem?_eq_none (Nat.succ_le_of_lt z)] at hi; cases hi
        by_cases h2 : j < (ws ++ w).length
        · rw [if_pos h2] at hj
          have := hlt j b hj
          rw [← hab, ha.1] at this
          exact absurd this (Nat.lt_irrefl _)
        · rw [if_neg h2] at hj
          have z2 : j - (ws ++ w).length = 0 := by
            rcases Nat.eq_zero_or_pos (j - (ws ++ w).length) with z | z
            · exact z
            · rw [List.getElem?_eq_none (Nat.succ_le_of_lt z)] at hj; cases hj
          have := ha.2
          omega
    · rw [List.getElem?_append] at hi
      by_cases h1 : i < (ws ++ w).length
      · rw [if_pos h1] at hi
        exact hd.2 i a hi
      · rw [if_neg h1] at hi
        rcases Nat.eq_zero_or_pos (i - (ws ++ w).length) with z | z
        · rw [z] at hi; cases hi; exact hA _ hz
        · rw [List.getElem?_eq_none (Nat.succ_le_of_lt z)] at hi; cases hi
    · rw [List.getElem?_append] at hi
      by_cases h1 : i < (ws ++ w).length
      · rw [if_pos h1] at hi
        have := hlt i x hi
        omega
      · rw [if_neg h1] at hi
        rcases Nat.eq_zero_or_pos (i - (ws ++ w).length) with z | z
        · rw [z] at hi; cases hi; show H.size + k < _; omega
        · rw [List.getElem?_eq_none (Nat.succ_le_of_lt z)] at hi; cases hi
  have d0 : va_D A (ws ++ []) := by rw [List.append_nil]; exact hD
  have l0 : ∀ (i : Nat) (x : Nat × va_E), (ws ++ [])[i]? = some x → x.1 < H.size + 0 := fun i x hi => by rw [List.append_nil] at hi; exact (hP i x hi).lt
  obtain ⟨d1, l1⟩ := hD1 0 [] rfl d0 (.inl (cy 6, 8, .inr (.inr (.inr (.inr (gg H.size)))))) l0 (by omega)
  obtain ⟨d2, l2⟩ := hD1 1 _ rfl d1 (.inl (cy 0, 8, .inl (fun _ => 0))) l1 (by omega)
  obtain ⟨d3, l3⟩ := hD1 2 _ rfl d2 (.inl (cy 0, 8, .inl (fun _ => 0))) l2 (by omega)
  obtain ⟨d4, l4⟩ := hD1 3 _ rfl d3 (.inl (cy 0, 8, .inl (fun _ => 0))) l3 (by omega)
  obtain ⟨d5, l5⟩ := hD1 4 _ rfl d4 (.inl (cy 0, 8, .inl (fun _ => 0))) l4 (by omega)
  obtain ⟨d6, l6⟩ := hD1 5 _ rfl d5 (.inl (cy 0, 8, .inl (fun _ => 0))) l5 (by omega)
  obtain ⟨d7, l7⟩ := hD1 6 _ rfl d6 (.inl (cy 0, 8, .inl (fun _ => 0))) l6 (by omega)
  obtain ⟨d8, l8⟩ := hD1 7 _ rfl d7 (.inl (cy 0, 8, .inl (fun _ => 0))) l7 (by omega)
  obtain ⟨d9, -⟩ := hD1 8 _ rfl d8 (.inl (cy 0, 8, .inl (fun _ => 0))) l8 (by omega)
  have hS1 : va_S A H0 F.heap locs := ⟨by rw [f1]; omega, fun q hq h => by rw [hold q (Nat.lt_of_lt_of_le hq hS.1)]; exact hS.2.1 q hq h, hS.2.2⟩
  obtain ⟨t, a1, b1⟩ := kk H.size F.heap hP1 d9 hS1 F rfl X'
  exact ⟨t, step t (by rw [hT]; exact a1), b1⟩
end FXG
