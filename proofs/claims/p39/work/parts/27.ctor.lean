section FXG
variable {p : Program} {l : Launch} {e : Env} {R : Room} {s : State} {m : MethodId} {args : Array Value} {below : List Frame} {meth : Method} {c : Code} {H : Heap} {locs : List Loc} {cells slots : Nat} {Q : State → Prop}
variable {pc : Nat} {ls : Array Slot} {rest : List Value} {A : Nat → Prop} {H0 : Heap} {index : Nat} {D : va_G} {cy : Nat → ClassId} {ld : Nat → Nat} {ws : va_W} {own : String} {cc : ByteArray}
abbrev gg (q : Nat) : Nat → Option Nat := (va_up (va_up (va_up (va_up (va_up (va_up (va_up (va_up (fun _ => none) 0 (some (q + 1))) 1 (some (q + 2))) 2 (some (q + 3))) 3 (some (q + 4))) 4 (some (q + 5))) 5 (some (q + 6))) 6 (some (q + 7))) 7 (some (q + 8)))
theorem gg_out0 (c : ClassId) (N h0 : Nat) : ∀ i : Nat, Jvm.Free.Multi.outerC c N h0 i = arrV c N (fun j => va_rf (if j < i then some (h0 + 1 + j) else none))
  | 0 => by
    show ({ cls := c, slots := Array.replicate N .null, vm := .none } : Cell) = _
    rw [arrV_new]
    refine congrArg (arrV c N) (funext fun j => ?_)
    simp [va_rf]
  | i + 1 => by
    show (Jvm.Free.Multi.outerC c N h0 i).setSlot i (.ref (h0 + 1 + i)) = _
    rw [gg_out0 c N h0 i, arrV_store]
    refine congrArg (arrV c N) (funext fun j => ?_)
    by_cases e : j = i
    · subst e
      simp [updV, va_rf]
    · by_cases h : j < i
      · simp [updV, e, h, Nat.lt_succ_of_lt h]
      · simp [updV, e, h, show ¬ j < i + 1 by omega]
theorem gg_outer (cA : ClassId) (h : Nat) : Jvm.Free.Multi.outerC cA 8 h 8 = vp_cell cA (8, .inr (.inr (.inr (.inr (gg h))))) := by
  rw [gg_out0]
  rw [vp_cell_q]
  refine congrArg (arrV cA 8) (funext fun j => ?_)
  match j with
  | 0 => rfl
  | 1 => rfl
  | 2 => rfl
  | 3 => rfl
  | 4 => rfl
  | 5 => rfl
  | 6 => rfl
  | 7 => rfl
  | j + 8 =>
    rw [if_neg (by omega)]
    simp [gg, va_up]
theorem gg_inner (cA : ClassId) : Jvm.Free.Multi.innerC cA 8 (.int 0) = vp_cell cA (8, .inl (fun _ => 0)) := arrV_new cA 8 (.int 0)
/-- new int[8][8] with its rows -/
theorem fx_gridK (hx : p.tables.exec = Jvm.exec) (hb : c.code = cc) {ty : FieldType} (hty : ty = .int) (hown : s.vm.findClass own = some m.cls) (hclink : (Cond.classLink own index ("[" ++ (FieldType.array ty).toString)).before args s = true) (hover : (Cond.arrayOver (.array ty)).before args s = true) (harr : (Cond.arrayClass ty).before args s = true) (hK : kk_K D cy ld s) (hP : va_P D vwCl ws H) (hD : va_D A ws) (hS : va_S A H0 H locs) (hA : ∀ q, H0.size ≤ q → A q)
    (hcells : cells + (1 + 8) ≤ R.cells) (hslots : slots + (8 + 8 * 8) ≤ R.slots) (hdg : decode cc pc = .ok (.multianewarray index 2, 4))
    (kk : ∀ (q : Nat) (H1 : Heap), va_P D vwCl (ws ++ [(q, .inl (cy 6, 8, .inr (.inr (.inr (.inr (gg q)))))), (q + 1, .inl (cy 0, 8, .inl (fun _ => 0))), (q + 2, .inl (cy 0, 8, .inl (fun _ => 0))), (q + 3, .inl (cy 0, 8, .inl (fun _ => 0))), (q + 4, .inl (cy 0, 8, .inl (fun _ => 0))), (q + 5, .inl (cy 0, 8, .inl (fun _ => 0))), (q + 6, .inl (cy 0, 8, .inl (fun _ => 0))), (q + 7, .inl (cy 0, 8, .inl (fun _ => 0))), (q + 8, .inl (cy 0, 8, .inl (fun _ => 0)))]) H1 → va_D A (ws ++ [(q, .inl (cy 6, 8, .inr (.inr (.inr (.inr (gg q)))))), (q + 1, .inl (cy 0, 8, .inl (fun _ => 0))), (q + 2, .inl (cy 0, 8, .inl (fun _ => 0))), (q + 3, .inl (cy 0, 8, .inl (fun _ => 0))), (q + 4, .inl (cy 0, 8, .inl (fun _ => 0))), (q + 5, .inl (cy 0, 8, .inl (fun _ => 0))), (q + 6, .inl (cy 0, 8, .inl (fun _ => 0))), (q + 7, .inl (cy 0, 8, .inl (fun _ => 0))), (q + 8, .inl (cy 0, 8, .inl (fun _ => 0)))]) → va_S A H0 H1 locs → W p l e R s m args below meth c H1 locs (cells + 1 + 8) (slots + 8 + 8 * 8) Q (F0 m (pc + 4) ls (.ref q :: rest))) : W p l e R s m args below meth c H locs cells slots Q (F0 m pc ls (.int 8 :: .int 8 :: rest)) := by
  subst hty
  intro T hT Xs
  obtain ⟨vm₁, cA, comp, -, fA, fC, -, -, X', step⟩ := Xs.multianewarray2F hx hown hclink hover harr (g := F0 m pc ls (.int 8 :: .int 8 :: rest)) rfl (by rw [hb]; exact hdg) rfl (by decide) (by decide) (by decide) (by decide) (by decide) rfl rfl hcells hslots
  obtain rfl : cA = cy 6 := Option.some.inj (fA.symm.trans (hK.1.2 6 _ rfl).2)
  obtain rfl : comp = cy 0 := Option.some.inj (fC.symm.trans (hK.1.2 0 _ rfl).2)
  have hTh : (T.setVm vm₁).heap = H := hT
  generalize hF : Jvm.Free.Multi.fill (T.setVm vm₁) (cy 6) (cy 0) (8 : Int32).toNatClampNeg (8 : Int32).toNatClampNeg (defaultValue .int) (8 : Int32).toNatClampNeg = F at X' step
  obtain ⟨f1, f2, -, -⟩ := Jvm.Free.Multi.fill_facts (T.setVm vm₁) (cy 6) (cy 0) (8 : Int32).toNatClampNeg (8 : Int32).toNatClampNeg (defaultValue .int) (8 : Int32).toNatClampNeg
  rw [hF, hTh] at f1 f2
  have f1 : F.heap.size = H.size + 1 + 8 := f1
  have f2 : F.heap[H.size]? = some (vp_cell (cy 6) (8, .inr (.inr (.inr (.inr (gg H.size)))))) := f2.trans (congrArg some (gg_outer (cy 6) H.size))
  have hold : ∀ x : Nat, x < H.size → F.heap[x]? = H[x]? := fun x hx => by
    have := Jvm.Free.Multi.fill_old (T.setVm vm₁) (cy 6) (cy 0) (8 : Int32).toNatClampNeg (8 : Int32).toNatClampNeg (defaultValue .int) (a := x) (by rw [hTh]; exact hx) (8 : Int32).toNatClampNeg
    rw [hF, hTh] at this
    exact this
  have hrow : ∀ j : Nat, j < 8 → F.heap[H.size + 1 + j]? = some (vp_cell (cy 0) (8, .inl (fun _ => 0))) := fun j hj => by
    have := Jvm.Free.Multi.fill_inner (T.setVm vm₁) (cy 6) (cy 0) (8 : Int32).toNatClampNeg (8 : Int32).toNatClampNeg (defaultValue .int) (8 : Int32).toNatClampNeg j hj
    rw [hF, hTh] at this
    exact this.trans (congrArg some (gg_inner (cy 0)))
  have hn : va_P D vwCl [(H.size, .inl (cy 6, 8, .inr (.inr (.inr (.inr (gg H.size)))))), (H.size + 1, .inl (cy 0, 8, .inl (fun _ => 0))), (H.size + 2, .inl (cy 0, 8, .inl (fun _ => 0))), (H.size + 3, .inl (cy 0, 8, .inl (fun _ => 0))), (H.size + 4, .inl (cy 0, 8, .inl (fun _ => 0))), (H.size + 5, .inl (cy 0, 8, .inl (fun _ => 0))), (H.size + 6, .inl (cy 0, 8, .inl (fun _ => 0))), (H.size + 7, .inl (cy 0, 8, .inl (fun _ => 0))), (H.size + 8, .inl (cy 0, 8, .inl (fun _ => 0)))] F.heap := by
    intro k q hq
    match k, hq with
    | 0, hq => cases hq; exact f2
    | 1, hq => cases hq; exact hrow 0 (by decide)
    | 2, hq => cases hq; exact hrow 1 (by decide)
    | 3, hq => cases hq; exact hrow 2 (by decide)
    | 4, hq => cases hq; exact hrow 3 (by decide)
    | 5, hq => cases hq; exact hrow 4 (by decide)
    | 6, hq => cases hq; exact hrow 5 (by decide)
    | 7, hq => cases hq; exact hrow 6 (by decide)
    | 8, hq => cases hq; exact hrow 7 (by decide)
    | k + 9, hq => simp at hq
  have hP1 := (hP.kept (fun k9 x hx => hold x.1 ((hP k9 x hx).lt))).app hn
  have hH0 := hS.1
  have hD1 : ∀ (k : Nat) (w : va_W), w.length = k → va_D A (ws ++ w) → ∀ e : va_E, (∀ (i : Nat) (x : Nat × va_E), (ws ++ w)[i]? = some x → x.1 < H.size + k) → H0.size ≤ H.size + k → va_D A (ws ++ (w ++ [(H.size + k, e)])) ∧ ∀ (i : Nat) (x : Nat × va_E), (ws ++ (w ++ [(H.size + k, e)]))[i]? = some x → x.1 < H.size + (k + 1) := by
    intro k w hw hd e hlt hz
    rw [← List.append_assoc]
    refine ⟨⟨fun i j a b hi hj hab => ?_, fun i a hi => ?_⟩, fun i x hi => ?_⟩
    · rw [List.getElem?_append] at hi hj
      by_cases h1 : i < (ws ++ w).length
      · rw [if_pos h1] at hi
        by_cases h2 : j < (ws ++ w).length
        · rw [if_pos h2] at hj
          exact hd.1 i j a b hi hj hab
        · rw [if_neg h2] at hj
          have := hlt i a hi
          have hb : b = (H.size + k, e) := by
            rcases Nat.eq_zero_or_pos (j - (ws ++ w).length) with z | z
            · rw [z] at hj; exact (Option.some.inj hj).symm
            · rw [List.getElem?_eq_none (Nat.succ_le_of_lt z)] at hj; cases hj
          rw [hab, hb] at this
          exact absurd this (Nat.lt_irrefl _)
      · rw [if_neg h1] at hi
        have ha : a = (H.size + k, e) ∧ i - (ws ++ w).length = 0 := by
          rcases Nat.eq_zero_or_pos (i - (ws ++ w).length) with z | z
          · rw [z] at hi; exact ⟨(Option.some.inj hi).symm, z⟩
          · rw [List.getElem?_eq_none (Nat.succ_le_of_lt z)] at hi; cases hi
        by_cases h2 : j < (ws ++ w).length
        · rw [if_pos h2] at hj
          have := hlt j b hj
          rw [← hab, ha.1] at this
          exact absurd this (Nat.lt_irrefl _)
        · rw [if_neg h2] at hj
          have z2 : j - (ws ++ w).length = 0 := by
            rcases Nat.eq_zero_or_pos (j - (ws ++ w).length) with z | z
            · exact z
            · rw [List.getElem?_eq_none (Nat.succ_le_of_lt z)] at hj; cases hj
          have := ha.2
          omega
    · rw [List.getElem?_append] at hi
      by_cases h1 : i < (ws ++ w).length
      · rw [if_pos h1] at hi
        exact hd.2 i a hi
      · rw [if_neg h1] at hi
        rcases Nat.eq_zero_or_pos (i - (ws ++ w).length) with z | z
        · rw [z] at hi; cases hi; exact hA _ hz
        · rw [List.getElem?_eq_none (Nat.succ_le_of_lt z)] at hi; cases hi
    · rw [List.getElem?_append] at hi
      by_cases h1 : i < (ws ++ w).length
      · rw [if_pos h1] at hi
        have := hlt i x hi
        omega
      · rw [if_neg h1] at hi
        rcases Nat.eq_zero_or_pos (i - (ws ++ w).length) with z | z
        · rw [z] at hi; cases hi; show H.size + k < _; omega
        · rw [List.getElem?_eq_none (Nat.succ_le_of_lt z)] at hi; cases hi
  have d0 : va_D A (ws ++ []) := by rw [List.append_nil]; exact hD
  have l0 : ∀ (i : Nat) (x : Nat × va_E), (ws ++ [])[i]? = some x → x.1 < H.size + 0 := fun i x hi => by rw [List.append_nil] at hi; exact (hP i x hi).lt
  obtain ⟨d1, l1⟩ := hD1 0 [] rfl d0 (.inl (cy 6, 8, .inr (.inr (.inr (.inr (gg H.size)))))) l0 (by omega)
  obtain ⟨d2, l2⟩ := hD1 1 _ rfl d1 (.inl (cy 0, 8, .inl (fun _ => 0))) l1 (by omega)
  obtain ⟨d3, l3⟩ := hD1 2 _ rfl d2 (.inl (cy 0, 8, .inl (fun _ => 0))) l2 (by omega)
  obtain ⟨d4, l4⟩ := hD1 3 _ rfl d3 (.inl (cy 0, 8, .inl (fun _ => 0))) l3 (by omega)
  obtain ⟨d5, l5⟩ := hD1 4 _ rfl d4 (.inl (cy 0, 8, .inl (fun _ => 0))) l4 (by omega)
  obtain ⟨d6, l6⟩ := hD1 5 _ rfl d5 (.inl (cy 0, 8, .inl (fun _ => 0))) l5 (by omega)
  obtain ⟨d7, l7⟩ := hD1 6 _ rfl d6 (.inl (cy 0, 8, .inl (fun _ => 0))) l6 (by omega)
  obtain ⟨d8, l8⟩ := hD1 7 _ rfl d7 (.inl (cy 0, 8, .inl (fun _ => 0))) l7 (by omega)
  obtain ⟨d9, -⟩ := hD1 8 _ rfl d8 (.inl (cy 0, 8, .inl (fun _ => 0))) l8 (by omega)
  have hS1 : va_S A H0 F.heap locs := ⟨by rw [f1]; omega, fun q hq h => by rw [hold q (Nat.lt_of_lt_of_le hq hS.1)]; exact hS.2.1 q hq h, hS.2.2⟩
  obtain ⟨t, a1, b1⟩ := kk H.size F.heap hP1 d9 hS1 F rfl X'
  exact ⟨t, step t (by rw [hT]; exact a1), b1⟩
end FXG

theorem dfX9 : ∀ j, j < 11 → defaultValue (tyX9 j) = vp_V [.null, .null, .null, .null, .int 0, .int 0, .int 0, .int 0, .int 0, .int 0, .int 0] j := by decide +kernel
theorem dfX2 : ∀ j, j < 20 → defaultValue (tyX2 j) = vp_V [.int 0, .null, .null, .null, .int 0, .null, .null, .int 0, .null, .null, .null, .int 0, .null, .int 0, .null, .int 0, .int 0, .int 0, .int 0, .null] j := by decide +kernel
theorem dfX11 : ∀ j, j < 3 → defaultValue (tyX11 j) = vp_V [.null, .int 0, .null] j := by decide +kernel
theorem hd_yX9_init : yX9_init.cls ≠ "java/lang/invoke/MethodHandle" ∧ yX9_init.cls ≠ "java/lang/invoke/VarHandle" ∧ (parseMethodDescriptor yX9_init.desc).map (fun d => d.parameters.length) = some 0 := by decide +kernel
theorem dX9_init_0 : decode cX9_init 0 = .ok (.aload_n 0, 1) := by decide +kernel
theorem dX9_init_1 : decode cX9_init 1 = .ok (.invokespecial 3, 3) := by decide +kernel
theorem dX9_init_4 : decode cX9_init 4 = .ok (.aload_n 0, 1) := by decide +kernel
theorem dX9_init_5 : decode cX9_init 5 = .ok (.bipush 8, 2) := by decide +kernel
theorem dX9_init_7 : decode cX9_init 7 = .ok (.newarray .int, 2) := by decide +kernel
theorem dX9_init_9 : decode cX9_init 9 = .ok (.putfield 9, 3) := by decide +kernel
theorem dX9_init_12 : decode cX9_init 12 = .ok (.aload_n 0, 1) := by decide +kernel
theorem dX9_init_13 : decode cX9_init 13 = .ok (.bipush 8, 2) := by decide +kernel
theorem dX9_init_15 : decode cX9_init 15 = .ok (.newarray .int, 2) := by decide +kernel
theorem dX9_init_17 : decode cX9_init 17 = .ok (.putfield 15, 3) := by decide +kernel
theorem dX9_init_20 : decode cX9_init 20 = .ok (.aload_n 0, 1) := by decide +kernel
theorem dX9_init_21 : decode cX9_init 21 = .ok (.bipush 8, 2) := by decide +kernel
theorem dX9_init_23 : decode cX9_init 23 = .ok (.newarray .int, 2) := by decide +kernel
theorem dX9_init_25 : decode cX9_init 25 = .ok (.putfield 18, 3) := by decide +kernel
theorem dX9_init_28 : decode cX9_init 28 = .ok (.aload_n 0, 1) := by decide +kernel
theorem dX9_init_29 : decode cX9_init 29 = .ok (.iconst 2, 1) := by decide +kernel
theorem dX9_init_30 : decode cX9_init 30 = .ok (.newarray .int, 2) := by decide +kernel
theorem dX9_init_32 : decode cX9_init 32 = .ok (.dup, 1) := by decide +kernel
theorem dX9_init_33 : decode cX9_init 33 = .ok (.iconst 0, 1) := by decide +kernel
theorem dX9_init_34 : decode cX9_init 34 = .ok (.bipush 100, 2) := by decide +kernel
theorem dX9_init_36 : decode cX9_init 36 = .ok (.iastore, 1) := by decide +kernel
theorem dX9_init_37 : decode cX9_init 37 = .ok (.dup, 1) := by decide +kernel
theorem dX9_init_38 : decode cX9_init 38 = .ok (.iconst 1, 1) := by decide +kernel
theorem dX9_init_39 : decode cX9_init 39 = .ok (.bipush 100, 2) := by decide +kernel
theorem dX9_init_41 : decode cX9_init 41 = .ok (.iastore, 1) := by decide +kernel
theorem dX9_init_42 : decode cX9_init 42 = .ok (.putfield 21, 3) := by decide +kernel
theorem dX9_init_45 : decode cX9_init 45 = .ok (.aload_n 0, 1) := by decide +kernel
theorem dX9_init_46 : decode cX9_init 46 = .ok (.iconst (-1), 1) := by decide +kernel
theorem dX9_init_47 : decode cX9_init 47 = .ok (.putfield 24, 3) := by decide +kernel
theorem dX9_init_50 : decode cX9_init 50 = .ok (.aload_n 0, 1) := by decide +kernel
theorem dX9_init_51 : decode cX9_init 51 = .ok (.iconst (-1), 1) := by decide +kernel
theorem dX9_init_52 : decode cX9_init 52 = .ok (.putfield 28, 3) := by decide +kernel
theorem dX9_init_55 : decode cX9_init 55 = .ok (.aload_n 0, 1) := by decide +kernel
theorem dX9_init_56 : decode cX9_init 56 = .ok (.iconst (-1), 1) := by decide +kernel
theorem dX9_init_57 : decode cX9_init 57 = .ok (.putfield 31, 3) := by decide +kernel
theorem dX9_init_60 : decode cX9_init 60 = .ok (.return_, 1) := by decide +kernel
set_option maxHeartbeats 4000000 in
set_option maxRecDepth 100000 in
theorem k_9_init_0 (l : Launch) (D : va_G) (cy : Nat → ClassId) (ld : Nat → Nat) (sz : Nat) (h0 : Nat) : Met l yX9_init (wl yX9_init cX9_init 1 none) ({ frames := 3, cells := 4, slots := 26, locals := 140 }) (pp D cy ld [.ref h0] sz [(h0, .inr (9, [.null, .null, .null, .null, .int 0, .int 0, .int 0, .int 0, .int 0, .int 0, .int 0]))]) (qv D (fun x : Nat → Nat => [(h0, .inr (9, [.ref (x 0), .ref (x 1), .ref (x 2), .ref (x 3), .int 0, .int (-1), .int (-1), .int 0, .int 0, .int 0, .int (-1)])), ((x 0), .inl (cy 0, 8, .inl (fun _ => 0))), ((x 1), .inl (cy 0, 8, .inl (fun _ => 0))), ((x 2), .inl (cy 0, 8, .inl (fun _ => 0))), ((x 3), .inl (cy 0, 2, .inl (upd (upd (fun _ => 0) 0 100) 1 100)))]) (va_A [(h0, .inr (9, [.null, .null, .null, .null, .int 0, .int 0, .int 0, .int 0, .int 0, .int 0, .int 0]))] sz)) 4 26 (va_A [(h0, .inr (9, [.null, .null, .null, .null, .int 0, .int 0, .int 0, .int 0, .int 0, .int 0, .int 0]))] sz) := by
  refine fx_met (y := yX9_init) (cc := cX9_init) (maxL := 1) (ret := none) (av := [.ref h0]) (wc := [(h0, .inr (9, [.null, .null, .null, .null, .int 0, .int 0, .int 0, .int 0, .int 0, .int 0, .int 0]))]) (sz := sz) (cy := cy) (ld := ld) (qv D (fun x : Nat → Nat => [(h0, .inr (9, [.ref (x 0), .ref (x 1), .ref (x 2), .ref (x 3), .int 0, .int (-1), .int (-1), .int 0, .int 0, .int 0, .int (-1)])), ((x 0), .inl (cy 0, 8, .inl (fun _ => 0))), ((x 1), .inl (cy 0, 8, .inl (fun _ => 0))), ((x 2), .inl (cy 0, 8, .inl (fun _ => 0))), ((x 3), .inl (cy 0, 2, .inl (upd (upd (fun _ => 0) 0 100) 1 100)))])) (by decide) (Nat.le_of_ble_eq_true rfl) ?_
  intro p e s m args below meth c hx hb hr hml hts htl hown hlocks hin hK hP A hD hA hS ls hl
  have hown : s.vm.findClass RX9 = some m.cls := hown
  have hin : meth.name = "<init>" := hin
  have hl : lv_has ls 1 [(0, .ref h0)] := hl
  refine lv_aload_n hx hb dX9_init_0 rfl (lv_at hl 0 rfl) ?_
  refine W.objInit hx hb hown (htl _ mw_81) (htl _ mw_10) (htl _ mw_11) rfl (by rw [hml]; exact hl.1) rfl dX9_init_1 (Nat.le_of_ble_eq_true rfl) (Nat.le_of_ble_eq_true rfl) ?_
  refine W.eq (g2 := F0 m 4 ls []) rfl ?_
  refine lv_aload_n hx hb dX9_init_4 rfl (lv_at hl 0 rfl) ?_
  refine lv_bipush (v := 8) hx hb dX9_init_5 (by decide) ?_
  refine fx_newa hx hb (htl _ mw_32) rfl hK hP hD hS hA 0 rfl (fun _ h => h) (a0 := (8, .inl (fun _ => 0))) (fun _ => rfl) (by decide) (by decide) (Nat.le_of_ble_eq_true rfl) (Nat.le_of_ble_eq_true rfl) (Nat.le_of_ble_eq_true rfl) dX9_init_7 (fun q_1 H hP hD hS => ?_)
  refine W.widen (k := 1) (n := 8) (Nat.le_of_ble_eq_true rfl) (Nat.le_of_ble_eq_true rfl) ?_
  have hP : va_P D vwCl [(h0, .inr (9, [.null, .null, .null, .null, .int 0, .int 0, .int 0, .int 0, .int 0, .int 0, .int 0])), (q_1, .inl (cy 0, 8, .inl (fun _ => 0)))] H := hP
  have hD : va_D A [(h0, .inr (9, [.null, .null, .null, .null, .int 0, .int 0, .int 0, .int 0, .int 0, .int 0, .int 0])), (q_1, .inl (cy 0, 8, .inl (fun _ => 0)))] := hD
  refine va_putF (ci := 9) (v := .ref q_1) (ty := .array (.int)) (C := RX9) (T := TX9) (N := 11) hx hb htl inX9 tyX9 tyX9_ok nmX9 hown hK.1 hP hD hS 0 rfl rfl 0 (by decide) (htl _ mw_82) (fun _ h9 => h9) rfl hin rfl (tyX9_ok 0 (by decide)) rfl rfl (Nat.le_of_ble_eq_true rfl) dX9_init_9 (fun H locs hP hD hS => ?_)
  have hP : va_P D vwCl [(h0, .inr (9, [.ref q_1, .null, .null, .null, .int 0, .int 0, .int 0, .int 0, .int 0, .int 0, .int 0])), (q_1, .inl (cy 0, 8, .inl (fun _ => 0)))] H := hP
  have hD : va_D A [(h0, .inr (9, [.ref q_1, .null, .null, .null, .int 0, .int 0, .int 0, .int 0, .int 0, .int 0, .int 0])), (q_1, .inl (cy 0, 8, .inl (fun _ => 0)))] := hD
  refine lv_aload_n hx hb dX9_init_12 rfl (lv_at hl 0 rfl) ?_
  refine lv_bipush (v := 8) hx hb dX9_init_13 (by decide) ?_
  refine fx_newa hx hb (htl _ mw_32) rfl hK hP hD hS hA 0 rfl (fun _ h => h) (a0 := (8, .inl (fun _ => 0))) (fun _ => rfl) (by decide) (by decide) (Nat.le_of_ble_eq_true rfl) (Nat.le_of_ble_eq_true rfl) (Nat.le_of_ble_eq_true rfl) dX9_init_15 (fun q_2 H hP hD hS => ?_)
  refine W.widen (k := 2) (n := 16) (Nat.le_of_ble_eq_true rfl) (Nat.le_of_ble_eq_true rfl) ?_
  have hP : va_P D vwCl [(h0, .inr (9, [.ref q_1, .null, .null, .null, .int 0, .int 0, .int 0, .int 0, .int 0, .int 0, .int 0])), (q_1, .inl (cy 0, 8, .inl (fun _ => 0))), (q_2, .inl (cy 0, 8, .inl (fun _ => 0)))] H := hP
  have hD : va_D A [(h0, .inr (9, [.ref q_1, .null, .null, .null, .int 0, .int 0, .int 0, .int 0, .int 0, .int 0, .int 0])), (q_1, .inl (cy 0, 8, .inl (fun _ => 0))), (q_2, .inl (cy 0, 8, .inl (fun _ => 0)))] := hD
  refine va_putF (ci := 9) (v := .ref q_2) (ty := .array (.int)) (C := RX9) (T := TX9) (N := 11) hx hb htl inX9 tyX9 tyX9_ok nmX9 hown hK.1 hP hD hS 0 rfl rfl 1 (by decide) (htl _ mw_83) (fun _ h9 => h9) rfl hin rfl (tyX9_ok 1 (by decide)) rfl rfl (Nat.le_of_ble_eq_true rfl) dX9_init_17 (fun H locs hP hD hS => ?_)
  have hP : va_P D vwCl [(h0, .inr (9, [.ref q_1, .ref q_2, .null, .null, .int 0, .int 0, .int 0, .int 0, .int 0, .int 0, .int 0])), (q_1, .inl (cy 0, 8, .inl (fun _ => 0))), (q_2, .inl (cy 0, 8, .inl (fun _ => 0)))] H := hP
  have hD : va_D A [(h0, .inr (9, [.ref q_1, .ref q_2, .null, .null, .int 0, .int 0, .int 0, .int 0, .int 0, .int 0, .int 0])), (q_1, .inl (cy 0, 8, .inl (fun _ => 0))), (q_2, .inl (cy 0, 8, .inl (fun _ => 0)))] := hD
  refine lv_aload_n hx hb dX9_init_20 rfl (lv_at hl 0 rfl) ?_
  refine lv_bipush (v := 8) hx hb dX9_init_21 (by decide) ?_
  refine fx_newa hx hb (htl _ mw_32) rfl hK hP hD hS hA 0 rfl (fun _ h => h) (a0 := (8, .inl (fun _ => 0))) (fun _ => rfl) (by decide) (by decide) (Nat.le_of_ble_eq_true rfl) (Nat.le_of_ble_eq_true rfl) (Nat.le_of_ble_eq_true rfl) dX9_init_23 (fun q_3 H hP hD hS => ?_)
  refine W.widen (k := 3) (n := 24) (Nat.le_of_ble_eq_true rfl) (Nat.le_of_ble_eq_true rfl) ?_
  have hP : va_P D vwCl [(h0, .inr (9, [.ref q_1, .ref q_2, .null, .null, .int 0, .int 0, .int 0, .int 0, .int 0, .int 0, .int 0])), (q_1, .inl (cy 0, 8, .inl (fun _ => 0))), (q_2, .inl (cy 0, 8, .inl (fun _ => 0))), (q_3, .inl (cy 0, 8, .inl (fun _ => 0)))] H := hP
  have hD : va_D A [(h0, .inr (9, [.ref q_1, .ref q_2, .null, .null, .int 0, .int 0, .int 0, .int 0, .int 0, .int 0, .int 0])), (q_1, .inl (cy 0, 8, .inl (fun _ => 0))), (q_2, .inl (cy 0, 8, .inl (fun _ => 0))), (q_3, .inl (cy 0, 8, .inl (fun _ => 0)))] := hD
  refine va_putF (ci := 9) (v := .ref q_3) (ty := .array (.int)) (C := RX9) (T := TX9) (N := 11) hx hb htl inX9 tyX9 tyX9_ok nmX9 hown hK.1 hP hD hS 0 rfl rfl 2 (by decide) (htl _ mw_84) (fun _ h9 => h9) rfl hin rfl (tyX9_ok 2 (by decide)) rfl rfl (Nat.le_of_ble_eq_true rfl) dX9_init_25 (fun H locs hP hD hS => ?_)
  have hP : va_P D vwCl [(h0, .inr (9, [.ref q_1, .ref q_2, .ref q_3, .null, .int 0, .int 0, .int 0, .int 0, .int 0, .int 0, .int 0])), (q_1, .inl (cy 0, 8, .inl (fun _ => 0))), (q_2, .inl (cy 0, 8, .inl (fun _ => 0))), (q_3, .inl (cy 0, 8, .inl (fun _ => 0)))] H := hP
  have hD : va_D A [(h0, .inr (9, [.ref q_1, .ref q_2, .ref q_3, .null, .int 0, .int 0, .int 0, .int 0, .int 0, .int 0, .int 0])), (q_1, .inl (cy 0, 8, .inl (fun _ => 0))), (q_2, .inl (cy 0, 8, .inl (fun _ => 0))), (q_3, .inl (cy 0, 8, .inl (fun _ => 0)))] := hD
  refine lv_aload_n hx hb dX9_init_28 rfl (lv_at hl 0 rfl) ?_
  refine lv_iconst (v := 2) hx hb dX9_init_29 (by decide) ?_
  refine fx_newa hx hb (htl _ mw_32) rfl hK hP hD hS hA 0 rfl (fun _ h => h) (a0 := (2, .inl (fun _ => 0))) (fun _ => rfl) (by decide) (by decide) (Nat.le_of_ble_eq_true rfl) (Nat.le_of_ble_eq_true rfl) (Nat.le_of_ble_eq_true rfl) dX9_init_30 (fun q_4 H hP hD hS => ?_)
  refine W.widen (k := 4) (n := 26) (Nat.le_of_ble_eq_true rfl) (Nat.le_of_ble_eq_true rfl) ?_
  have hP : va_P D vwCl [(h0, .inr (9, [.ref q_1, .ref q_2, .ref q_3, .null, .int 0, .int 0, .int 0, .int 0, .int 0, .int 0, .int 0])), (q_1, .inl (cy 0, 8, .inl (fun _ => 0))), (q_2, .inl (cy 0, 8, .inl (fun _ => 0))), (q_3, .inl (cy 0, 8, .inl (fun _ => 0))), (q_4, .inl (cy 0, 2, .inl (fun _ => 0)))] H := hP
  have hD : va_D A [(h0, .inr (9, [.ref q_1, .ref q_2, .ref q_3, .null, .int 0, .int 0, .int 0, .int 0, .int 0, .int 0, .int 0])), (q_1, .inl (cy 0, 8, .inl (fun _ => 0))), (q_2, .inl (cy 0, 8, .inl (fun _ => 0))), (q_3, .inl (cy 0, 8, .inl (fun _ => 0))), (q_4, .inl (cy 0, 2, .inl (fun _ => 0)))] := hD
  refine lv_dup hx hb dX9_init_32 rfl ?_
  refine lv_iconst (v := 0) hx hb dX9_init_33 (by decide) ?_
  refine lv_bipush (v := 100) hx hb dX9_init_34 (by decide) ?_
  refine va_iast hx hb hK.1 hP hD hS 4 0 rfl rfl (fx_in (by decide)) dX9_init_36 (fun H locs hP hD hS => ?_)
  have hP : va_P D vwCl [(h0, .inr (9, [.ref q_1, .ref q_2, .ref q_3, .null, .int 0, .int 0, .int 0, .int 0, .int 0, .int 0, .int 0])), (q_1, .inl (cy 0, 8, .inl (fun _ => 0))), (q_2, .inl (cy 0, 8, .inl (fun _ => 0))), (q_3, .inl (cy 0, 8, .inl (fun _ => 0))), (q_4, .inl (cy 0, 2, .inl (upd (fun _ => 0) 0 100)))] H := hP
  have hD : va_D A [(h0, .inr (9, [.ref q_1, .ref q_2, .ref q_3, .null, .int 0, .int 0, .int 0, .int 0, .int 0, .int 0, .int 0])), (q_1, .inl (cy 0, 8, .inl (fun _ => 0))), (q_2, .inl (cy 0, 8, .inl (fun _ => 0))), (q_3, .inl (cy 0, 8, .inl (fun _ => 0))), (q_4, .inl (cy 0, 2, .inl (upd (fun _ => 0) 0 100)))] := hD
  refine lv_dup hx hb dX9_init_37 rfl ?_
  refine lv_iconst (v := 1) hx hb dX9_init_38 (by decide) ?_
  refine lv_bipush (v := 100) hx hb dX9_init_39 (by decide) ?_
  refine va_iast hx hb hK.1 hP hD hS 4 0 rfl rfl (fx_in (by decide)) dX9_init_41 (fun H locs hP hD hS => ?_)
  have hP : va_P D vwCl [(h0, .inr (9, [.ref q_1, .ref q_2, .ref q_3, .null, .int 0, .int 0, .int 0, .int 0, .int 0, .int 0, .int 0])), (q_1, .inl (cy 0, 8, .inl (fun _ => 0))), (q_2, .inl (cy 0, 8, .inl (fun _ => 0))), (q_3, .inl (cy 0, 8, .inl (fun _ => 0))), (q_4, .inl (cy 0, 2, .inl (upd (upd (fun _ => 0) 0 100) 1 100)))] H := hP
  have hD : va_D A [(h0, .inr (9, [.ref q_1, .ref q_2, .ref q_3, .null, .int 0, .int 0, .int 0, .int 0, .int 0, .int 0, .int 0])), (q_1, .inl (cy 0, 8, .inl (fun _ => 0))), (q_2, .inl (cy 0, 8, .inl (fun _ => 0))), (q_3, .inl (cy 0, 8, .inl (fun _ => 0))), (q_4, .inl (cy 0, 2, .inl (upd (upd (fun _ => 0) 0 100) 1 100)))] := hD
  refine va_putF (ci := 9) (v := .ref q_4) (ty := .array (.int)) (C := RX9) (T := TX9) (N := 11) hx hb htl inX9 tyX9 tyX9_ok nmX9 hown hK.1 hP hD hS 0 rfl rfl 3 (by decide) (htl _ mw_85) (fun _ h9 => h9) rfl hin rfl (tyX9_ok 3 (by decide)) rfl rfl (Nat.le_of_ble_eq_true rfl) dX9_init_42 (fun H locs hP hD hS => ?_)
  have hP : va_P D vwCl [(h0, .inr (9, [.ref q_1, .ref q_2, .ref q_3, .ref q_4, .int 0, .int 0, .int 0, .int 0, .int 0, .int 0, .int 0])), (q_1, .inl (cy 0, 8, .inl (fun _ => 0))), (q_2, .inl (cy 0, 8, .inl (fun _ => 0))), (q_3, .inl (cy 0, 8, .inl (fun _ => 0))), (q_4, .inl (cy 0, 2, .inl (upd (upd (fun _ => 0) 0 100) 1 100)))] H := hP
  have hD : va_D A [(h0, .inr (9, [.ref q_1, .ref q_2, .ref q_3, .ref q_4, .int 0, .int 0, .int 0, .int 0, .int 0, .int 0, .int 0])), (q_1, .inl (cy 0, 8, .inl (fun _ => 0))), (q_2, .inl (cy 0, 8, .inl (fun _ => 0))), (q_3, .inl (cy 0, 8, .inl (fun _ => 0))), (q_4, .inl (cy 0, 2, .inl (upd (upd (fun _ => 0) 0 100) 1 100)))] := hD
  refine lv_aload_n hx hb dX9_init_45 rfl (lv_at hl 0 rfl) ?_
  refine lv_iconst (v := (-1)) hx hb dX9_init_46 (by decide) ?_
  refine va_put (ci := 9) (v := .int (-1)) (ty := .int) (C := RX9) (T := TX9) (N := 11) hx hb htl inX9 tyX9 tyX9_ok nmX9 hown hK.1 hP hD hS 0 rfl rfl 5 (by decide) (htl _ mw_86) (fun _ h9 => h9) rfl (tyX9_ok 5 (by decide)) rfl rfl (Nat.le_of_ble_eq_true rfl) dX9_init_47 (fun H locs hP hD hS => ?_)
  have hP : va_P D vwCl [(h0, .inr (9, [.ref q_1, .ref q_2, .ref q_3, .ref q_4, .int 0, .int (-1), .int 0, .int 0, .int 0, .int 0, .int 0])), (q_1, .inl (cy 0, 8, .inl (fun _ => 0))), (q_2, .inl (cy 0, 8, .inl (fun _ => 0))), (q_3, .inl (cy 0, 8, .inl (fun _ => 0))), (q_4, .inl (cy 0, 2, .inl (upd (upd (fun _ => 0) 0 100) 1 100)))] H := hP
  have hD : va_D A [(h0, .inr (9, [.ref q_1, .ref q_2, .ref q_3, .ref q_4, .int 0, .int (-1), .int 0, .int 0, .int 0, .int 0, .int 0])), (q_1, .inl (cy 0, 8, .inl (fun _ => 0))), (q_2, .inl (cy 0, 8, .inl (fun _ => 0))), (q_3, .inl (cy 0, 8, .inl (fun _ => 0))), (q_4, .inl (cy 0, 2, .inl (upd (upd (fun _ => 0) 0 100) 1 100)))] := hD
  refine lv_aload_n hx hb dX9_init_50 rfl (lv_at hl 0 rfl) ?_
  refine lv_iconst (v := (-1)) hx hb dX9_init_51 (by decide) ?_
  refine va_put (ci := 9) (v := .int (-1)) (ty := .int) (C := RX9) (T := TX9) (N := 11) hx hb htl inX9 tyX9 tyX9_ok nmX9 hown hK.1 hP hD hS 0 rfl rfl 6 (by decide) (htl _ mw_87) (fun _ h9 => h9) rfl (tyX9_ok 6 (by decide)) rfl rfl (Nat.le_of_ble_eq_true rfl) dX9_init_52 (fun H locs hP hD hS => ?_)
  have hP : va_P D vwCl [(h0, .inr (9, [.ref q_1, .ref q_2, .ref q_3, .ref q_4, .int 0, .int (-1), .int (-1), .int 0, .int 0, .int 0, .int 0])), (q_1, .inl (cy 0, 8, .inl (fun _ => 0))), (q_2, .inl (cy 0, 8, .inl (fun _ => 0))), (q_3, .inl (cy 0, 8, .inl (fun _ => 0))), (q_4, .inl (cy 0, 2, .inl (upd (upd (fun _ => 0) 0 100) 1 100)))] H := hP
  have hD : va_D A [(h0, .inr (9, [.ref q_1, .ref q_2, .ref q_3, .ref q_4, .int 0, .int (-1), .int (-1), .int 0, .int 0, .int 0, .int 0])), (q_1, .inl (cy 0, 8, .inl (fun _ => 0))), (q_2, .inl (cy 0, 8, .inl (fun _ => 0))), (q_3, .inl (cy 0, 8, .inl (fun _ => 0))), (q_4, .inl (cy 0, 2, .inl (upd (upd (fun _ => 0) 0 100) 1 100)))] := hD
  refine lv_aload_n hx hb dX9_init_55 rfl (lv_at hl 0 rfl) ?_
  refine lv_iconst (v := (-1)) hx hb dX9_init_56 (by decide) ?_
  refine va_put (ci := 9) (v := .int (-1)) (ty := .int) (C := RX9) (T := TX9) (N := 11) hx hb htl inX9 tyX9 tyX9_ok nmX9 hown hK.1 hP hD hS 0 rfl rfl 10 (by decide) (htl _ mw_88) (fun _ h9 => h9) rfl (tyX9_ok 10 (by decide)) rfl rfl (Nat.le_of_ble_eq_true rfl) dX9_init_57 (fun H locs hP hD hS => ?_)
  have hP : va_P D vwCl [(h0, .inr (9, [.ref q_1, .ref q_2, .ref q_3, .ref q_4, .int 0, .int (-1), .int (-1), .int 0, .int 0, .int 0, .int (-1)])), (q_1, .inl (cy 0, 8, .inl (fun _ => 0))), (q_2, .inl (cy 0, 8, .inl (fun _ => 0))), (q_3, .inl (cy 0, 8, .inl (fun _ => 0))), (q_4, .inl (cy 0, 2, .inl (upd (upd (fun _ => 0) 0 100) 1 100)))] H := hP
  have hD : va_D A [(h0, .inr (9, [.ref q_1, .ref q_2, .ref q_3, .ref q_4, .int 0, .int (-1), .int (-1), .int 0, .int 0, .int 0, .int (-1)])), (q_1, .inl (cy 0, 8, .inl (fun _ => 0))), (q_2, .inl (cy 0, 8, .inl (fun _ => 0))), (q_3, .inl (cy 0, 8, .inl (fun _ => 0))), (q_4, .inl (cy 0, 2, .inl (upd (upd (fun _ => 0) 0 100) 1 100)))] := hD
  exact fx_vret hx hb hr hlocks (fun k => ([q_1, q_2, q_3, q_4] : List Nat).getD k 0) hP hD hS [0, 1, 2, 3, 4] (by decide) rfl dX9_init_60
theorem dX2_init_0 : decode cX2_init 0 = .ok (.aload_n 0, 1) := by decide +kernel
theorem dX2_init_1 : decode cX2_init 1 = .ok (.invokespecial 3, 3) := by decide +kernel
theorem dX2_init_4 : decode cX2_init 4 = .ok (.aload_n 0, 1) := by decide +kernel
theorem dX2_init_5 : decode cX2_init 5 = .ok (.bipush 8, 2) := by decide +kernel
theorem dX2_init_7 : decode cX2_init 7 = .ok (.newarray .int, 2) := by decide +kernel
theorem dX2_init_9 : decode cX2_init 9 = .ok (.putfield 9, 3) := by decide +kernel
theorem dX2_init_12 : decode cX2_init 12 = .ok (.aload_n 0, 1) := by decide +kernel
theorem dX2_init_13 : decode cX2_init 13 = .ok (.bipush 8, 2) := by decide +kernel
theorem dX2_init_15 : decode cX2_init 15 = .ok (.newarray .int, 2) := by decide +kernel
theorem dX2_init_17 : decode cX2_init 17 = .ok (.putfield 15, 3) := by decide +kernel
theorem dX2_init_20 : decode cX2_init 20 = .ok (.aload_n 0, 1) := by decide +kernel
theorem dX2_init_21 : decode cX2_init 21 = .ok (.bipush 8, 2) := by decide +kernel
theorem dX2_init_23 : decode cX2_init 23 = .ok (.newarray .int, 2) := by decide +kernel
theorem dX2_init_25 : decode cX2_init 25 = .ok (.putfield 18, 3) := by decide +kernel
theorem dX2_init_28 : decode cX2_init 28 = .ok (.aload_n 0, 1) := by decide +kernel
theorem dX2_init_29 : decode cX2_init 29 = .ok (.bipush 10, 2) := by decide +kernel
theorem dX2_init_31 : decode cX2_init 31 = .ok (.newarray .int, 2) := by decide +kernel
theorem dX2_init_33 : decode cX2_init 33 = .ok (.putfield 21, 3) := by decide +kernel
theorem dX2_init_36 : decode cX2_init 36 = .ok (.aload_n 0, 1) := by decide +kernel
theorem dX2_init_37 : decode cX2_init 37 = .ok (.bipush 10, 2) := by decide +kernel
theorem dX2_init_39 : decode cX2_init 39 = .ok (.newarray .int, 2) := by decide +kernel
theorem dX2_init_41 : decode cX2_init 41 = .ok (.putfield 24, 3) := by decide +kernel
theorem dX2_init_44 : decode cX2_init 44 = .ok (.aload_n 0, 1) := by decide +kernel
theorem dX2_init_45 : decode cX2_init 45 = .ok (.bipush 10, 2) := by decide +kernel
theorem dX2_init_47 : decode cX2_init 47 = .ok (.newarray .int, 2) := by decide +kernel
theorem dX2_init_49 : decode cX2_init 49 = .ok (.putfield 27, 3) := by decide +kernel
theorem dX2_init_52 : decode cX2_init 52 = .ok (.aload_n 0, 1) := by decide +kernel
theorem dX2_init_53 : decode cX2_init 53 = .ok (.bipush 10, 2) := by decide +kernel
theorem dX2_init_55 : decode cX2_init 55 = .ok (.newarray .int, 2) := by decide +kernel
theorem dX2_init_57 : decode cX2_init 57 = .ok (.putfield 30, 3) := by decide +kernel
theorem dX2_init_60 : decode cX2_init 60 = .ok (.aload_n 0, 1) := by decide +kernel
theorem dX2_init_61 : decode cX2_init 61 = .ok (.bipush 10, 2) := by decide +kernel
theorem dX2_init_63 : decode cX2_init 63 = .ok (.newarray .int, 2) := by decide +kernel
theorem dX2_init_65 : decode cX2_init 65 = .ok (.putfield 33, 3) := by decide +kernel
theorem dX2_init_68 : decode cX2_init 68 = .ok (.aload_n 0, 1) := by decide +kernel
theorem dX2_init_69 : decode cX2_init 69 = .ok (.bipush 40, 2) := by decide +kernel
theorem dX2_init_71 : decode cX2_init 71 = .ok (.newarray .int, 2) := by decide +kernel
theorem dX2_init_73 : decode cX2_init 73 = .ok (.putfield 36, 3) := by decide +kernel
theorem dX2_init_76 : decode cX2_init 76 = .ok (.aload_n 0, 1) := by decide +kernel
theorem dX2_init_77 : decode cX2_init 77 = .ok (.bipush 6, 2) := by decide +kernel
theorem dX2_init_79 : decode cX2_init 79 = .ok (.anewarray 39, 3) := by decide +kernel
theorem dX2_init_82 : decode cX2_init 82 = .ok (.putfield 41, 3) := by decide +kernel
theorem dX2_init_85 : decode cX2_init 85 = .ok (.aload_n 0, 1) := by decide +kernel
theorem dX2_init_86 : decode cX2_init 86 = .ok (.iconst (-1), 1) := by decide +kernel
theorem dX2_init_87 : decode cX2_init 87 = .ok (.putfield 45, 3) := by decide +kernel
theorem dX2_init_90 : decode cX2_init 90 = .ok (.aload_n 0, 1) := by decide +kernel
theorem dX2_init_91 : decode cX2_init 91 = .ok (.bipush 30, 2) := by decide +kernel
theorem dX2_init_93 : decode cX2_init 93 = .ok (.putfield 49, 3) := by decide +kernel
theorem dX2_init_96 : decode cX2_init 96 = .ok (.aload_n 0, 1) := by decide +kernel
theorem dX2_init_97 : decode cX2_init 97 = .ok (.bipush 50, 2) := by decide +kernel
theorem dX2_init_99 : decode cX2_init 99 = .ok (.putfield 52, 3) := by decide +kernel
theorem dX2_init_102 : decode cX2_init 102 = .ok (.aload_n 0, 1) := by decide +kernel
theorem dX2_init_103 : decode cX2_init 103 = .ok (.new 55, 3) := by decide +kernel
theorem dX2_init_106 : decode cX2_init 106 = .ok (.dup, 1) := by decide +kernel
theorem dX2_init_107 : decode cX2_init 107 = .ok (.invokespecial 57, 3) := by decide +kernel
theorem dX2_init_110 : decode cX2_init 110 = .ok (.putfield 58, 3) := by decide +kernel
theorem dX2_init_113 : decode cX2_init 113 = .ok (.return_, 1) := by decide +kernel
set_option maxHeartbeats 4000000 in
set_option maxRecDepth 100000 in
theorem k_2_init_0 (l : Launch) (D : va_G) (cy : Nat → ClassId) (ld : Nat → Nat) (sz : Nat) (h0 : Nat) : Met l yX2_init (wl yX2_init cX2_init 1 none) ({ frames := 4, cells := 15, slots := 157, locals := 210 }) (pp D cy ld [.ref h0] sz [(h0, .inr (2, [.int 0, .null, .null, .null, .int 0, .null, .null, .int 0, .null, .null, .null, .int 0, .null, .int 0, .null, .int 0, .int 0, .int 0, .int 0, .null]))]) (qv D (fun x : Nat → Nat => [(h0, .inr (2, [.int 0, .ref (x 0), .ref (x 1), .ref (x 2), .int 0, .ref (x 3), .ref (x 4), .int 0, .ref (x 5), .ref (x 6), .ref (x 7), .int 0, .ref (x 8), .int 0, .ref (x 9), .int (-1), .int 30, .int 50, .int 0, .ref (x 10)])), ((x 0), .inl (cy 0, 8, .inl (fun _ => 0))), ((x 1), .inl (cy 0, 8, .inl (fun _ => 0))), ((x 2), .inl (cy 0, 8, .inl (fun _ => 0))), ((x 3), .inl (cy 0, 10, .inl (fun _ => 0))), ((x 4), .inl (cy 0, 10, .inl (fun _ => 0))), ((x 5), .inl (cy 0, 10, .inl (fun _ => 0))), ((x 6), .inl (cy 0, 10, .inl (fun _ => 0))), ((x 7), .inl (cy 0, 10, .inl (fun _ => 0))), ((x 8), .inl (cy 0, 40, .inl (fun _ => 0))), ((x 9), .inl (cy 5, 6, .inr (.inr (.inr (.inr (fun _ => none)))))), ((x 10), .inr (9, [.ref (x 11), .ref (x 12), .ref (x 13), .ref (x 14), .int 0, .int (-1), .int (-1), .int 0, .int 0, .int 0, .int (-1)])), ((x 11), .inl (cy 0, 8, .inl (fun _ => 0))), ((x 12), .inl (cy 0, 8, .inl (fun _ => 0))), ((x 13), .inl (cy 0, 8, .inl (fun _ => 0))), ((x 14), .inl (cy 0, 2, .inl (upd (upd (fun _ => 0) 0 100) 1 100)))]) (va_A [(h0, .inr (2, [.int 0, .null, .null, .null, .int 0, .null, .null, .int 0, .null, .null, .null, .int 0, .null, .int 0, .null, .int 0, .int 0, .int 0, .int 0, .null]))] sz)) 15 157 (va_A [(h0, .inr (2, [.int 0, .null, .null, .null, .int 0, .null, .null, .int 0, .null, .null, .null, .int 0, .null, .int 0, .null, .int 0, .int 0, .int 0, .int 0, .null]))] sz) := by
  refine fx_met (y := yX2_init) (cc := cX2_init) (maxL := 1) (ret := none) (av := [.ref h0]) (wc := [(h0, .inr (2, [.int 0, .null, .null, .null, .int 0, .null, .null, .int 0, .null, .null, .null, .int 0, .null, .int 0, .null, .int 0, .int 0, .int 0, .int 0, .null]))]) (sz := sz) (cy := cy) (ld := ld) (qv D (fun x : Nat → Nat => [(h0, .inr (2, [.int 0, .ref (x 0), .ref (x 1), .ref (x 2), .int 0, .ref (x 3), .ref (x 4), .int 0, .ref (x 5), .ref (x 6), .ref (x 7), .int 0, .ref (x 8), .int 0, .ref (x 9), .int (-1), .int 30, .int 50, .int 0, .ref (x 10)])), ((x 0), .inl (cy 0, 8, .inl (fun _ => 0))), ((x 1), .inl (cy 0, 8, .inl (fun _ => 0))), ((x 2), .inl (cy 0, 8, .inl (fun _ => 0))), ((x 3), .inl (cy 0, 10, .inl (fun _ => 0))), ((x 4), .inl (cy 0, 10, .inl (fun _ => 0))), ((x 5), .inl (cy 0, 10, .inl (fun _ => 0))), ((x 6), .inl (cy 0, 10, .inl (fun _ => 0))), ((x 7), .inl (cy 0, 10, .inl (fun _ => 0))), ((x 8), .inl (cy 0, 40, .inl (fun _ => 0))), ((x 9), .inl (cy 5, 6, .inr (.inr (.inr (.inr (fun _ => none)))))), ((x 10), .inr (9, [.ref (x 11), .ref (x 12), .ref (x 13), .ref (x 14), .int 0, .int (-1), .int (-1), .int 0, .int 0, .int 0, .int (-1)])), ((x 11), .inl (cy 0, 8, .inl (fun _ => 0))), ((x 12), .inl (cy 0, 8, .inl (fun _ => 0))), ((x 13), .inl (cy 0, 8, .inl (fun _ => 0))), ((x 14), .inl (cy 0, 2, .inl (upd (upd (fun _ => 0) 0 100) 1 100)))])) (by decide) (Nat.le_of_ble_eq_true rfl) ?_
  intro p e s m args below meth c hx hb hr hml hts htl hown hlocks hin hK hP A hD hA hS ls hl
  have hown : s.vm.findClass RX2 = some m.cls := hown
  have hin : meth.name = "<init>" := hin
  have hl : lv_has ls 1 [(0, .ref h0)] := hl
  refine lv_aload_n hx hb dX2_init_0 rfl (lv_at hl 0 rfl) ?_
  refine W.objInit hx hb hown (htl _ mw_59) (htl _ mw_10) (htl _ mw_11) rfl (by rw [hml]; exact hl.1) rfl dX2_init_1 (Nat.le_of_ble_eq_true rfl) (Nat.le_of_ble_eq_true rfl) ?_
  refine W.eq (g2 := F0 m 4 ls []) rfl ?_
  refine lv_aload_n hx hb dX2_init_4 rfl (lv_at hl 0 rfl) ?_
  refine lv_bipush (v := 8) hx hb dX2_init_5 (by decide) ?_
  refine fx_newa hx hb (htl _ mw_32) rfl hK hP hD hS hA 0 rfl (fun _ h => h) (a0 := (8, .inl (fun _ => 0))) (fun _ => rfl) (by decide) (by decide) (Nat.le_of_ble_eq_true rfl) (Nat.le_of_ble_eq_true rfl) (Nat.le_of_ble_eq_true rfl) dX2_init_7 (fun q_1 H hP hD hS => ?_)
  refine W.widen (k := 1) (n := 8) (Nat.le_of_ble_eq_true rfl) (Nat.le_of_ble_eq_true rfl) ?_
  have hP : va_P D vwCl [(h0, .inr (2, [.int 0, .null, .null, .null, .int 0, .null, .null, .int 0, .null, .null, .null, .int 0, .null, .int 0, .null, .int 0, .int 0, .int 0, .int 0, .null])), (q_1, .inl (cy 0, 8, .inl (fun _ => 0)))] H := hP
  have hD : va_D A [(h0, .inr (2, [.int 0, .null, .null, .null, .int 0, .null, .null, .int 0, .null, .null, .null, .int 0, .null, .int 0, .null, .int 0, .int 0, .int 0, .int 0, .null])), (q_1, .inl (cy 0, 8, .inl (fun _ => 0)))] := hD
  refine va_putF (ci := 2) (v := .ref q_1) (ty := .array (.int)) (C := RX2) (T := TX2) (N := 20) hx hb htl inX2 tyX2 tyX2_ok nmX2 hown hK.1 hP hD hS 0 rfl rfl 1 (by decide) (htl _ mw_60) (fun _ h9 => h9) rfl hin rfl (tyX2_ok 1 (by decide)) rfl rfl (Nat.le_of_ble_eq_true rfl) dX2_init_9 (fun H locs hP hD hS => ?_)
  have hP : va_P D vwCl [(h0, .inr (2, [.int 0, .ref q_1, .null, .null, .int 0, .null, .null, .int 0, .null, .null, .null, .int 0, .null, .int 0, .null, .int 0, .int 0, .int 0, .int 0, .null])), (q_1, .inl (cy 0, 8, .inl (fun _ => 0)))] H := hP
  have hD : va_D A [(h0, .inr (2, [.int 0, .ref q_1, .null, .null, .int 0, .null, .null, .int 0, .null, .null, .null, .int 0, .null, .int 0, .null, .int 0, .int 0, .int 0, .int 0, .null])), (q_1, .inl (cy 0, 8, .inl (fun _ => 0)))] := hD
  refine lv_aload_n hx hb dX2_init_12 rfl (lv_at hl 0 rfl) ?_
  refine lv_bipush (v := 8) hx hb dX2_init_13 (by decide) ?_
  refine fx_newa hx hb (htl _ mw_32) rfl hK hP hD hS hA 0 rfl (fun _ h => h) (a0 := (8, .inl (fun _ => 0))) (fun _ => rfl) (by decide) (by decide) (Nat.le_of_ble_eq_true rfl) (Nat.le_of_ble_eq_true rfl) (Nat.le_of_ble_eq_true rfl) dX2_init_15 (fun q_2 H hP hD hS => ?_)
  refine W.widen (k := 2) (n := 16) (Nat.le_of_ble_eq_true rfl) (Nat.le_of_ble_eq_true rfl) ?_
  have hP : va_P D vwCl [(h0, .inr (2, [.int 0, .ref q_1, .null, .null, .int 0, .null, .null, .int 0, .null, .null, .null, .int 0, .null, .int 0, .null, .int 0, .int 0, .int 0, .int 0, .null])), (q_1, .inl (cy 0, 8, .inl (fun _ => 0))), (q_2, .inl (cy 0, 8, .inl (fun _ => 0)))] H := hP
  have hD : va_D A [(h0, .inr (2, [.int 0, .ref q_1, .null, .null, .int 0, .null, .null, .int 0, .null, .null, .null, .int 0, .null, .int 0, .null, .int 0, .int 0, .int 0, .int 0, .null])), (q_1, .inl (cy 0, 8, .inl (fun _ => 0))), (q_2, .inl (cy 0, 8, .inl (fun _ => 0)))] := hD
  refine va_putF (ci := 2) (v := .ref q_2) (ty := .array (.int)) (C := RX2) (T := TX2) (N := 20) hx hb htl inX2 tyX2 tyX2_ok nmX2 hown hK.1 hP hD hS 0 rfl rfl 2 (by decide) (htl _ mw_61) (fun _ h9 => h9) rfl hin rfl (tyX2_ok 2 (by decide)) rfl rfl (Nat.le_of_ble_eq_true rfl) dX2_init_17 (fun H locs hP hD hS => ?_)
  have hP : va_P D vwCl [(h0, .inr (2, [.int 0, .ref q_1, .ref q_2, .null, .int 0, .null, .null, .int 0, .null, .null, .null, .int 0, .null, .int 0, .null, .int 0, .int 0, .int 0, .int 0, .null])), (q_1, .inl (cy 0, 8, .inl (fun _ => 0))), (q_2, .inl (cy 0, 8, .inl (fun _ => 0)))] H := hP
  have hD : va_D A [(h0, .inr (2, [.int 0, .ref q_1, .ref q_2, .null, .int 0, .null, .null, .int 0, .null, .null, .null, .int 0, .null, .int 0, .null, .int 0, .int 0, .int 0, .int 0, .null])), (q_1, .inl (cy 0, 8, .inl (fun _ => 0))), (q_2, .inl (cy 0, 8, .inl (fun _ => 0)))] := hD
  refine lv_aload_n hx hb dX2_init_20 rfl (lv_at hl 0 rfl) ?_
  refine lv_bipush (v := 8) hx hb dX2_init_21 (by decide) ?_
  refine fx_newa hx hb (htl _ mw_32) rfl hK hP hD hS hA 0 rfl (fun _ h => h) (a0 := (8, .inl (fun _ => 0))) (fun _ => rfl) (by decide) (by decide) (Nat.le_of_ble_eq_true rfl) (Nat.le_of_ble_eq_true rfl) (Nat.le_of_ble_eq_true rfl) dX2_init_23 (fun q_3 H hP hD hS => ?_)
  refine W.widen (k := 3) (n := 24) (Nat.le_of_ble_eq_true rfl) (Nat.le_of_ble_eq_true rfl) ?_
  have hP : va_P D vwCl [(h0, .inr (2, [.int 0, .ref q_1, .ref q_2, .null, .int 0, .null, .null, .int 0, .null, .null, .null, .int 0, .null, .int 0, .null, .int 0, .int 0, .int 0, .int 0, .null])), (q_1, .inl (cy 0, 8, .inl (fun _ => 0))), (q_2, .inl (cy 0, 8, .inl (fun _ => 0))), (q_3, .inl (cy 0, 8, .inl (fun _ => 0)))] H := hP
  have hD : va_D A [(h0, .inr (2, [.int 0, .ref q_1, .ref q_2, .null, .int 0, .null, .null, .int 0, .null, .null, .null, .int 0, .null, .int 0, .null, .int 0, .int 0, .int 0, .int 0, .null])), (q_1, .inl (cy 0, 8, .inl (fun _ => 0))), (q_2, .inl (cy 0, 8, .inl (fun _ => 0))), (q_3, .inl (cy 0, 8, .inl (fun _ => 0)))] := hD
  refine va_putF (ci := 2) (v := .ref q_3) (ty := .array (.int)) (C := RX2) (T := TX2) (N := 20) hx hb htl inX2 tyX2 tyX2_ok nmX2 hown hK.1 hP hD hS 0 rfl rfl 3 (by decide) (htl _ mw_62) (fun _ h9 => h9) rfl hin rfl (tyX2_ok 3 (by decide)) rfl rfl (Nat.le_of_ble_eq_true rfl) dX2_init_25 (fun H locs hP hD hS => ?_)
  have hP : va_P D vwCl [(h0, .inr (2, [.int 0, .ref q_1, .ref q_2, .ref q_3, .int 0, .null, .null, .int 0, .null, .null, .null, .int 0, .null, .int 0, .null, .int 0, .int 0, .int 0, .int 0, .null])), (q_1, .inl (cy 0, 8, .inl (fun _ => 0))), (q_2, .inl (cy 0, 8, .inl (fun _ => 0))), (q_3, .inl (cy 0, 8, .inl (fun _ => 0)))] H := hP
  have hD : va_D A [(h0, .inr (2, [.int 0, .ref q_1, .ref q_2, .ref q_3, .int 0, .null, .null, .int 0, .null, .null, .null, .int 0, .null, .int 0, .null, .int 0, .int 0, .int 0, .int 0, .null])), (q_1, .inl (cy 0, 8, .inl (fun _ => 0))), (q_2, .inl (cy 0, 8, .inl (fun _ => 0))), (q_3, .inl (cy 0, 8, .inl (fun _ => 0)))] := hD
  refine lv_aload_n hx hb dX2_init_28 rfl (lv_at hl 0 rfl) ?_
  refine lv_bipush (v := 10) hx hb dX2_init_29 (by decide) ?_
  refine fx_newa hx hb (htl _ mw_32) rfl hK hP hD hS hA 0 rfl (fun _ h => h) (a0 := (10, .inl (fun _ => 0))) (fun _ => rfl) (by decide) (by decide) (Nat.le_of_ble_eq_true rfl) (Nat.le_of_ble_eq_true rfl) (Nat.le_of_ble_eq_true rfl) dX2_init_31 (fun q_4 H hP hD hS => ?_)
  refine W.widen (k := 4) (n := 34) (Nat.le_of_ble_eq_true rfl) (Nat.le_of_ble_eq_true rfl) ?_
  have hP : va_P D vwCl [(h0, .inr (2, [.int 0, .ref q_1, .ref q_2, .ref q_3, .int 0, .null, .null, .int 0, .null, .null, .null, .int 0, .null, .int 0, .null, .int 0, .int 0, .int 0, .int 0, .null])), (q_1, .inl (cy 0, 8, .inl (fun _ => 0))), (q_2, .inl (cy 0, 8, .inl (fun _ => 0))), (q_3, .inl (cy 0, 8, .inl (fun _ => 0))), (q_4, .inl (cy 0, 10, .inl (fun _ => 0)))] H := hP
  have hD : va_D A [(h0, .inr (2, [.int 0, .ref q_1, .ref q_2, .ref q_3, .int 0, .null, .null, .int 0, .null, .null, .null, .int 0, .null, .int 0, .null, .int 0, .int 0, .int 0, .int 0, .null])), (q_1, .inl (cy 0, 8, .inl (fun _ => 0))), (q_2, .inl (cy 0, 8, .inl (fun _ => 0))), (q_3, .inl (cy 0, 8, .inl (fun _ => 0))), (q_4, .inl (cy 0, 10, .inl (fun _ => 0)))] := hD
  refine va_putF (ci := 2) (v := .ref q_4) (ty := .array (.int)) (C := RX2) (T := TX2) (N := 20) hx hb htl inX2 tyX2 tyX2_ok nmX2 hown hK.1 hP hD hS 0 rfl rfl 5 (by decide) (htl _ mw_63) (fun _ h9 => h9) rfl hin rfl (tyX2_ok 5 (by decide)) rfl rfl (Nat.le_of_ble_eq_true rfl) dX2_init_33 (fun H locs hP hD hS => ?_)
  have hP : va_P D vwCl [(h0, .inr (2, [.int 0, .ref q_1, .ref q_2, .ref q_3, .int 0, .ref q_4, .null, .int 0, .null, .null, .null, .int 0, .null, .int 0, .null, .int 0, .int 0, .int 0, .int 0, .null])), (q_1, .inl (cy 0, 8, .inl (fun _ => 0))), (q_2, .inl (cy 0, 8, .inl (fun _ => 0))), (q_3, .inl (cy 0, 8, .inl (fun _ => 0))), (q_4, .inl (cy 0, 10, .inl (fun _ => 0)))] H := hP
  have hD : va_D A [(h0, .inr (2, [.int 0, .ref q_1, .ref q_2, .ref q_3, .int 0, .ref q_4, .null, .int 0, .null, .null, .null, .int 0, .null, .int 0, .null, .int 0, .int 0, .int 0, .int 0, .null])), (q_1, .inl (cy 0, 8, .inl (fun _ => 0))), (q_2, .inl (cy 0, 8, .inl (fun _ => 0))), (q_3, .inl (cy 0, 8, .inl (fun _ => 0))), (q_4, .inl (cy 0, 10, .inl (fun _ => 0)))] := hD
  refine lv_aload_n hx hb dX2_init_36 rfl (lv_at hl 0 rfl) ?_
  refine lv_bipush (v := 10) hx hb dX2_init_37 (by decide) ?_
  refine fx_newa hx hb (htl _ mw_32) rfl hK hP hD hS hA 0 rfl (fun _ h => h) (a0 := (10, .inl (fun _ => 0))) (fun _ => rfl) (by decide) (by decide) (Nat.le_of_ble_eq_true rfl) (Nat.le_of_ble_eq_true rfl) (Nat.le_of_ble_eq_true rfl) dX2_init_39 (fun q_5 H hP hD hS => ?_)
  refine W.widen (k := 5) (n := 44) (Nat.le_of_ble_eq_true rfl) (Nat.le_of_ble_eq_true rfl) ?_
  have hP : va_P D vwCl [(h0, .inr (2, [.int 0, .ref q_1, .ref q_2, .ref q_3, .int 0, .ref q_4, .null, .int 0, .null, .null, .null, .int 0, .null, .int 0, .null, .int 0, .int 0, .int 0, .int 0, .null])), (q_1, .inl (cy 0, 8, .inl (fun _ => 0))), (q_2, .inl (cy 0, 8, .inl (fun _ => 0))), (q_3, .inl (cy 0, 8, .inl (fun _ => 0))), (q_4, .inl (cy 0, 10, .inl (fun _ => 0))), (q_5, .inl (cy 0, 10, .inl (fun _ => 0)))] H := hP
  have hD : va_D A [(h0, .inr (2, [.int 0, .ref q_1, .ref q_2, .ref q_3, .int 0, .ref q_4, .null, .int 0, .null, .null, .null, .int 0, .null, .int 0, .null, .int 0, .int 0, .int 0, .int 0, .null])), (q_1, .inl (cy 0, 8, .inl (fun _ => 0))), (q_2, .inl (cy 0, 8, .inl (fun _ => 0))), (q_3, .inl (cy 0, 8, .inl (fun _ => 0))), (q_4, .inl (cy 0, 10, .inl (fun _ => 0))), (q_5, .inl (cy 0, 10, .inl (fun _ => 0)))] := hD
  refine va_putF (ci := 2) (v := .ref q_5) (ty := .array (.int)) (C := RX2) (T := TX2) (N := 20) hx hb htl inX2 tyX2 tyX2_ok nmX2 hown hK.1 hP hD hS 0 rfl rfl 6 (by decide) (htl _ mw_64) (fun _ h9 => h9) rfl hin rfl (tyX2_ok 6 (by decide)) rfl rfl (Nat.le_of_ble_eq_true rfl) dX2_init_41 (fun H locs hP hD hS => ?_)
  have hP : va_P D vwCl [(h0, .inr (2, [.int 0, .ref q_1, .ref q_2, .ref q_3, .int 0, .ref q_4, .ref q_5, .int 0, .null, .null, .null, .int 0, .null, .int 0, .null, .int 0, .int 0, .int 0, .int 0, .null])), (q_1, .inl (cy 0, 8, .inl (fun _ => 0))), (q_2, .inl (cy 0, 8, .inl (fun _ => 0))), (q_3, .inl (cy 0, 8, .inl (fun _ => 0))), (q_4, .inl (cy 0, 10, .inl (fun _ => 0))), (q_5, .inl (cy 0, 10, .inl (fun _ => 0)))] H := hP
  have hD : va_D A [(h0, .inr (2, [.int 0, .ref q_1, .ref q_2, .ref q_3, .int 0, .ref q_4, .ref q_5, .int 0, .null, .null, .null, .int 0, .null, .int 0, .null, .int 0, .int 0, .int 0, .int 0, .null])), (q_1, .inl (cy 0, 8, .inl (fun _ => 0))), (q_2, .inl (cy 0, 8, .inl (fun _ => 0))), (q_3, .inl (cy 0, 8, .inl (fun _ => 0))), (q_4, .inl (cy 0, 10, .inl (fun _ => 0))), (q_5, .inl (cy 0, 10, .inl (fun _ => 0)))] := hD
  refine lv_aload_n hx hb dX2_init_44 rfl (lv_at hl 0 rfl) ?_
  refine lv_bipush (v := 10) hx hb dX2_init_45 (by decide) ?_
  refine fx_newa hx hb (htl _ mw_32) rfl hK hP hD hS hA 0 rfl (fun _ h => h) (a0 := (10, .inl (fun _ => 0))) (fun _ => rfl) (by decide) (by decide) (Nat.le_of_ble_eq_true rfl) (Nat.le_of_ble_eq_true rfl) (Nat.le_of_ble_eq_true rfl) dX2_init_47 (fun q_6 H hP hD hS => ?_)
  refine W.widen (k := 6) (n := 54) (Nat.le_of_ble_eq_true rfl) (Nat.le_of_ble_eq_true rfl) ?_
  have hP : va_P D vwCl [(h0, .inr (2, [.int 0, .ref q_1, .ref q_2, .ref q_3, .int 0, .ref q_4, .ref q_5, .int 0, .null, .null, .null, .int 0, .null, .int 0, .null, .int 0, .int 0, .int 0, .int 0, .null])), (q_1, .inl (cy 0, 8, .inl (fun _ => 0))), (q_2, .inl (cy 0, 8, .inl (fun _ => 0))), (q_3, .inl (cy 0, 8, .inl (fun _ => 0))), (q_4, .inl (cy 0, 10, .inl (fun _ => 0))), (q_5, .inl (cy 0, 10, .inl (fun _ => 0))), (q_6, .inl (cy 0, 10, .inl (fun _ => 0)))] H := hP
  have hD : va_D A [(h0, .inr (2, [.int 0, .ref q_1, .ref q_2, .ref q_3, .int 0, .ref q_4, .ref q_5, .int 0, .null, .null, .null, .int 0, .null, .int 0, .null, .int 0, .int 0, .int 0, .int 0, .null])), (q_1, .inl (cy 0, 8, .inl (fun _ => 0))), (q_2, .inl (cy 0, 8, .inl (fun _ => 0))), (q_3, .inl (cy 0, 8, .inl (fun _ => 0))), (q_4, .inl (cy 0, 10, .inl (fun _ => 0))), (q_5, .inl (cy 0, 10, .inl (fun _ => 0))), (q_6, .inl (cy 0, 10, .inl (fun _ => 0)))] := hD
  refine va_putF (ci := 2) (v := .ref q_6) (ty := .array (.int)) (C := RX2) (T := TX2) (N := 20) hx hb htl inX2 tyX2 tyX2_ok nmX2 hown hK.1 hP hD hS 0 rfl rfl 8 (by decide) (htl _ mw_65) (fun _ h9 => h9) rfl hin rfl (tyX2_ok 8 (by decide)) rfl rfl (Nat.le_of_ble_eq_true rfl) dX2_init_49 (fun H locs hP hD hS => ?_)
  have hP : va_P D vwCl [(h0, .inr (2, [.int 0, .ref q_1, .ref q_2, .ref q_3, .int 0, .ref q_4, .ref q_5, .int 0, .ref q_6, .null, .null, .int 0, .null, .int 0, .null, .int 0, .int 0, .int 0, .int 0, .null])), (q_1, .inl (cy 0, 8, .inl (fun _ => 0))), (q_2, .inl (cy 0, 8, .inl (fun _ => 0))), (q_3, .inl (cy 0, 8, .inl (fun _ => 0))), (q_4, .inl (cy 0, 10, .inl (fun _ => 0))), (q_5, .inl (cy 0, 10, .inl (fun _ => 0))), (q_6, .inl (cy 0, 10, .inl (fun _ => 0)))] H := hP
  have hD : va_D A [(h0, .inr (2, [.int 0, .ref q_1, .ref q_2, .ref q_3, .int 0, .ref q_4, .ref q_5, .int 0, .ref q_6, .null, .null, .int 0, .null, .int 0, .null, .int 0, .int 0, .int 0, .int 0, .null])), (q_1, .inl (cy 0, 8, .inl (fun _ => 0))), (q_2, .inl (cy 0, 8, .inl (fun _ => 0))), (q_3, .inl (cy 0, 8, .inl (fun _ => 0))), (q_4, .inl (cy 0, 10, .inl (fun _ => 0))), (q_5, .inl (cy 0, 10, .inl (fun _ => 0))), (q_6, .inl (cy 0, 10, .inl (fun _ => 0)))] := hD
  refine lv_aload_n hx hb dX2_init_52 rfl (lv_at hl 0 rfl) ?_
  refine lv_bipush (v := 10) hx hb dX2_init_53 (by decide) ?_
  refine fx_newa hx hb (htl _ mw_32) rfl hK hP hD hS hA 0 rfl (fun _ h => h) (a0 := (10, .inl (fun _ => 0))) (fun _ => rfl) (by decide) (by decide) (Nat.le_of_ble_eq_true rfl) (Nat.le_of_ble_eq_true rfl) (Nat.le_of_ble_eq_true rfl) dX2_init_55 (fun q_7 H hP hD hS => ?_)
  refine W.widen (k := 7) (n := 64) (Nat.le_of_ble_eq_true rfl) (Nat.le_of_ble_eq_true rfl) ?_
  have hP : va_P D vwCl [(h0, .inr (2, [.int 0, .ref q_1, .ref q_2, .ref q_3, .int 0, .ref q_4, .ref q_5, .int 0, .ref q_6, .null, .null, .int 0, .null, .int 0, .null, .int 0, .int 0, .int 0, .int 0, .null])), (q_1, .inl (cy 0, 8, .inl (fun _ => 0))), (q_2, .inl (cy 0, 8, .inl (fun _ => 0))), (q_3, .inl (cy 0, 8, .inl (fun _ => 0))), (q_4, .inl (cy 0, 10, .inl (fun _ => 0))), (q_5, .inl (cy 0, 10, .inl (fun _ => 0))), (q_6, .inl (cy 0, 10, .inl (fun _ => 0))), (q_7, .inl (cy 0, 10, .inl (fun _ => 0)))] H := hP
  have hD : va_D A [(h0, .inr (2, [.int 0, .ref q_1, .ref q_2, .ref q_3, .int 0, .ref q_4, .ref q_5, .int 0, .ref q_6, .null, .null, .int 0, .null, .int 0, .null, .int 0, .int 0, .int 0, .int 0, .null])), (q_1, .inl (cy 0, 8, .inl (fun _ => 0))), (q_2, .inl (cy 0, 8, .inl (fun _ => 0))), (q_3, .inl (cy 0, 8, .inl (fun _ => 0))), (q_4, .inl (cy 0, 10, .inl (fun _ => 0))), (q_5, .inl (cy 0, 10, .inl (fun _ => 0))), (q_6, .inl (cy 0, 10, .inl (fun _ => 0))), (q_7, .inl (cy 0, 10, .inl (fun _ => 0)))] := hD
  refine va_putF (ci := 2) (v := .ref q_7) (ty := .array (.int)) (C := RX2) (T := TX2) (N := 20) hx hb htl inX2 tyX2 tyX2_ok nmX2 hown hK.1 hP hD hS 0 rfl rfl 9 (by decide) (htl _ mw_66) (fun _ h9 => h9) rfl hin rfl (tyX2_ok 9 (by decide)) rfl rfl (Nat.le_of_ble_eq_true rfl) dX2_init_57 (fun H locs hP hD hS => ?_)
  have hP : va_P D vwCl [(h0, .inr (2, [.int 0, .ref q_1, .ref q_2, .ref q_3, .int 0, .ref q_4, .ref q_5, .int 0, .ref q_6, .ref q_7, .null, .int 0, .null, .int 0, .null, .int 0, .int 0, .int 0, .int 0, .null])), (q_1, .inl (cy 0, 8, .inl (fun _ => 0))), (q_2, .inl (cy 0, 8, .inl (fun _ => 0))), (q_3, .inl (cy 0, 8, .inl (fun _ => 0))), (q_4, .inl (cy 0, 10, .inl (fun _ => 0))), (q_5, .inl (cy 0, 10, .inl (fun _ => 0))), (q_6, .inl (cy 0, 10, .inl (fun _ => 0))), (q_7, .inl (cy 0, 10, .inl (fun _ => 0)))] H := hP
  have hD : va_D A [(h0, .inr (2, [.int 0, .ref q_1, .ref q_2, .ref q_3, .int 0, .ref q_4, .ref q_5, .int 0, .ref q_6, .ref q_7, .null, .int 0, .null, .int 0, .null, .int 0, .int 0, .int 0, .int 0, .null])), (q_1, .inl (cy 0, 8, .inl (fun _ => 0))), (q_2, .inl (cy 0, 8, .inl (fun _ => 0))), (q_3, .inl (cy 0, 8, .inl (fun _ => 0))), (q_4, .inl (cy 0, 10, .inl (fun _ => 0))), (q_5, .inl (cy 0, 10, .inl (fun _ => 0))), (q_6, .inl (cy 0, 10, .inl (fun _ => 0))), (q_7, .inl (cy 0, 10, .inl (fun _ => 0)))] := hD
  refine lv_aload_n hx hb dX2_init_60 rfl (lv_at hl 0 rfl) ?_
  refine lv_bipush (v := 10) hx hb dX2_init_61 (by decide) ?_
  refine fx_newa hx hb (htl _ mw_32) rfl hK hP hD hS hA 0 rfl (fun _ h => h) (a0 := (10, .inl (fun _ => 0))) (fun _ => rfl) (by decide) (by decide) (Nat.le_of_ble_eq_true rfl) (Nat.le_of_ble_eq_true rfl) (Nat.le_of_ble_eq_true rfl) dX2_init_63 (fun q_8 H hP hD hS => ?_)
  refine W.widen (k := 8) (n := 74) (Nat.le_of_ble_eq_true rfl) (Nat.le_of_ble_eq_true rfl) ?_
  have hP : va_P D vwCl [(h0, .inr (2, [.int 0, .ref q_1, .ref q_2, .ref q_3, .int 0, .ref q_4, .ref q_5, .int 0, .ref q_6, .ref q_7, .null, .int 0, .null, .int 0, .null, .int 0, .int 0, .int 0, .int 0, .null])), (q_1, .inl (cy 0, 8, .inl (fun _ => 0))), (q_2, .inl (cy 0, 8, .inl (fun _ => 0))), (q_3, .inl (cy 0, 8, .inl (fun _ => 0))), (q_4, .inl (cy 0, 10, .inl (fun _ => 0))), (q_5, .inl (cy 0, 10, .inl (fun _ => 0))), (q_6, .inl (cy 0, 10, .inl (fun _ => 0))), (q_7, .inl (cy 0, 10, .inl (fun _ => 0))), (q_8, .inl (cy 0, 10, .inl (fun _ => 0)))] H := hP
  have hD : va_D A [(h0, .inr (2, [.int 0, .ref q_1, .ref q_2, .ref q_3, .int 0, .ref q_4, .ref q_5, .int 0, .ref q_6, .ref q_7, .null, .int 0, .null, .int 0, .null, .int 0, .int 0, .int 0, .int 0, .null])), (q_1, .inl (cy 0, 8, .inl (fun _ => 0))), (q_2, .inl (cy 0, 8, .inl (fun _ => 0))), (q_3, .inl (cy 0, 8, .inl (fun _ => 0))), (q_4, .inl (cy 0, 10, .inl (fun _ => 0))), (q_5, .inl (cy 0, 10, .inl (fun _ => 0))), (q_6, .inl (cy 0, 10, .inl (fun _ => 0))), (q_7, .inl (cy 0, 10, .inl (fun _ => 0))), (q_8, .inl (cy 0, 10, .inl (fun _ => 0)))] := hD
  refine va_putF (ci := 2) (v := .ref q_8) (ty := .array (.int)) (C := RX2) (T := TX2) (N := 20) hx hb htl inX2 tyX2 tyX2_ok nmX2 hown hK.1 hP hD hS 0 rfl rfl 10 (by decide) (htl _ mw_67) (fun _ h9 => h9) rfl hin rfl (tyX2_ok 10 (by decide)) rfl rfl (Nat.le_of_ble_eq_true rfl) dX2_init_65 (fun H locs hP hD hS => ?_)
  have hP : va_P D vwCl [(h0, .inr (2, [.int 0, .ref q_1, .ref q_2, .ref q_3, .int 0, .ref q_4, .ref q_5, .int 0, .ref q_6, .ref q_7, .ref q_8, .int 0, .null, .int 0, .null, .int 0, .int 0, .int 0, .int 0, .null])), (q_1, .inl (cy 0, 8, .inl (fun _ => 0))), (q_2, .inl (cy 0, 8, .inl (fun _ => 0))), (q_3, .inl (cy 0, 8, .inl (fun _ => 0))), (q_4, .inl (cy 0, 10, .inl (fun _ => 0))), (q_5, .inl (cy 0, 10, .inl (fun _ => 0))), (q_6, .inl (cy 0, 10, .inl (fun _ => 0))), (q_7, .inl (cy 0, 10, .inl (fun _ => 0))), (q_8, .inl (cy 0, 10, .inl (fun _ => 0)))] H := hP
  have hD : va_D A [(h0, .inr (2, [.int 0, .ref q_1, .ref q_2, .ref q_3, .int 0, .ref q_4, .ref q_5, .int 0, .ref q_6, .ref q_7, .ref q_8, .int 0, .null, .int 0, .null, .int 0, .int 0, .int 0, .int 0, .null])), (q_1, .inl (cy 0, 8, .inl (fun _ => 0))), (q_2, .inl (cy 0, 8, .inl (fun _ => 0))), (q_3, .inl (cy 0, 8, .inl (fun _ => 0))), (q_4, .inl (cy 0, 10, .inl (fun _ => 0))), (q_5, .inl (cy 0, 10, .inl (fun _ => 0))), (q_6, .inl (cy 0, 10, .inl (fun _ => 0))), (q_7, .inl (cy 0, 10, .inl (fun _ => 0))), (q_8, .inl (cy 0, 10, .inl (fun _ => 0)))] := hD
  refine lv_aload_n hx hb dX2_init_68 rfl (lv_at hl 0 rfl) ?_
  refine lv_bipush (v := 40) hx hb dX2_init_69 (by decide) ?_
  refine fx_newa hx hb (htl _ mw_32) rfl hK hP hD hS hA 0 rfl (fun _ h => h) (a0 := (40, .inl (fun _ => 0))) (fun _ => rfl) (by decide) (by decide) (Nat.le_of_ble_eq_true rfl) (Nat.le_of_ble_eq_true rfl) (Nat.le_of_ble_eq_true rfl) dX2_init_71 (fun q_9 H hP hD hS => ?_)
  refine W.widen (k := 9) (n := 114) (Nat.le_of_ble_eq_true rfl) (Nat.le_of_ble_eq_true rfl) ?_
  have hP : va_P D vwCl [(h0, .inr (2, [.int 0, .ref q_1, .ref q_2, .ref q_3, .int 0, .ref q_4, .ref q_5, .int 0, .ref q_6, .ref q_7, .ref q_8, .int 0, .null, .int 0, .null, .int 0, .int 0, .int 0, .int 0, .null])), (q_1, .inl (cy 0, 8, .inl (fun _ => 0))), (q_2, .inl (cy 0, 8, .inl (fun _ => 0))), (q_3, .inl (cy 0, 8, .inl (fun _ => 0))), (q_4, .inl (cy 0, 10, .inl (fun _ => 0))), (q_5, .inl (cy 0, 10, .inl (fun _ => 0))), (q_6, .inl (cy 0, 10, .inl (fun _ => 0))), (q_7, .inl (cy 0, 10, .inl (fun _ => 0))), (q_8, .inl (cy 0, 10, .inl (fun _ => 0))), (q_9, .inl (cy 0, 40, .inl (fun _ => 0)))] H := hP
  have hD : va_D A [(h0, .inr (2, [.int 0, .ref q_1, .ref q_2, .ref q_3, .int 0, .ref q_4, .ref q_5, .int 0, .ref q_6, .ref q_7, .ref q_8, .int 0, .null, .int 0, .null, .int 0, .int 0, .int 0, .int 0, .null])), (q_1, .inl (cy 0, 8, .inl (fun _ => 0))), (q_2, .inl (cy 0, 8, .inl (fun _ => 0))), (q_3, .inl (cy 0, 8, .inl (fun _ => 0))), (q_4, .inl (cy 0, 10, .inl (fun _ => 0))), (q_5, .inl (cy 0, 10, .inl (fun _ => 0))), (q_6, .inl (cy 0, 10, .inl (fun _ => 0))), (q_7, .inl (cy 0, 10, .inl (fun _ => 0))), (q_8, .inl (cy 0, 10, .inl (fun _ => 0))), (q_9, .inl (cy 0, 40, .inl (fun _ => 0)))] := hD
  refine va_putF (ci := 2) (v := .ref q_9) (ty := .array (.int)) (C := RX2) (T := TX2) (N := 20) hx hb htl inX2 tyX2 tyX2_ok nmX2 hown hK.1 hP hD hS 0 rfl rfl 12 (by decide) (htl _ mw_68) (fun _ h9 => h9) rfl hin rfl (tyX2_ok 12 (by decide)) rfl rfl (Nat.le_of_ble_eq_true rfl) dX2_init_73 (fun H locs hP hD hS => ?_)
  have hP : va_P D vwCl [(h0, .inr (2, [.int 0, .ref q_1, .ref q_2, .ref q_3, .int 0, .ref q_4, .ref q_5, .int 0, .ref q_6, .ref q_7, .ref q_8, .int 0, .ref q_9, .int 0, .null, .int 0, .int 0, .int 0, .int 0, .null])), (q_1, .inl (cy 0, 8, .inl (fun _ => 0))), (q_2, .inl (cy 0, 8, .inl (fun _ => 0))), (q_3, .inl (cy 0, 8, .inl (fun _ => 0))), (q_4, .inl (cy 0, 10, .inl (fun _ => 0))), (q_5, .inl (cy 0, 10, .inl (fun _ => 0))), (q_6, .inl (cy 0, 10, .inl (fun _ => 0))), (q_7, .inl (cy 0, 10, .inl (fun _ => 0))), (q_8, .inl (cy 0, 10, .inl (fun _ => 0))), (q_9, .inl (cy 0, 40, .inl (fun _ => 0)))] H := hP
  have hD : va_D A [(h0, .inr (2, [.int 0, .ref q_1, .ref q_2, .ref q_3, .int 0, .ref q_4, .ref q_5, .int 0, .ref q_6, .ref q_7, .ref q_8, .int 0, .ref q_9, .int 0, .null, .int 0, .int 0, .int 0, .int 0, .null])), (q_1, .inl (cy 0, 8, .inl (fun _ => 0))), (q_2, .inl (cy 0, 8, .inl (fun _ => 0))), (q_3, .inl (cy 0, 8, .inl (fun _ => 0))), (q_4, .inl (cy 0, 10, .inl (fun _ => 0))), (q_5, .inl (cy 0, 10, .inl (fun _ => 0))), (q_6, .inl (cy 0, 10, .inl (fun _ => 0))), (q_7, .inl (cy 0, 10, .inl (fun _ => 0))), (q_8, .inl (cy 0, 10, .inl (fun _ => 0))), (q_9, .inl (cy 0, 40, .inl (fun _ => 0)))] := hD
  refine lv_aload_n hx hb dX2_init_76 rfl (lv_at hl 0 rfl) ?_
  refine lv_bipush (v := 6) hx hb dX2_init_77 (by decide) ?_
  refine fx_newq (N' := 6) hx hb hown (htl _ mw_69) hK.2.1.2.2 hK hP hD hS hA 5 rfl (by decide) (by decide) (Nat.le_of_ble_eq_true rfl) (Nat.le_of_ble_eq_true rfl) (Nat.le_of_ble_eq_true rfl) dX2_init_79 (fun q_10 H hP hD hS => ?_)
  refine W.widen (k := 10) (n := 120) (Nat.le_of_ble_eq_true rfl) (Nat.le_of_ble_eq_true rfl) ?_
  have hP : va_P D vwCl [(h0, .inr (2, [.int 0, .ref q_1, .ref q_2, .ref q_3, .int 0, .ref q_4, .ref q_5, .int 0, .ref q_6, .ref q_7, .ref q_8, .int 0, .ref q_9, .int 0, .null, .int 0, .int 0, .int 0, .int 0, .null])), (q_1, .inl (cy 0, 8, .inl (fun _ => 0))), (q_2, .inl (cy 0, 8, .inl (fun _ => 0))), (q_3, .inl (cy 0, 8, .inl (fun _ => 0))), (q_4, .inl (cy 0, 10, .inl (fun _ => 0))), (q_5, .inl (cy 0, 10, .inl (fun _ => 0))), (q_6, .inl (cy 0, 10, .inl (fun _ => 0))), (q_7, .inl (cy 0, 10, .inl (fun _ => 0))), (q_8, .inl (cy 0, 10, .inl (fun _ => 0))), (q_9, .inl (cy 0, 40, .inl (fun _ => 0))), (q_10, .inl (cy 5, 6, .inr (.inr (.inr (.inr (fun _ => none))))))] H := hP
  have hD : va_D A [(h0, .inr (2, [.int 0, .ref q_1, .ref q_2, .ref q_3, .int 0, .ref q_4, .ref q_5, .int 0, .ref q_6, .ref q_7, .ref q_8, .int 0, .ref q_9, .int 0, .null, .int 0, .int 0, .int 0, .int 0, .null])), (q_1, .inl (cy 0, 8, .inl (fun _ => 0))), (q_2, .inl (cy 0, 8, .inl (fun _ => 0))), (q_3, .inl (cy 0, 8, .inl (fun _ => 0))), (q_4, .inl (cy 0, 10, .inl (fun _ => 0))), (q_5, .inl (cy 0, 10, .inl (fun _ => 0))), (q_6, .inl (cy 0, 10, .inl (fun _ => 0))), (q_7, .inl (cy 0, 10, .inl (fun _ => 0))), (q_8, .inl (cy 0, 10, .inl (fun _ => 0))), (q_9, .inl (cy 0, 40, .inl (fun _ => 0))), (q_10, .inl (cy 5, 6, .inr (.inr (.inr (.inr (fun _ => none))))))] := hD
  refine va_putF (ci := 2) (v := .ref q_10) (ty := .array (.object "CradleDuel$Script")) (C := RX2) (T := TX2) (N := 20) hx hb htl inX2 tyX2 tyX2_ok nmX2 hown hK.1 hP hD hS 0 rfl rfl 14 (by decide) (htl _ mw_70) (fun _ h9 => h9) rfl hin rfl (tyX2_ok 14 (by decide)) rfl rfl (Nat.le_of_ble_eq_true rfl) dX2_init_82 (fun H locs hP hD hS => ?_)
  have hP : va_P D vwCl [(h0, .inr (2, [.int 0, .ref q_1, .ref q_2, .ref q_3, .int 0, .ref q_4, .ref q_5, .int 0, .ref q_6, .ref q_7, .ref q_8, .int 0, .ref q_9, .int 0, .ref q_10, .int 0, .int 0, .int 0, .int 0, .null])), (q_1, .inl (cy 0, 8, .inl (fun _ => 0))), (q_2, .inl (cy 0, 8, .inl (fun _ => 0))), (q_3, .inl (cy 0, 8, .inl (fun _ => 0))), (q_4, .inl (cy 0, 10, .inl (fun _ => 0))), (q_5, .inl (cy 0, 10, .inl (fun _ => 0))), (q_6, .inl (cy 0, 10, .inl (fun _ => 0))), (q_7, .inl (cy 0, 10, .inl (fun _ => 0))), (q_8, .inl (cy 0, 10, .inl (fun _ => 0))), (q_9, .inl (cy 0, 40, .inl (fun _ => 0))), (q_10, .inl (cy 5, 6, .inr (.inr (.inr (.inr (fun _ => none))))))] H := hP
  have hD : va_D A [(h0, .inr (2, [.int 0, .ref q_1, .ref q_2, .ref q_3, .int 0, .ref q_4, .ref q_5, .int 0, .ref q_6, .ref q_7, .ref q_8, .int 0, .ref q_9, .int 0, .ref q_10, .int 0, .int 0, .int 0, .int 0, .null])), (q_1, .inl (cy 0, 8, .inl (fun _ => 0))), (q_2, .inl (cy 0, 8, .inl (fun _ => 0))), (q_3, .inl (cy 0, 8, .inl (fun _ => 0))), (q_4, .inl (cy 0, 10, .inl (fun _ => 0))), (q_5, .inl (cy 0, 10, .inl (fun _ => 0))), (q_6, .inl (cy 0, 10, .inl (fun _ => 0))), (q_7, .inl (cy 0, 10, .inl (fun _ => 0))), (q_8, .inl (cy 0, 10, .inl (fun _ => 0))), (q_9, .inl (cy 0, 40, .inl (fun _ => 0))), (q_10, .inl (cy 5, 6, .inr (.inr (.inr (.inr (fun _ => none))))))] := hD
  refine lv_aload_n hx hb dX2_init_85 rfl (lv_at hl 0 rfl) ?_
  refine lv_iconst (v := (-1)) hx hb dX2_init_86 (by decide) ?_
  refine va_put (ci := 2) (v := .int (-1)) (ty := .int) (C := RX2) (T := TX2) (N := 20) hx hb htl inX2 tyX2 tyX2_ok nmX2 hown hK.1 hP hD hS 0 rfl rfl 15 (by decide) (htl _ mw_71) (fun _ h9 => h9) rfl (tyX2_ok 15 (by decide)) rfl rfl (Nat.le_of_ble_eq_true rfl) dX2_init_87 (fun H locs hP hD hS => ?_)
  have hP : va_P D vwCl [(h0, .inr (2, [.int 0, .ref q_1, .ref q_2, .ref q_3, .int 0, .ref q_4, .ref q_5, .int 0, .ref q_6, .ref q_7, .ref q_8, .int 0, .ref q_9, .int 0, .ref q_10, .int (-1), .int 0, .int 0, .int 0, .null])), (q_1, .inl (cy 0, 8, .inl (fun _ => 0))), (q_2, .inl (cy 0, 8, .inl (fun _ => 0))), (q_3, .inl (cy 0, 8, .inl (fun _ => 0))), (q_4, .inl (cy 0, 10, .inl (fun _ => 0))), (q_5, .inl (cy 0, 10, .inl (fun _ => 0))), (q_6, .inl (cy 0, 10, .inl (fun _ => 0))), (q_7, .inl (cy 0, 10, .inl (fun _ => 0))), (q_8, .inl (cy 0, 10, .inl (fun _ => 0))), (q_9, .inl (cy 0, 40, .inl (fun _ => 0))), (q_10, .inl (cy 5, 6, .inr (.inr (.inr (.inr (fun _ => none))))))] H := hP
  have hD : va_D A [(h0, .inr (2, [.int 0, .ref q_1, .ref q_2, .ref q_3, .int 0, .ref q_4, .ref q_5, .int 0, .ref q_6, .ref q_7, .ref q_8, .int 0, .ref q_9, .int 0, .ref q_10, .int (-1), .int 0, .int 0, .int 0, .null])), (q_1, .inl (cy 0, 8, .inl (fun _ => 0))), (q_2, .inl (cy 0, 8, .inl (fun _ => 0))), (q_3, .inl (cy 0, 8, .inl (fun _ => 0))), (q_4, .inl (cy 0, 10, .inl (fun _ => 0))), (q_5, .inl (cy 0, 10, .inl (fun _ => 0))), (q_6, .inl (cy 0, 10, .inl (fun _ => 0))), (q_7, .inl (cy 0, 10, .inl (fun _ => 0))), (q_8, .inl (cy 0, 10, .inl (fun _ => 0))), (q_9, .inl (cy 0, 40, .inl (fun _ => 0))), (q_10, .inl (cy 5, 6, .inr (.inr (.inr (.inr (fun _ => none))))))] := hD
  refine lv_aload_n hx hb dX2_init_90 rfl (lv_at hl 0 rfl) ?_
  refine lv_bipush (v := 30) hx hb dX2_init_91 (by decide) ?_
  refine va_put (ci := 2) (v := .int 30) (ty := .int) (C := RX2) (T := TX2) (N := 20) hx hb htl inX2 tyX2 tyX2_ok nmX2 hown hK.1 hP hD hS 0 rfl rfl 16 (by decide) (htl _ mw_72) (fun _ h9 => h9) rfl (tyX2_ok 16 (by decide)) rfl rfl (Nat.le_of_ble_eq_true rfl) dX2_init_93 (fun H locs hP hD hS => ?_)
  have hP : va_P D vwCl [(h0, .inr (2, [.int 0, .ref q_1, .ref q_2, .ref q_3, .int 0, .ref q_4, .ref q_5, .int 0, .ref q_6, .ref q_7, .ref q_8, .int 0, .ref q_9, .int 0, .ref q_10, .int (-1), .int 30, .int 0, .int 0, .null])), (q_1, .inl (cy 0, 8, .inl (fun _ => 0))), (q_2, .inl (cy 0, 8, .inl (fun _ => 0))), (q_3, .inl (cy 0, 8, .inl (fun _ => 0))), (q_4, .inl (cy 0, 10, .inl (fun _ => 0))), (q_5, .inl (cy 0, 10, .inl (fun _ => 0))), (q_6, .inl (cy 0, 10, .inl (fun _ => 0))), (q_7, .inl (cy 0, 10, .inl (fun _ => 0))), (q_8, .inl (cy 0, 10, .inl (fun _ => 0))), (q_9, .inl (cy 0, 40, .inl (fun _ => 0))), (q_10, .inl (cy 5, 6, .inr (.inr (.inr (.inr (fun _ => none))))))] H := hP
  have hD : va_D A [(h0, .inr (2, [.int 0, .ref q_1, .ref q_2, .ref q_3, .int 0, .ref q_4, .ref q_5, .int 0, .ref q_6, .ref q_7, .ref q_8, .int 0, .ref q_9, .int 0, .ref q_10, .int (-1), .int 30, .int 0, .int 0, .null])), (q_1, .inl (cy 0, 8, .inl (fun _ => 0))), (q_2, .inl (cy 0, 8, .inl (fun _ => 0))), (q_3, .inl (cy 0, 8, .inl (fun _ => 0))), (q_4, .inl (cy 0, 10, .inl (fun _ => 0))), (q_5, .inl (cy 0, 10, .inl (fun _ => 0))), (q_6, .inl (cy 0, 10, .inl (fun _ => 0))), (q_7, .inl (cy 0, 10, .inl (fun _ => 0))), (q_8, .inl (cy 0, 10, .inl (fun _ => 0))), (q_9, .inl (cy 0, 40, .inl (fun _ => 0))), (q_10, .inl (cy 5, 6, .inr (.inr (.inr (.inr (fun _ => none))))))] := hD
  refine lv_aload_n hx hb dX2_init_96 rfl (lv_at hl 0 rfl) ?_
  refine lv_bipush (v := 50) hx hb dX2_init_97 (by decide) ?_
  refine va_put (ci := 2) (v := .int 50) (ty := .int) (C := RX2) (T := TX2) (N := 20) hx hb htl inX2 tyX2 tyX2_ok nmX2 hown hK.1 hP hD hS 0 rfl rfl 17 (by decide) (htl _ mw_73) (fun _ h9 => h9) rfl (tyX2_ok 17 (by decide)) rfl rfl (Nat.le_of_ble_eq_true rfl) dX2_init_99 (fun H locs hP hD hS => ?_)
  have hP : va_P D vwCl [(h0, .inr (2, [.int 0, .ref q_1, .ref q_2, .ref q_3, .int 0, .ref q_4, .ref q_5, .int 0, .ref q_6, .ref q_7, .ref q_8, .int 0, .ref q_9, .int 0, .ref q_10, .int (-1), .int 30, .int 50, .int 0, .null])), (q_1, .inl (cy 0, 8, .inl (fun _ => 0))), (q_2, .inl (cy 0, 8, .inl (fun _ => 0))), (q_3, .inl (cy 0, 8, .inl (fun _ => 0))), (q_4, .inl (cy 0, 10, .inl (fun _ => 0))), (q_5, .inl (cy 0, 10, .inl (fun _ => 0))), (q_6, .inl (cy 0, 10, .inl (fun _ => 0))), (q_7, .inl (cy 0, 10, .inl (fun _ => 0))), (q_8, .inl (cy 0, 10, .inl (fun _ => 0))), (q_9, .inl (cy 0, 40, .inl (fun _ => 0))), (q_10, .inl (cy 5, 6, .inr (.inr (.inr (.inr (fun _ => none))))))] H := hP
  have hD : va_D A [(h0, .inr (2, [.int 0, .ref q_1, .ref q_2, .ref q_3, .int 0, .ref q_4, .ref q_5, .int 0, .ref q_6, .ref q_7, .ref q_8, .int 0, .ref q_9, .int 0, .ref q_10, .int (-1), .int 30, .int 50, .int 0, .null])), (q_1, .inl (cy 0, 8, .inl (fun _ => 0))), (q_2, .inl (cy 0, 8, .inl (fun _ => 0))), (q_3, .inl (cy 0, 8, .inl (fun _ => 0))), (q_4, .inl (cy 0, 10, .inl (fun _ => 0))), (q_5, .inl (cy 0, 10, .inl (fun _ => 0))), (q_6, .inl (cy 0, 10, .inl (fun _ => 0))), (q_7, .inl (cy 0, 10, .inl (fun _ => 0))), (q_8, .inl (cy 0, 10, .inl (fun _ => 0))), (q_9, .inl (cy 0, 40, .inl (fun _ => 0))), (q_10, .inl (cy 5, 6, .inr (.inr (.inr (.inr (fun _ => none))))))] := hD
  refine lv_aload_n hx hb dX2_init_102 rfl (lv_at hl 0 rfl) ?_
  refine va_new (ci := 9) (fs := [.null, .null, .null, .null, .int 0, .int 0, .int 0, .int 0, .int 0, .int 0, .int 0]) (C := RX9) (T := TX9) (N := 11) hx hb htl inX9 tyX9 tyX9_ok hown (htl _ mw_74) (htl _ mw_75) (htl _ mw_76) hK.1 hP hD hS hA rfl dfX9 (Nat.le_of_ble_eq_true rfl) (Nat.le_of_ble_eq_true rfl) dX2_init_103 (fun q_11 H hP hD hS => ?_)
  refine W.widen (k := 11) (n := 131) (Nat.le_of_ble_eq_true rfl) (Nat.le_of_ble_eq_true rfl) ?_
  have hP : va_P D vwCl [(h0, .inr (2, [.int 0, .ref q_1, .ref q_2, .ref q_3, .int 0, .ref q_4, .ref q_5, .int 0, .ref q_6, .ref q_7, .ref q_8, .int 0, .ref q_9, .int 0, .ref q_10, .int (-1), .int 30, .int 50, .int 0, .null])), (q_1, .inl (cy 0, 8, .inl (fun _ => 0))), (q_2, .inl (cy 0, 8, .inl (fun _ => 0))), (q_3, .inl (cy 0, 8, .inl (fun _ => 0))), (q_4, .inl (cy 0, 10, .inl (fun _ => 0))), (q_5, .inl (cy 0, 10, .inl (fun _ => 0))), (q_6, .inl (cy 0, 10, .inl (fun _ => 0))), (q_7, .inl (cy 0, 10, .inl (fun _ => 0))), (q_8, .inl (cy 0, 10, .inl (fun _ => 0))), (q_9, .inl (cy 0, 40, .inl (fun _ => 0))), (q_10, .inl (cy 5, 6, .inr (.inr (.inr (.inr (fun _ => none)))))), (q_11, .inr (9, [.null, .null, .null, .null, .int 0, .int 0, .int 0, .int 0, .int 0, .int 0, .int 0]))] H := hP
  have hD : va_D A [(h0, .inr (2, [.int 0, .ref q_1, .ref q_2, .ref q_3, .int 0, .ref q_4, .ref q_5, .int 0, .ref q_6, .ref q_7, .ref q_8, .int 0, .ref q_9, .int 0, .ref q_10, .int (-1), .int 30, .int 50, .int 0, .null])), (q_1, .inl (cy 0, 8, .inl (fun _ => 0))), (q_2, .inl (cy 0, 8, .inl (fun _ => 0))), (q_3, .inl (cy 0, 8, .inl (fun _ => 0))), (q_4, .inl (cy 0, 10, .inl (fun _ => 0))), (q_5, .inl (cy 0, 10, .inl (fun _ => 0))), (q_6, .inl (cy 0, 10, .inl (fun _ => 0))), (q_7, .inl (cy 0, 10, .inl (fun _ => 0))), (q_8, .inl (cy 0, 10, .inl (fun _ => 0))), (q_9, .inl (cy 0, 40, .inl (fun _ => 0))), (q_10, .inl (cy 5, 6, .inr (.inr (.inr (.inr (fun _ => none)))))), (q_11, .inr (9, [.null, .null, .null, .null, .int 0, .int 0, .int 0, .int 0, .int 0, .int 0, .int 0]))] := hD
  refine lv_dup hx hb dX2_init_106 rfl ?_
  refine fx_Iv (As := []) (rest := [.ref q_11, .ref h0]) (wr := [(h0, .inr (2, [.int 0, .ref q_1, .ref q_2, .ref q_3, .int 0, .ref q_4, .ref q_5, .int 0, .ref q_6, .ref q_7, .ref q_8, .int 0, .ref q_9, .int 0, .ref q_10, .int (-1), .int 30, .int 50, .int 0, .null])), (q_1, .inl (cy 0, 8, .inl (fun _ => 0))), (q_2, .inl (cy 0, 8, .inl (fun _ => 0))), (q_3, .inl (cy 0, 8, .inl (fun _ => 0))), (q_4, .inl (cy 0, 10, .inl (fun _ => 0))), (q_5, .inl (cy 0, 10, .inl (fun _ => 0))), (q_6, .inl (cy 0, 10, .inl (fun _ => 0))), (q_7, .inl (cy 0, 10, .inl (fun _ => 0))), (q_8, .inl (cy 0, 10, .inl (fun _ => 0))), (q_9, .inl (cy 0, 40, .inl (fun _ => 0))), (q_10, .inl (cy 5, 6, .inr (.inr (.inr (.inr (fun _ => none))))))]) ⟨hx, hb, hml, hown, hts⟩ hK hP hD hS hA (k_9_init_0 l D cy ld _ q_11) ⟨callB_of 0 hts (wl_in mw_80) rfl rfl rfl (htl _ mw_76) (htl _ mw_78) hd_yX9_init ⟨(Nat.le_of_ble_eq_true rfl), (Nat.le_of_ble_eq_true rfl)⟩, rfl, htl _ mw_79⟩ [11] [0, 1, 2, 3, 4, 5, 6, 7, 8, 9, 10] rfl rfl rfl rfl (by decide) rfl hl.1 rfl (Nat.le_of_ble_eq_true rfl) dX2_init_107 ⟨(Nat.le_of_ble_eq_true rfl), (Nat.le_of_ble_eq_true rfl)⟩ (fun x_12 H locs hP hD hS => ?_)
  refine W.widen (k := 15) (n := 157) (Nat.le_of_ble_eq_true rfl) (Nat.le_of_ble_eq_true rfl) ?_
  have hP : va_P D vwCl [(h0, .inr (2, [.int 0, .ref q_1, .ref q_2, .ref q_3, .int 0, .ref q_4, .ref q_5, .int 0, .ref q_6, .ref q_7, .ref q_8, .int 0, .ref q_9, .int 0, .ref q_10, .int (-1), .int 30, .int 50, .int 0, .null])), (q_1, .inl (cy 0, 8, .inl (fun _ => 0))), (q_2, .inl (cy 0, 8, .inl (fun _ => 0))), (q_3, .inl (cy 0, 8, .inl (fun _ => 0))), (q_4, .inl (cy 0, 10, .inl (fun _ => 0))), (q_5, .inl (cy 0, 10, .inl (fun _ => 0))), (q_6, .inl (cy 0, 10, .inl (fun _ => 0))), (q_7, .inl (cy 0, 10, .inl (fun _ => 0))), (q_8, .inl (cy 0, 10, .inl (fun _ => 0))), (q_9, .inl (cy 0, 40, .inl (fun _ => 0))), (q_10, .inl (cy 5, 6, .inr (.inr (.inr (.inr (fun _ => none)))))), (q_11, .inr (9, [.ref (x_12 0), .ref (x_12 1), .ref (x_12 2), .ref (x_12 3), .int 0, .int (-1), .int (-1), .int 0, .int 0, .int 0, .int (-1)])), ((x_12 0), .inl (cy 0, 8, .inl (fun _ => 0))), ((x_12 1), .inl (cy 0, 8, .inl (fun _ => 0))), ((x_12 2), .inl (cy 0, 8, .inl (fun _ => 0))), ((x_12 3), .inl (cy 0, 2, .inl (upd (upd (fun _ => 0) 0 100) 1 100)))] H := hP
  have hD : va_D A [(h0, .inr (2, [.int 0, .ref q_1, .ref q_2, .ref q_3, .int 0, .ref q_4, .ref q_5, .int 0, .ref q_6, .ref q_7, .ref q_8, .int 0, .ref q_9, .int 0, .ref q_10, .int (-1), .int 30, .int 50, .int 0, .null])), (q_1, .inl (cy 0, 8, .inl (fun _ => 0))), (q_2, .inl (cy 0, 8, .inl (fun _ => 0))), (q_3, .inl (cy 0, 8, .inl (fun _ => 0))), (q_4, .inl (cy 0, 10, .inl (fun _ => 0))), (q_5, .inl (cy 0, 10, .inl (fun _ => 0))), (q_6, .inl (cy 0, 10, .inl (fun _ => 0))), (q_7, .inl (cy 0, 10, .inl (fun _ => 0))), (q_8, .inl (cy 0, 10, .inl (fun _ => 0))), (q_9, .inl (cy 0, 40, .inl (fun _ => 0))), (q_10, .inl (cy 5, 6, .inr (.inr (.inr (.inr (fun _ => none)))))), (q_11, .inr (9, [.ref (x_12 0), .ref (x_12 1), .ref (x_12 2), .ref (x_12 3), .int 0, .int (-1), .int (-1), .int 0, .int 0, .int 0, .int (-1)])), ((x_12 0), .inl (cy 0, 8, .inl (fun _ => 0))), ((x_12 1), .inl (cy 0, 8, .inl (fun _ => 0))), ((x_12 2), .inl (cy 0, 8, .inl (fun _ => 0))), ((x_12 3), .inl (cy 0, 2, .inl (upd (upd (fun _ => 0) 0 100) 1 100)))] := hD
  refine va_putF (ci := 2) (v := .ref q_11) (ty := .object "CradleDuel$Stand") (C := RX2) (T := TX2) (N := 20) hx hb htl inX2 tyX2 tyX2_ok nmX2 hown hK.1 hP hD hS 0 rfl rfl 19 (by decide) (htl _ mw_77) (fun _ h9 => h9) rfl hin rfl (tyX2_ok 19 (by decide)) rfl rfl (Nat.le_of_ble_eq_true rfl) dX2_init_110 (fun H locs hP hD hS => ?_)
  have hP : va_P D vwCl [(h0, .inr (2, [.int 0, .ref q_1, .ref q_2, .ref q_3, .int 0, .ref q_4, .ref q_5, .int 0, .ref q_6, .ref q_7, .ref q_8, .int 0, .ref q_9, .int 0, .ref q_10, .int (-1), .int 30, .int 50, .int 0, .ref q_11])), (q_1, .inl (cy 0, 8, .inl (fun _ => 0))), (q_2, .inl (cy 0, 8, .inl (fun _ => 0))), (q_3, .inl (cy 0, 8, .inl (fun _ => 0))), (q_4, .inl (cy 0, 10, .inl (fun _ => 0))), (q_5, .inl (cy 0, 10, .inl (fun _ => 0))), (q_6, .inl (cy 0, 10, .inl (fun _ => 0))), (q_7, .inl (cy 0, 10, .inl (fun _ => 0))), (q_8, .inl (cy 0, 10, .inl (fun _ => 0))), (q_9, .inl (cy 0, 40, .inl (fun _ => 0))), (q_10, .inl (cy 5, 6, .inr (.inr (.inr (.inr (fun _ => none)))))), (q_11, .inr (9, [.ref (x_12 0), .ref (x_12 1), .ref (x_12 2), .ref (x_12 3), .int 0, .int (-1), .int (-1), .int 0, .int 0, .int 0, .int (-1)])), ((x_12 0), .inl (cy 0, 8, .inl (fun _ => 0))), ((x_12 1), .inl (cy 0, 8, .inl (fun _ => 0))), ((x_12 2), .inl (cy 0, 8, .inl (fun _ => 0))), ((x_12 3), .inl (cy 0, 2, .inl (upd (upd (fun _ => 0) 0 100) 1 100)))] H := hP
  have hD : va_D A [(h0, .inr (2, [.int 0, .ref q_1, .ref q_2, .ref q_3, .int 0, .ref q_4, .ref q_5, .int 0, .ref q_6, .ref q_7, .ref q_8, .int 0, .ref q_9, .int 0, .ref q_10, .int (-1), .int 30, .int 50, .int 0, .ref q_11])), (q_1, .inl (cy 0, 8, .inl (fun _ => 0))), (q_2, .inl (cy 0, 8, .inl (fun _ => 0))), (q_3, .inl (cy 0, 8, .inl (fun _ => 0))), (q_4, .inl (cy 0, 10, .inl (fun _ => 0))), (q_5, .inl (cy 0, 10, .inl (fun _ => 0))), (q_6, .inl (cy 0, 10, .inl (fun _ => 0))), (q_7, .inl (cy 0, 10, .inl (fun _ => 0))), (q_8, .inl (cy 0, 10, .inl (fun _ => 0))), (q_9, .inl (cy 0, 40, .inl (fun _ => 0))), (q_10, .inl (cy 5, 6, .inr (.inr (.inr (.inr (fun _ => none)))))), (q_11, .inr (9, [.ref (x_12 0), .ref (x_12 1), .ref (x_12 2), .ref (x_12 3), .int 0, .int (-1), .int (-1), .int 0, .int 0, .int 0, .int (-1)])), ((x_12 0), .inl (cy 0, 8, .inl (fun _ => 0))), ((x_12 1), .inl (cy 0, 8, .inl (fun _ => 0))), ((x_12 2), .inl (cy 0, 8, .inl (fun _ => 0))), ((x_12 3), .inl (cy 0, 2, .inl (upd (upd (fun _ => 0) 0 100) 1 100)))] := hD
  exact fx_vret hx hb hr hlocks (fun k => ([q_1, q_2, q_3, q_4, q_5, q_6, q_7, q_8, q_9, q_10, q_11, (x_12 0), (x_12 1), (x_12 2), (x_12 3)] : List Nat).getD k 0) hP hD hS [0, 1, 2, 3, 4, 5, 6, 7, 8, 9, 10, 11, 12, 13, 14, 15] (by decide) rfl dX2_init_113
theorem dX11_init_0 : decode cX11_init 0 = .ok (.aload_n 0, 1) := by decide +kernel
theorem dX11_init_1 : decode cX11_init 1 = .ok (.invokespecial 1, 3) := by decide +kernel
theorem dX11_init_4 : decode cX11_init 4 = .ok (.aload_n 0, 1) := by decide +kernel
theorem dX11_init_5 : decode cX11_init 5 = .ok (.bipush 15, 2) := by decide +kernel
theorem dX11_init_7 : decode cX11_init 7 = .ok (.newarray .int, 2) := by decide +kernel
theorem dX11_init_9 : decode cX11_init 9 = .ok (.putfield 9, 3) := by decide +kernel
theorem dX11_init_12 : decode cX11_init 12 = .ok (.aload_n 0, 1) := by decide +kernel
theorem dX11_init_13 : decode cX11_init 13 = .ok (.bipush 32, 2) := by decide +kernel
theorem dX11_init_15 : decode cX11_init 15 = .ok (.newarray .int, 2) := by decide +kernel
theorem dX11_init_17 : decode cX11_init 17 = .ok (.putfield 15, 3) := by decide +kernel
theorem dX11_init_20 : decode cX11_init 20 = .ok (.return_, 1) := by decide +kernel
set_option maxHeartbeats 4000000 in
set_option maxRecDepth 100000 in
theorem k_11_init_0 (l : Launch) (D : va_G) (cy : Nat → ClassId) (ld : Nat → Nat) (sz : Nat) (h0 : Nat) : Met l yX11_init (wl yX11_init cX11_init 1 none) ({ frames := 3, cells := 2, slots := 47, locals := 140 }) (pp D cy ld [.ref h0] sz [(h0, .inr (11, [.null, .int 0, .null]))]) (qv D (fun x : Nat → Nat => [(h0, .inr (11, [.ref (x 0), .int 0, .ref (x 1)])), ((x 0), .inl (cy 0, 15, .inl (fun _ => 0))), ((x 1), .inl (cy 0, 32, .inl (fun _ => 0)))]) (va_A [(h0, .inr (11, [.null, .int 0, .null]))] sz)) 2 47 (va_A [(h0, .inr (11, [.null, .int 0, .null]))] sz) := by
  refine fx_met (y := yX11_init) (cc := cX11_init) (maxL := 1) (ret := none) (av := [.ref h0]) (wc := [(h0, .inr (11, [.null, .int 0, .null]))]) (sz := sz) (cy := cy) (ld := ld) (qv D (fun x : Nat → Nat => [(h0, .inr (11, [.ref (x 0), .int 0, .ref (x 1)])), ((x 0), .inl (cy 0, 15, .inl (fun _ => 0))), ((x 1), .inl (cy 0, 32, .inl (fun _ => 0)))])) (by decide) (Nat.le_of_ble_eq_true rfl) ?_
  intro p e s m args below meth c hx hb hr hml hts htl hown hlocks hin hK hP A hD hA hS ls hl
  have hown : s.vm.findClass RX11 = some m.cls := hown
  have hin : meth.name = "<init>" := hin
  have hl : lv_has ls 1 [(0, .ref h0)] := hl
  refine lv_aload_n hx hb dX11_init_0 rfl (lv_at hl 0 rfl) ?_
  refine W.objInit hx hb hown (htl _ mw_101) (htl _ mw_10) (htl _ mw_11) rfl (by rw [hml]; exact hl.1) rfl dX11_init_1 (Nat.le_of_ble_eq_true rfl) (Nat.le_of_ble_eq_true rfl) ?_
  refine W.eq (g2 := F0 m 4 ls []) rfl ?_
  refine lv_aload_n hx hb dX11_init_4 rfl (lv_at hl 0 rfl) ?_
  refine lv_bipush (v := 15) hx hb dX11_init_5 (by decide) ?_
  refine fx_newa hx hb (htl _ mw_32) rfl hK hP hD hS hA 0 rfl (fun _ h => h) (a0 := (15, .inl (fun _ => 0))) (fun _ => rfl) (by decide) (by decide) (Nat.le_of_ble_eq_true rfl) (Nat.le_of_ble_eq_true rfl) (Nat.le_of_ble_eq_true rfl) dX11_init_7 (fun q_1 H hP hD hS => ?_)
  refine W.widen (k := 1) (n := 15) (Nat.le_of_ble_eq_true rfl) (Nat.le_of_ble_eq_true rfl) ?_
  have hP : va_P D vwCl [(h0, .inr (11, [.null, .int 0, .null])), (q_1, .inl (cy 0, 15, .inl (fun _ => 0)))] H := hP
  have hD : va_D A [(h0, .inr (11, [.null, .int 0, .null])), (q_1, .inl (cy 0, 15, .inl (fun _ => 0)))] := hD
  refine va_putF (ci := 11) (v := .ref q_1) (ty := .array (.int)) (C := RX11) (T := TX11) (N := 3) hx hb htl inX11 tyX11 tyX11_ok nmX11 hown hK.1 hP hD hS 0 rfl rfl 0 (by decide) (htl _ mw_102) (fun _ h9 => h9) rfl hin rfl (tyX11_ok 0 (by decide)) rfl rfl (Nat.le_of_ble_eq_true rfl) dX11_init_9 (fun H locs hP hD hS => ?_)
  have hP : va_P D vwCl [(h0, .inr (11, [.ref q_1, .int 0, .null])), (q_1, .inl (cy 0, 15, .inl (fun _ => 0)))] H := hP
  have hD : va_D A [(h0, .inr (11, [.ref q_1, .int 0, .null])), (q_1, .inl (cy 0, 15, .inl (fun _ => 0)))] := hD
  refine lv_aload_n hx hb dX11_init_12 rfl (lv_at hl 0 rfl) ?_
  refine lv_bipush (v := 32) hx hb dX11_init_13 (by decide) ?_
  refine fx_newa hx hb (htl _ mw_32) rfl hK hP hD hS hA 0 rfl (fun _ h => h) (a0 := (32, .inl (fun _ => 0))) (fun _ => rfl) (by decide) (by decide) (Nat.le_of_ble_eq_true rfl) (Nat.le_of_ble_eq_true rfl) (Nat.le_of_ble_eq_true rfl) dX11_init_15 (fun q_2 H hP hD hS => ?_)
  refine W.widen (k := 2) (n := 47) (Nat.le_of_ble_eq_true rfl) (Nat.le_of_ble_eq_true rfl) ?_
  have hP : va_P D vwCl [(h0, .inr (11, [.ref q_1, .int 0, .null])), (q_1, .inl (cy 0, 15, .inl (fun _ => 0))), (q_2, .inl (cy 0, 32, .inl (fun _ => 0)))] H := hP
  have hD : va_D A [(h0, .inr (11, [.ref q_1, .int 0, .null])), (q_1, .inl (cy 0, 15, .inl (fun _ => 0))), (q_2, .inl (cy 0, 32, .inl (fun _ => 0)))] := hD
  refine va_putF (ci := 11) (v := .ref q_2) (ty := .array (.int)) (C := RX11) (T := TX11) (N := 3) hx hb htl inX11 tyX11 tyX11_ok nmX11 hown hK.1 hP hD hS 0 rfl rfl 2 (by decide) (htl _ mw_103) (fun _ h9 => h9) rfl hin rfl (tyX11_ok 2 (by decide)) rfl rfl (Nat.le_of_ble_eq_true rfl) dX11_init_17 (fun H locs hP hD hS => ?_)
  have hP : va_P D vwCl [(h0, .inr (11, [.ref q_1, .int 0, .ref q_2])), (q_1, .inl (cy 0, 15, .inl (fun _ => 0))), (q_2, .inl (cy 0, 32, .inl (fun _ => 0)))] H := hP
  have hD : va_D A [(h0, .inr (11, [.ref q_1, .int 0, .ref q_2])), (q_1, .inl (cy 0, 15, .inl (fun _ => 0))), (q_2, .inl (cy 0, 32, .inl (fun _ => 0)))] := hD
  exact fx_vret hx hb hr hlocks (fun k => ([q_1, q_2] : List Nat).getD k 0) hP hD hS [0, 1, 2] (by decide) rfl dX11_init_20
