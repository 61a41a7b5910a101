theorem dX13_tell_0 : decode cX13_tell 0 = .ok (.aload_n 0, 1) := by decide +kernel
theorem dX13_tell_1 : decode cX13_tell 1 = .ok (.iload_n 1, 1) := by decide +kernel
theorem dX13_tell_10 : decode cX13_tell 10 = .ok (.putfield 173, 3) := by decide +kernel
theorem dX13_tell_13 : decode cX13_tell 13 = .ok (.iload_n 1, 1) := by decide +kernel
theorem dX13_tell_28 : decode cX13_tell 28 = .ok (.iload_n 1, 1) := by decide +kernel
theorem dX13_tell_29 : decode cX13_tell 29 = .ok (.ireturn, 1) := by decide +kernel
theorem dX13_tell_14 : decode cX13_tell 14 = .ok (.ifCond .ge 14, 3) := by decide +kernel
theorem dX13_tell_17 : decode cX13_tell 17 = .ok (.aload_n 0, 1) := by decide +kernel
theorem dX13_tell_18 : decode cX13_tell 18 = .ok (.getfield 7, 3) := by decide +kernel
theorem dX13_tell_21 : decode cX13_tell 21 = .ok (.iload_n 1, 1) := by decide +kernel
theorem dX13_tell_22 : decode cX13_tell 22 = .ok (.ineg, 1) := by decide +kernel
theorem dX13_tell_23 : decode cX13_tell 23 = .ok (.dup2, 1) := by decide +kernel
theorem dX13_tell_24 : decode cX13_tell 24 = .ok (.iaload, 1) := by decide +kernel
theorem dX13_tell_25 : decode cX13_tell 25 = .ok (.iconst 1, 1) := by decide +kernel
theorem dX13_tell_26 : decode cX13_tell 26 = .ok (.iadd, 1) := by decide +kernel
theorem dX13_tell_27 : decode cX13_tell 27 = .ok (.iastore, 1) := by decide +kernel
theorem dX13_tell_2 : decode cX13_tell 2 = .ok (.ifCond .ge 7, 3) := by decide +kernel
theorem dX13_tell_9 : decode cX13_tell 9 = .ok (.iconst 0, 1) := by decide +kernel
theorem dX13_tell_5 : decode cX13_tell 5 = .ok (.iload_n 1, 1) := by decide +kernel
theorem dX13_tell_6 : decode cX13_tell 6 = .ok (.goto 4, 3) := by decide +kernel
set_option maxHeartbeats 4000000 in
set_option maxRecDepth 100000 in
theorem k_X13_tell (l : Launch) (D : va_G) (cy : Nat → ClassId) (ld ad : Nat → Nat) (am : Nat) (hD : mz_D ad am) (Fa : Nat → Int32) (Ga : Nat → Int64) (Ra : Nat → Nat → Int32) (Sa : Nat → Nat → Int64) (p1 : Int32) (hIF : mz_IF true Fa) (hIG : mz_IG Ga) (hIR : mz_IR [] true Ra) (hp_0 : (-6) ≤ p1.toInt) (hp_1 : p1.toInt ≤ 2147483647) : Met l yX13_tell (wl yX13_tell cX13_tell 2 (some .int)) ({ frames := 3, cells := 0, slots := 0, locals := 140 }) (mz_p D cy ld ad am Fa Ga Ra Sa [.ref am, .int p1]) (mz_i D cy ad am (fun r F G R S => mz_IF true F ∧ mz_IG G ∧ mz_IR [] true R ∧ (∀ k : Nat, k ∉ ([1] : List Nat) → F k = Fa k) ∧ (∀ k : Nat, k ∉ ([2] : List Nat) → R k = Ra k) ∧ (∀ k : Nat, k ∉ ([] : List Nat) → G k = Ga k) ∧ (-1) * p1.toInt + r.toInt = 0)) 0 0 (mz_W ad am) := by
  refine mz_met (y := yX13_tell) (cc := cX13_tell) (maxL := 2) (ret := (some .int)) (av := [.ref am, .int p1]) _ (by decide) (Nat.le_of_ble_eq_true rfl) ?_
  intro p e s m args below meth c hx hb hr hml hts htl hown hlocks hK H locs hM hS ls hl
  have hown : s.vm.findClass RX13 = some m.cls := hown
  have hl : lv_has ls 2 [(0, .ref am), (1, .int p1)] := hl
  have hr_p1 := tk_rng p1
  refine lv_aload_n hx hb dX13_tell_0 rfl (lv_at hl 0 rfl) ?_
  refine lv_iload_n hx hb dX13_tell_1 rfl (lv_at hl 1 rfl) ?_
  have hj4 : ∀ (v3 : Int32), ((-6) ≤ v3.toInt) → (v3.toInt ≤ 0) → (0 ≤ p1.toInt + (-1) * v3.toInt) → ∀ ls : Array Slot, lv_has ls 2 [(0, .ref am), (1, .int p1)] → W p l e ({ frames := 3, cells := 0, slots := 0, locals := 140 }) s m args below meth c H locs 0 0 (MQ below (mz_i D cy ad am (fun r F G R S => mz_IF true F ∧ mz_IG G ∧ mz_IR [] true R ∧ (∀ k : Nat, k ∉ ([1] : List Nat) → F k = Fa k) ∧ (∀ k : Nat, k ∉ ([2] : List Nat) → R k = Ra k) ∧ (∀ k : Nat, k ∉ ([] : List Nat) → G k = Ga k) ∧ (-1) * p1.toInt + r.toInt = 0)) args s 0 0 (mz_W ad am)) (F0 m 10 ls [.int v3, .ref am]) := by
    intro v3 hq0_j4 hq1_j4 hq2_j4 ls hl
    refine mz_putI (ty := .int) (x := v3) hx hb htl hown hK hD hM hS 1 (Nat.le_of_ble_eq_true rfl) rfl (htl _ mw_297) (fun _ h9 => h9) rfl (tyX13_ok 1 (by decide)) rfl rfl dX13_tell_10 (fun H locs F hM hS hf9 hj9 => ?_)
    have hIF := hIF.put hf9 hj9 (tk_rng _).1 (tk_rng _).2 (by decide)
    have hFF := mz_frp (K := [1]) (Fa := Fa) hj9 (fun _ _ => rfl) (by decide)
    have hf6 := hf9
    refine lv_iload_n hx hb dX13_tell_13 rfl (lv_at hl 1 rfl) ?_
    have hj17 : ∀ (H : Heap) (locs : List Loc) (R : Nat → Nat → Int32), (mz_S D cy ad am F Ga R Sa H) → (va_S (mz_W ad am) s.heap H locs) → (mz_IR [] true R) → (∀ k : Nat, k ∉ ([2] : List Nat) → R k = Ra k) → ∀ ls : Array Slot, lv_has ls 2 [(1, .int p1)] → W p l e ({ frames := 3, cells := 0, slots := 0, locals := 140 }) s m args below meth c H locs 0 0 (MQ below (mz_i D cy ad am (fun r F G R S => mz_IF true F ∧ mz_IG G ∧ mz_IR [] true R ∧ (∀ k : Nat, k ∉ ([1] : List Nat) → F k = Fa k) ∧ (∀ k : Nat, k ∉ ([2] : List Nat) → R k = Ra k) ∧ (∀ k : Nat, k ∉ ([] : List Nat) → G k = Ga k) ∧ (-1) * p1.toInt + r.toInt = 0)) args s 0 0 (mz_W ad am)) (F0 m 28 ls []) := by
      intro H locs R hM hS hIR hRR ls hl
      refine lv_iload_n hx hb dX13_tell_28 rfl (lv_at hl 0 rfl) ?_
      exact mz_iret (v := p1) hx hb hr rfl hlocks ⟨hIF, hIG, hIR, hFF, hRR, (fun _ _ => rfl), (by omega)⟩ hM hS dX13_tell_29
    refine lv_if_ge (tgt := 28) hx hb dX13_tell_14 (by decide) (fun c9 => ?_) (fun c9 => ?_)
    · have hc10 : 0 ≤ p1.toInt := (fi_le (show (0 : Int32).toInt = 0 by decide) rfl).mp c9
      exact hj17 _ _ _ hM hS hIR (fun _ _ => rfl) _ (lv_sub hl [1] rfl)
    · have hc10 : ¬ (0 ≤ p1.toInt) := fun h9 => c9 ((fi_le (show (0 : Int32).toInt = 0 by decide) rfl).mpr h9)
      refine lv_aload_n hx hb dX13_tell_17 rfl (lv_at hl 0 rfl) ?_
      refine mz_getR hx hb htl hown hK hM 2 (Nat.le_of_ble_eq_true rfl) (Nat.le_of_ble_eq_true rfl) (htl _ mw_187) (fun _ h9 => h9) dX13_tell_18 ?_
      refine lv_iload_n hx hb dX13_tell_21 rfl (lv_at hl 1 rfl) ?_
      refine lv_ineg hx hb dX13_tell_22 ?_
      refine tk_neg rfl (by omega) (by omega) (fun v18 h_v18 => ?_)
      refine lv_dup2_11 hx hb dX13_tell_23 rfl rfl ?_
      refine mz_iald hx hb hK hM 2 (Nat.le_of_ble_eq_true rfl) rfl (nn := 7) rfl rfl (by omega) (by omega) dX13_tell_24 (fun v19 e_v19 => ?_)
      have hq_v19 := tk_rng v19
      refine lv_iconst (v := 1) hx hb dX13_tell_25 (by decide) ?_
      refine lv_iadd hx hb dX13_tell_26 ?_
      obtain ⟨v20, hm_v20⟩ : ∃ z : Int32, v19 + 1 = z := ⟨_, rfl⟩
      refine fx_ti hm_v20 ?_
      refine mz_iast (x := v20) hx hb hK hD hM hS 2 (Nat.le_of_ble_eq_true rfl) rfl (nn := 7) rfl rfl (by omega) (by omega) dX13_tell_27 (fun H locs R hM hS hw9 hj9 => ?_)
      have hIR := hIR.put hw9 hj9 trivial
      have hRR := mz_frp (K := [2]) (Fa := Ra) hj9 (fun _ _ => rfl) (by decide)
      exact hj17 _ _ _ hM hS hIR hRR _ (lv_sub hl [1] rfl)
  refine lv_if_ge (tgt := 9) hx hb dX13_tell_2 (by decide) (fun c9 => ?_) (fun c9 => ?_)
  · have hc1 : 0 ≤ p1.toInt := (fi_le (show (0 : Int32).toInt = 0 by decide) rfl).mp c9
    refine lv_iconst (v := 0) hx hb dX13_tell_9 (by decide) ?_
    have hk_0 : (0 : Int32).toInt = 0 := by decide
    exact hj4 0 (by omega) (by omega) (by omega) _ (lv_sub hl [0, 1] rfl)
  · have hc1 : ¬ (0 ≤ p1.toInt) := fun h9 => c9 ((fi_le (show (0 : Int32).toInt = 0 by decide) rfl).mpr h9)
    refine lv_iload_n hx hb dX13_tell_5 rfl (lv_at hl 1 rfl) ?_
    refine lv_goto (tgt := 10) hx hb dX13_tell_6 (by decide) ?_
    exact hj4 p1 (by omega) (by omega) (by omega) _ (lv_sub hl [0, 1] rfl)
