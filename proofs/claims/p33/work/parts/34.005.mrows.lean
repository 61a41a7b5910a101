theorem dX13_change_0 : decode cX13_change 0 = .ok (.aload_n 0, 1) := by decide +kernel
theorem dX13_change_1 : decode cX13_change 1 = .ok (.getfield 13, 3) := by decide +kernel
theorem dX13_change_4 : decode cX13_change 4 = .ok (.iload_n 1, 1) := by decide +kernel
theorem dX13_change_5 : decode cX13_change 5 = .ok (.iaload, 1) := by decide +kernel
theorem dX13_change_6 : decode cX13_change 6 = .ok (.istore_n 3, 1) := by decide +kernel
theorem dX13_change_7 : decode cX13_change 7 = .ok (.aload_n 0, 1) := by decide +kernel
theorem dX13_change_8 : decode cX13_change 8 = .ok (.getfield 13, 3) := by decide +kernel
theorem dX13_change_11 : decode cX13_change 11 = .ok (.iload_n 1, 1) := by decide +kernel
theorem dX13_change_12 : decode cX13_change 12 = .ok (.iload_n 2, 1) := by decide +kernel
theorem dX13_change_13 : decode cX13_change 13 = .ok (.iastore, 1) := by decide +kernel
theorem dX13_change_14 : decode cX13_change 14 = .ok (.aload_n 0, 1) := by decide +kernel
theorem dX13_change_15 : decode cX13_change 15 = .ok (.iconst 0, 1) := by decide +kernel
theorem dX13_change_16 : decode cX13_change 16 = .ok (.putfield 173, 3) := by decide +kernel
theorem dX13_change_19 : decode cX13_change 19 = .ok (.iload_n 3, 1) := by decide +kernel
theorem dX13_change_20 : decode cX13_change 20 = .ok (.ireturn, 1) := by decide +kernel
set_option maxHeartbeats 4000000 in
set_option maxRecDepth 100000 in
theorem k_X13_change (l : Launch) (D : va_G) (cy : Nat → ClassId) (ld ad : Nat → Nat) (am : Nat) (hD : mz_D ad am) (Fa : Nat → Int32) (Ga : Nat → Int64) (Ra : Nat → Nat → Int32) (Sa : Nat → Nat → Int64) (p1 : Int32) (p2 : Int32) (hIF : mz_IF true Fa) (hIG : mz_IG Ga) (hIR : mz_IR [] true Ra) (hp_0 : 5 ≤ p1.toInt) (hp_1 : p1.toInt ≤ 11) (hp_2 : (p1.toInt ≤ 5 → (-1) ≤ p2.toInt ∧ p2.toInt ≤ 5)) : Met l yX13_change (wl yX13_change cX13_change 4 (some .int)) ({ frames := 3, cells := 0, slots := 0, locals := 140 }) (mz_p D cy ld ad am Fa Ga Ra Sa [.ref am, .int p1, .int p2]) (mz_i D cy ad am (fun r F G R S => mz_IF true F ∧ mz_IG G ∧ mz_IR [] true R ∧ (∀ k : Nat, k ∉ ([1] : List Nat) → F k = Fa k) ∧ (∀ k : Nat, k ∉ ([3] : List Nat) → R k = Ra k) ∧ (∀ k : Nat, k ∉ ([] : List Nat) → G k = Ga k) ∧ rK3 (Ra 3) (R 3))) 0 0 (mz_W ad am) := by
  refine mz_met (y := yX13_change) (cc := cX13_change) (maxL := 4) (ret := (some .int)) (av := [.ref am, .int p1, .int p2]) _ (by decide) (Nat.le_of_ble_eq_true rfl) ?_
  intro p e s m args below meth c hx hb hr hml hts htl hown hlocks hK H locs hM hS ls hl
  have hown : s.vm.findClass RX13 = some m.cls := hown
  have hl : lv_has ls 4 [(0, .ref am), (1, .int p1), (2, .int p2)] := hl
  have hr_p1 := tk_rng p1
  have hr_p2 := tk_rng p2
  refine lv_aload_n hx hb dX13_change_0 rfl (lv_at hl 0 rfl) ?_
  refine mz_getR hx hb htl hown hK hM 3 (Nat.le_of_ble_eq_true rfl) (Nat.le_of_ble_eq_true rfl) (htl _ mw_188) (fun _ h9 => h9) dX13_change_1 ?_
  refine lv_iload_n hx hb dX13_change_4 rfl (lv_at hl 1 rfl) ?_
  refine mz_iald hx hb hK hM 3 (Nat.le_of_ble_eq_true rfl) rfl (nn := 5560) rfl rfl (by omega) (by omega) dX13_change_5 (fun v1 e_v1 => ?_)
  have hq_v1 := tk_rng v1
  refine lv_istore_n (lv' := [(3, .int v1), (0, .ref am), (1, .int p1), (2, .int p2)]) hx hb dX13_change_6 rfl hl (by decide) rfl (fun ls hl => ?_)
  refine lv_aload_n hx hb dX13_change_7 rfl (lv_at hl 1 rfl) ?_
  refine mz_getR hx hb htl hown hK hM 3 (Nat.le_of_ble_eq_true rfl) (Nat.le_of_ble_eq_true rfl) (htl _ mw_188) (fun _ h9 => h9) dX13_change_8 ?_
  refine lv_iload_n hx hb dX13_change_11 rfl (lv_at hl 2 rfl) ?_
  refine lv_iload_n hx hb dX13_change_12 rfl (lv_at hl 3 rfl) ?_
  refine mz_iast (x := p2) hx hb hK hD hM hS 3 (Nat.le_of_ble_eq_true rfl) rfl (nn := 5560) rfl rfl (by omega) (by omega) dX13_change_13 (fun H locs R hM hS hw9 hj9 => ?_)
  have hIR := hIR.put hw9 hj9 (mz_r3 (hIR.at 3) (I := p1.toInt) rfl (by omega) (by omega) (fun h9 => by first | (cases h9; done) | omega) (by unfold mE; omega))
  have hRR := mz_frp (K := [3]) (Fa := Ra) hj9 (fun _ _ => rfl) (by decide)
  have hrel := rK3.put (I := p1.toInt) (rK3.refl rfl) hw9 rfl (Or.inl ⟨by omega, by omega⟩)
  refine lv_aload_n hx hb dX13_change_14 rfl (lv_at hl 1 rfl) ?_
  refine lv_iconst (v := 0) hx hb dX13_change_15 (by decide) ?_
  have hk_0 : (0 : Int32).toInt = 0 := by decide
  refine mz_putI (ty := .int) (x := 0) hx hb htl hown hK hD hM hS 1 (Nat.le_of_ble_eq_true rfl) rfl (htl _ mw_297) (fun _ h9 => h9) rfl (tyX13_ok 1 (by decide)) rfl rfl dX13_change_16 (fun H locs F hM hS hf9 hj9 => ?_)
  have hIF := hIF.put hf9 hj9 (tk_rng _).1 (tk_rng _).2 (by decide)
  have hFF := mz_frp (K := [1]) (Fa := Fa) hj9 (fun _ _ => rfl) (by decide)
  have hf4 := hf9
  refine lv_iload_n hx hb dX13_change_19 rfl (lv_at hl 0 rfl) ?_
  exact mz_iret (v := v1) hx hb hr rfl hlocks ⟨hIF, hIG, hIR, hFF, hRR, (fun _ _ => rfl), hrel⟩ hM hS dX13_change_20
