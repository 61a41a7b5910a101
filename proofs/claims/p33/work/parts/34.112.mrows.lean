theorem dX13_stopped_0 : decode cX13_stopped 0 = .ok (.aload_n 0, 1) := by decide +kernel
theorem dX13_stopped_1 : decode cX13_stopped 1 = .ok (.iconst 0, 1) := by decide +kernel
theorem dX13_stopped_2 : decode cX13_stopped 2 = .ok (.putfield 170, 3) := by decide +kernel
theorem dX13_stopped_5 : decode cX13_stopped 5 = .ok (.aload_n 0, 1) := by decide +kernel
theorem dX13_stopped_6 : decode cX13_stopped 6 = .ok (.getfield 152, 3) := by decide +kernel
theorem dX13_stopped_9 : decode cX13_stopped 9 = .ok (.ireturn, 1) := by decide +kernel
set_option maxHeartbeats 4000000 in
set_option maxRecDepth 100000 in
theorem k_X13_stopped (l : Launch) (D : va_G) (cy : Nat → ClassId) (ld ad : Nat → Nat) (am : Nat) (hD : mz_D ad am) (Fa : Nat → Int32) (Ga : Nat → Int64) (Ra : Nat → Nat → Int32) (Sa : Nat → Nat → Int64) (hIF : mz_IF true Fa) (hIG : mz_IG Ga) (hIR : mz_IR [] true Ra) : Met l yX13_stopped (wl yX13_stopped cX13_stopped 1 (some .int)) ({ frames := 3, cells := 0, slots := 0, locals := 140 }) (mz_p D cy ld ad am Fa Ga Ra Sa [.ref am]) (mz_i D cy ad am (fun r F G R S => mz_IF true F ∧ mz_IG G ∧ mz_IR [] true R ∧ (∀ k : Nat, k ∉ ([0] : List Nat) → F k = Fa k) ∧ (∀ k : Nat, k ∉ ([] : List Nat) → R k = Ra k) ∧ (∀ k : Nat, k ∉ ([] : List Nat) → G k = Ga k))) 0 0 (mz_W ad am) := by
  refine mz_met (y := yX13_stopped) (cc := cX13_stopped) (maxL := 1) (ret := (some .int)) (av := [.ref am]) _ (by decide) (Nat.le_of_ble_eq_true rfl) ?_
  intro p e s m args below meth c hx hb hr hml hts htl hown hlocks hK H locs hM hS ls hl
  have hown : s.vm.findClass RX13 = some m.cls := hown
  have hl : lv_has ls 1 [(0, .ref am)] := hl
  refine lv_aload_n hx hb dX13_stopped_0 rfl (lv_at hl 0 rfl) ?_
  refine lv_iconst (v := 0) hx hb dX13_stopped_1 (by decide) ?_
  have hk_0 : (0 : Int32).toInt = 0 := by decide
  refine mz_putI (ty := .int) (x := 0) hx hb htl hown hK hD hM hS 0 (Nat.le_of_ble_eq_true rfl) rfl (htl _ mw_286) (fun _ h9 => h9) rfl (tyX13_ok 0 (by decide)) rfl rfl dX13_stopped_2 (fun H locs F hM hS hf9 hj9 => ?_)
  have hIF := hIF.put hf9 hj9 (tk_rng _).1 (tk_rng _).2 (by decide)
  have hFF := mz_frp (K := [0]) (Fa := Fa) hj9 (fun _ _ => rfl) (by decide)
  have hf2 := hf9
  refine lv_aload_n hx hb dX13_stopped_5 rfl (lv_at hl 0 rfl) ?_
  refine mz_getI hx hb htl hown hK hM 64 (Nat.le_of_ble_eq_true rfl) rfl (htl _ mw_240) (fun _ h9 => h9) dX13_stopped_6 (fun v4 hf3 => ?_)
  have hq_v4 := tk_rng v4
  exact mz_iret (v := v4) hx hb hr rfl hlocks ⟨hIF, hIG, hIR, hFF, (fun _ _ => rfl), (fun _ _ => rfl)⟩ hM hS dX13_stopped_9
