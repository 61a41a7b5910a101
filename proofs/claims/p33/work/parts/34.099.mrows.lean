theorem dX13_draw_0 : decode cX13_draw 0 = .ok (.aload_n 0, 1) := by decide +kernel
theorem dX13_draw_1 : decode cX13_draw 1 = .ok (.aload_n 0, 1) := by decide +kernel
theorem dX13_draw_2 : decode cX13_draw 2 = .ok (.getfield 507, 3) := by decide +kernel
theorem dX13_draw_5 : decode cX13_draw 5 = .ok (.ldc2_w 510, 3) := by decide +kernel
theorem dX13_draw_8 : decode cX13_draw 8 = .ok (.lmul, 1) := by decide +kernel
theorem dX13_draw_9 : decode cX13_draw 9 = .ok (.ldc2_w 512, 3) := by decide +kernel
theorem dX13_draw_12 : decode cX13_draw 12 = .ok (.ladd, 1) := by decide +kernel
theorem dX13_draw_13 : decode cX13_draw 13 = .ok (.ldc2_w 514, 3) := by decide +kernel
theorem dX13_draw_16 : decode cX13_draw 16 = .ok (.lrem, 1) := by decide +kernel
theorem dX13_draw_17 : decode cX13_draw 17 = .ok (.putfield 507, 3) := by decide +kernel
theorem dX13_draw_20 : decode cX13_draw 20 = .ok (.aload_n 0, 1) := by decide +kernel
theorem dX13_draw_21 : decode cX13_draw 21 = .ok (.getfield 507, 3) := by decide +kernel
theorem dX13_draw_24 : decode cX13_draw 24 = .ok (.iload_n 1, 1) := by decide +kernel
theorem dX13_draw_25 : decode cX13_draw 25 = .ok (.i2l, 1) := by decide +kernel
theorem dX13_draw_26 : decode cX13_draw 26 = .ok (.lrem, 1) := by decide +kernel
theorem dX13_draw_27 : decode cX13_draw 27 = .ok (.l2i, 1) := by decide +kernel
theorem dX13_draw_28 : decode cX13_draw 28 = .ok (.ireturn, 1) := by decide +kernel
set_option maxHeartbeats 4000000 in
set_option maxRecDepth 100000 in
theorem k_X13_draw (l : Launch) (D : va_G) (cy : Nat → ClassId) (ld ad : Nat → Nat) (am : Nat) (hD : mz_D ad am) (Fa : Nat → Int32) (Ga : Nat → Int64) (Ra : Nat → Nat → Int32) (Sa : Nat → Nat → Int64) (p1 : Int32) (hIF : mz_IF true Fa) (hIG : mz_IG Ga) (hIR : mz_IR [] true Ra) (hp_0 : 1 ≤ p1.toInt) (hp_1 : p1.toInt ≤ 1000) : Met l yX13_draw (wl yX13_draw cX13_draw 2 (some .int)) ({ frames := 3, cells := 0, slots := 0, locals := 140 }) (mz_p D cy ld ad am Fa Ga Ra Sa [.ref am, .int p1]) (mz_i D cy ad am (fun r F G R S => mz_IF true F ∧ mz_IG G ∧ mz_IR [] true R ∧ (∀ k : Nat, k ∉ ([] : List Nat) → F k = Fa k) ∧ (∀ k : Nat, k ∉ ([] : List Nat) → R k = Ra k) ∧ (∀ k : Nat, k ∉ ([47] : List Nat) → G k = Ga k) ∧ 0 ≤ r.toInt ∧ 0 ≤ p1.toInt + (-1) * r.toInt + (-1) ∧ 0 ≤ r.toInt ∧ r.toInt ≤ 999)) 0 0 (mz_W ad am) := by
  refine mz_met (y := yX13_draw) (cc := cX13_draw) (maxL := 2) (ret := (some .int)) (av := [.ref am, .int p1]) _ (by decide) (Nat.le_of_ble_eq_true rfl) ?_
  intro p e s m args below meth c hx hb hr hml hts htl hown hlocks hK H locs hM hS ls hl
  have hown : s.vm.findClass RX13 = some m.cls := hown
  have hl : lv_has ls 2 [(0, .ref am), (1, .int p1)] := hl
  have hr_p1 := tk_rng p1
  refine lv_aload_n hx hb dX13_draw_0 rfl (lv_at hl 0 rfl) ?_
  refine lv_aload_n hx hb dX13_draw_1 rfl (lv_at hl 0 rfl) ?_
  refine mz_getJ hx hb htl hown hK hM 47 (Nat.le_of_ble_eq_true rfl) rfl (htl _ mw_1386) (fun _ h9 => h9) dX13_draw_2 (fun w1 e_w1 => ?_)
  have hr_w1 : 0 ≤ w1.toInt ∧ w1.toInt ≤ 1000002 := e_w1 ▸ hIG
  refine lv_ldc2 hx hb hown (htl _ mw_1387) dX13_draw_5 ?_
  refine lv_lmul hx hb dX13_draw_8 ?_
  refine tk_lmul rfl (show (1103 : Int64).toInt = 1103 by decide) (by omega) (by omega) (fun w2 h_w2 => ?_)
  refine lv_ldc2 hx hb hown (htl _ mw_1388) dX13_draw_9 ?_
  refine lv_ladd hx hb dX13_draw_12 ?_
  refine tk_ladd rfl (show (12345 : Int64).toInt = 12345 by decide) (by omega) (by omega) (fun w3 h_w3 => ?_)
  refine lv_ldc2 hx hb hown (htl _ mw_1389) dX13_draw_13 ?_
  refine lv_lrem hx hb dX13_draw_16 (by decide) ?_
  refine tk_sayl (P := fun z => 0 ≤ z.toInt ∧ z.toInt < 1000003) (tk_remL rfl (show (1000003 : Int64).toInt = 1000003 by decide) (by omega) (by omega)) (fun w4 h_w4 => ?_)
  refine mz_putJ (ty := .long) (x := w4) hx hb htl hown hK hD hM hS 47 (Nat.le_of_ble_eq_true rfl) rfl (htl _ mw_1386) (fun _ h9 => h9) rfl (tyX13_ok 47 (by decide)) rfl rfl dX13_draw_17 (fun H locs G hM hS hf9 hj9 => ?_)
  have hIG := mz_IG.put47 hf9 (by omega) (by omega)
  have hGG := mz_frp (K := [47]) (Fa := Ga) hj9 (fun _ _ => rfl) (by decide)
  have hf6 := hf9
  refine lv_aload_n hx hb dX13_draw_20 rfl (lv_at hl 0 rfl) ?_
  refine mz_getJ hx hb htl hown hK hM 47 (Nat.le_of_ble_eq_true rfl) rfl (htl _ mw_1386) (fun _ h9 => h9) dX13_draw_21 (fun v9 e9 => ?_)
  refine fx_tl (v := w4) (e9.symm.trans hf6) ?_
  refine lv_iload_n hx hb dX13_draw_24 rfl (lv_at hl 1 rfl) ?_
  obtain ⟨w10, e_w10, h_w10⟩ : ∃ z : Int64, p1.toInt64 = z ∧ z.toInt = p1.toInt := ⟨_, rfl, fl_w _⟩
  refine lv_i2l (v := w10) hx hb dX13_draw_25 e_w10 ?_
  refine lv_lrem hx hb dX13_draw_26 (fun h9 => absurd ((fl_eq rfl (show (0 : Int64).toInt = 0 by decide)).mp h9) (by omega)) ?_
  refine tk_sayl (P := fun z => 0 ≤ z.toInt ∧ z.toInt < w10.toInt) (tk_remL rfl rfl (by omega) (by omega)) (fun w11 h_w11 => ?_)
  obtain ⟨v12, e_v12, h_v12⟩ : ∃ z : Int32, w11.toInt32 = z ∧ z.toInt = w11.toInt := ⟨_, rfl, tk_l2i (by omega) (by omega)⟩
  refine lv_l2i (v := v12) hx hb dX13_draw_27 e_v12 ?_
  exact mz_iret (v := v12) hx hb hr rfl hlocks ⟨hIF, hIG, hIR, (fun _ _ => rfl), (fun _ _ => rfl), hGG, (by omega), (by omega), (by omega), (by omega)⟩ hM hS dX13_draw_28
