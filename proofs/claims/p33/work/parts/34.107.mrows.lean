theorem dX13_leftBy_0 : decode cX13_leftBy 0 = .ok (.aload_n 0, 1) := by decide +kernel
theorem dX13_leftBy_1 : decode cX13_leftBy 1 = .ok (.iload_n 1, 1) := by decide +kernel
theorem dX13_leftBy_2 : decode cX13_leftBy 2 = .ok (.aload_n 0, 1) := by decide +kernel
theorem dX13_leftBy_3 : decode cX13_leftBy 3 = .ok (.iload_n 2, 1) := by decide +kernel
theorem dX13_leftBy_4 : decode cX13_leftBy 4 = .ok (.iconst 1, 1) := by decide +kernel
theorem dX13_leftBy_5 : decode cX13_leftBy 5 = .ok (.invokevirtual 207, 3) := by decide +kernel
theorem dX13_leftBy_8 : decode cX13_leftBy 8 = .ok (.iload_n 3, 1) := by decide +kernel
theorem dX13_leftBy_9 : decode cX13_leftBy 9 = .ok (.iload 4, 2) := by decide +kernel
theorem dX13_leftBy_11 : decode cX13_leftBy 11 = .ok (.iload 5, 2) := by decide +kernel
theorem dX13_leftBy_13 : decode cX13_leftBy 13 = .ok (.iload 6, 2) := by decide +kernel
theorem dX13_leftBy_15 : decode cX13_leftBy 15 = .ok (.invokevirtual 425, 3) := by decide +kernel
theorem dX13_leftBy_18 : decode cX13_leftBy 18 = .ok (.iload 5, 2) := by decide +kernel
theorem dX13_leftBy_20 : decode cX13_leftBy 20 = .ok (.aload_n 0, 1) := by decide +kernel
theorem dX13_leftBy_21 : decode cX13_leftBy 21 = .ok (.invokevirtual 440, 3) := by decide +kernel
theorem dX13_leftBy_24 : decode cX13_leftBy 24 = .ok (.isub, 1) := by decide +kernel
theorem dX13_leftBy_25 : decode cX13_leftBy 25 = .ok (.i2l, 1) := by decide +kernel
theorem dX13_leftBy_26 : decode cX13_leftBy 26 = .ok (.iconst 0, 1) := by decide +kernel
theorem dX13_leftBy_27 : decode cX13_leftBy 27 = .ok (.sipush 999, 3) := by decide +kernel
theorem dX13_leftBy_30 : decode cX13_leftBy 30 = .ok (.invokestatic 421, 3) := by decide +kernel
theorem dX13_leftBy_33 : decode cX13_leftBy 33 = .ok (.ireturn, 1) := by decide +kernel
set_option maxHeartbeats 4000000 in
set_option maxRecDepth 100000 in
theorem k_X13_leftBy (l : Launch) (D : va_G) (cy : Nat → ClassId) (ld ad : Nat → Nat) (am : Nat) (hD : mz_D ad am) (Fa : Nat → Int32) (Ga : Nat → Int64) (Ra : Nat → Nat → Int32) (Sa : Nat → Nat → Int64) (p1 : Int32) (p2 : Int32) (p3 : Int32) (p4 : Int32) (p5 : Int32) (p6 : Int32) (hIF : mz_IF true Fa) (hIG : mz_IG Ga) (hIR : mz_IR [] true Ra) (hp_0 : 0 ≤ p1.toInt) (hp_1 : p1.toInt ≤ 9) (hp_2 : 0 ≤ p2.toInt) (hp_3 : p2.toInt ≤ 7) : Met l yX13_leftBy (wl yX13_leftBy cX13_leftBy 7 (some .int)) ({ frames := 9, cells := 0, slots := 0, locals := 560 }) (mz_p D cy ld ad am Fa Ga Ra Sa [.ref am, .int p1, .int p2, .int p3, .int p4, .int p5, .int p6]) (mz_i D cy ad am (fun r F G R S => mz_IF true F ∧ mz_IG G ∧ mz_IR [] true R ∧ (∀ k : Nat, k ∉ ([34, 38] : List Nat) → F k = Fa k) ∧ (∀ k : Nat, k ∉ ([] : List Nat) → R k = Ra k) ∧ (∀ k : Nat, k ∉ ([39, 40] : List Nat) → G k = Ga k) ∧ 0 ≤ r.toInt ∧ r.toInt ≤ 999)) 0 0 (mz_W ad am) := by
  refine mz_met (y := yX13_leftBy) (cc := cX13_leftBy) (maxL := 7) (ret := (some .int)) (av := [.ref am, .int p1, .int p2, .int p3, .int p4, .int p5, .int p6]) _ (by decide) (Nat.le_of_ble_eq_true rfl) ?_
  intro p e s m args below meth c hx hb hr hml hts htl hown hlocks hK H locs hM hS ls hl
  have hown : s.vm.findClass RX13 = some m.cls := hown
  have hl : lv_has ls 7 [(0, .ref am), (1, .int p1), (2, .int p2), (3, .int p3), (4, .int p4), (5, .int p5), (6, .int p6)] := hl
  have hr_p1 := tk_rng p1
  have hr_p2 := tk_rng p2
  have hr_p3 := tk_rng p3
  have hr_p4 := tk_rng p4
  have hr_p5 := tk_rng p5
  have hr_p6 := tk_rng p6
  refine lv_aload_n hx hb dX13_leftBy_0 rfl (lv_at hl 0 rfl) ?_
  refine lv_iload_n hx hb dX13_leftBy_1 rfl (lv_at hl 1 rfl) ?_
  refine lv_aload_n hx hb dX13_leftBy_2 rfl (lv_at hl 0 rfl) ?_
  refine lv_iload_n hx hb dX13_leftBy_3 rfl (lv_at hl 2 rfl) ?_
  refine lv_iconst (v := 1) hx hb dX13_leftBy_4 (by decide) ?_
  have hk_1 : (1 : Int32).toInt = 1 := by decide
  refine mz_Vj (As := [.int p2, .int 1]) (rest := [.int p1, .ref am]) ⟨hx, hb, hml, hown, hts⟩ hK hM hS (k_X13_ofSinger_1 l D cy ld ad am hD _ _ _ _ p2 (hIF.weak) hIG hIR (by omega) (by omega)) ⟨callB_of 2 hts (wl_in mw_324) rfl rfl rfl (htl _ mw_5) (htl _ mw_321) hd_yX13_ofSinger ⟨(Nat.le_of_ble_eq_true rfl), (Nat.le_of_ble_eq_true rfl)⟩, htl _ mw_322, htl _ mw_323⟩ rfl hl.1 rfl (Nat.le_of_ble_eq_true rfl) dX13_leftBy_5 ⟨(Nat.le_of_ble_eq_true rfl), (Nat.le_of_ble_eq_true rfl)⟩ (fun v1 H locs hpo hM hS => ?_)
  have hq_v1 := tk_rng v1
  refine lv_iload_n hx hb dX13_leftBy_8 rfl (lv_at hl 3 rfl) ?_
  refine lv_iload hx hb dX13_leftBy_9 (lv_at hl 4 rfl) ?_
  refine lv_iload hx hb dX13_leftBy_11 (lv_at hl 5 rfl) ?_
  refine lv_iload hx hb dX13_leftBy_13 (lv_at hl 6 rfl) ?_
  refine mz_Vv (As := [.int p1, .int v1, .int p3, .int p4, .int p5, .int p6]) (rest := []) ⟨hx, hb, hml, hown, hts⟩ hK hM hS (k_X13_setSung l D cy ld ad am hD _ _ _ _ p1 v1 p3 p4 p5 p6 hIF hIG hIR (by omega) (by omega)) ⟨callB_of 6 hts (wl_in mw_1099) rfl rfl rfl (htl _ mw_5) (htl _ mw_1096) hd_yX13_setSung ⟨(Nat.le_of_ble_eq_true rfl), (Nat.le_of_ble_eq_true rfl)⟩, htl _ mw_1097, htl _ mw_1098⟩ rfl hl.1 rfl (Nat.le_of_ble_eq_true rfl) dX13_leftBy_15 ⟨(Nat.le_of_ble_eq_true rfl), (Nat.le_of_ble_eq_true rfl)⟩ (fun H locs F G R S hpo hM hS => ?_)
  obtain ⟨hIF, hIG, hIR, hfr9, hrr9, hgr9⟩ := hpo
  have hFF := mz_fr (K := [34, 38]) (Fa := Fa) hfr9 (fun _ _ => rfl) (by decide)
  have hRR := mz_fr (K := []) (Fa := Ra) hrr9 (fun _ _ => rfl) (by decide)
  have hGG := mz_fr (K := [39, 40]) (Fa := Ga) hgr9 (fun _ _ => rfl) (by decide)
  refine lv_iload hx hb dX13_leftBy_18 (lv_at hl 5 rfl) ?_
  refine lv_aload_n hx hb dX13_leftBy_20 rfl (lv_at hl 0 rfl) ?_
  refine mz_Vi (As := []) (rest := [.int p5]) ⟨hx, hb, hml, hown, hts⟩ hK hM hS (k_X13_lullsSet l D cy ld ad am hD _ _ _ _ hIF hIG hIR) ⟨callB_of 0 hts (wl_in mw_1121) rfl rfl rfl (htl _ mw_5) (htl _ mw_1118) hd_yX13_lullsSet ⟨(Nat.le_of_ble_eq_true rfl), (Nat.le_of_ble_eq_true rfl)⟩, htl _ mw_1119, htl _ mw_1120⟩ rfl hl.1 rfl (Nat.le_of_ble_eq_true rfl) dX13_leftBy_21 ⟨(Nat.le_of_ble_eq_true rfl), (Nat.le_of_ble_eq_true rfl)⟩ (fun v4 H locs F G R S hpo hM hS => ?_)
  obtain ⟨hIF, hIG, hIR, hfr9, hrr9, hgr9, hpo5, hpo6⟩ := hpo
  have hq_v4 := tk_rng v4
  have hFF := mz_fr (K := [34, 38]) (Fa := Fa) hfr9 hFF (by decide)
  have hRR := mz_fr (K := []) (Fa := Ra) hrr9 hRR (by decide)
  have hGG := mz_fr (K := [39, 40]) (Fa := Ga) hgr9 hGG (by decide)
  refine lv_isub hx hb dX13_leftBy_24 ?_
  obtain ⟨v11, hm_v11⟩ : ∃ z : Int32, p5 - v4 = z := ⟨_, rfl⟩
  refine fx_ti hm_v11 ?_
  obtain ⟨w12, e_w12, h_w12⟩ : ∃ z : Int64, v11.toInt64 = z ∧ z.toInt = v11.toInt := ⟨_, rfl, fl_w _⟩
  refine lv_i2l (v := w12) hx hb dX13_leftBy_25 e_w12 ?_
  refine lv_iconst (v := 0) hx hb dX13_leftBy_26 (by decide) ?_
  refine lv_sipush (v := 999) hx hb dX13_leftBy_27 (by decide) ?_
  have hk_0 : (0 : Int32).toInt = 0 := by decide
  have hk_999 : (999 : Int32).toInt = 999 := by decide
  refine mz_Sj (As := [.long w12, .int 0, .int 999]) (rest := []) ⟨hx, hb, hml, hown, hts⟩ hK hM hS (k_X13_within l D cy ld ad am hD _ _ _ _ w12 0 999 (by omega)) ⟨callB_of 3 hts (wl_in mw_1125) rfl rfl rfl (htl _ mw_5) (htl _ mw_1123) hd_yX13_within ⟨(Nat.le_of_ble_eq_true rfl), (Nat.le_of_ble_eq_true rfl)⟩, htl _ mw_1124⟩ rfl hl.1 rfl (Nat.le_of_ble_eq_true rfl) dX13_leftBy_30 ⟨(Nat.le_of_ble_eq_true rfl), (Nat.le_of_ble_eq_true rfl)⟩ (fun v13 H locs hpo hM hS => ?_)
  obtain ⟨hpo14, hpo15⟩ := hpo
  have hq_v13 := tk_rng v13
  exact mz_iret (v := v13) hx hb hr rfl hlocks ⟨hIF, hIG, hIR, hFF, hRR, hGG, (by omega), (by omega)⟩ hM hS dX13_leftBy_33
