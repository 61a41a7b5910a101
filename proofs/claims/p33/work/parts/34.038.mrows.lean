theorem hd_yX13_next : yX13_next.cls ≠ "java/lang/invoke/MethodHandle" ∧ yX13_next.cls ≠ "java/lang/invoke/VarHandle" ∧ (parseMethodDescriptor yX13_next.desc).map (fun d => d.parameters.length) = some 0 := by decide +kernel
theorem dX13_begin1_0 : decode cX13_begin1 0 = .ok (.aload_n 0, 1) := by decide +kernel
theorem dX13_begin1_1 : decode cX13_begin1 1 = .ok (.iconst 0, 1) := by decide +kernel
theorem dX13_begin1_2 : decode cX13_begin1 2 = .ok (.putfield 233, 3) := by decide +kernel
theorem dX13_begin1_5 : decode cX13_begin1 5 = .ok (.aload_n 0, 1) := by decide +kernel
theorem dX13_begin1_6 : decode cX13_begin1 6 = .ok (.iconst 0, 1) := by decide +kernel
theorem dX13_begin1_7 : decode cX13_begin1 7 = .ok (.putfield 236, 3) := by decide +kernel
theorem dX13_begin1_10 : decode cX13_begin1 10 = .ok (.aload_n 0, 1) := by decide +kernel
theorem dX13_begin1_11 : decode cX13_begin1 11 = .ok (.iconst (-1), 1) := by decide +kernel
theorem dX13_begin1_12 : decode cX13_begin1 12 = .ok (.putfield 38, 3) := by decide +kernel
theorem dX13_begin1_15 : decode cX13_begin1 15 = .ok (.aload_n 0, 1) := by decide +kernel
theorem dX13_begin1_16 : decode cX13_begin1 16 = .ok (.invokevirtual 240, 3) := by decide +kernel
theorem dX13_begin1_19 : decode cX13_begin1 19 = .ok (.return_, 1) := by decide +kernel
set_option maxHeartbeats 4000000 in
set_option maxRecDepth 100000 in
theorem k_X13_begin1 (l : Launch) (D : va_G) (cy : Nat → ClassId) (ld ad : Nat → Nat) (am : Nat) (hD : mz_D ad am) (Fa : Nat → Int32) (Ga : Nat → Int64) (Ra : Nat → Nat → Int32) (Sa : Nat → Nat → Int64) (gp : Int32) (hIF : mz_IF false Fa) (hIG : mz_IG Ga) (hIR : mz_IR [] true Ra) (hg_0 : Fa 13 = gp) : Met l yX13_begin1 (wl yX13_begin1 cX13_begin1 1 none) ({ frames := 5, cells := 0, slots := 0, locals := 280 }) (mz_p D cy ld ad am Fa Ga Ra Sa [.ref am]) (mz_w D cy ad am (fun F G R S => mz_IF false F ∧ mz_IG G ∧ mz_IR [] true R ∧ (∀ k : Nat, k ∉ ([14, 15, 16, 18, 19] : List Nat) → F k = Fa k) ∧ (∀ k : Nat, k ∉ ([] : List Nat) → R k = Ra k) ∧ (∀ k : Nat, k ∉ ([17] : List Nat) → G k = Ga k) ∧ 0 ≤ (-1) * (F 14).toInt + (F 15).toInt ∧ 0 ≤ gp.toInt + (-1) * (F 15).toInt ∧ (1 ≤ (F 16).toInt → 0 ≤ (-1) * (F 14).toInt + (F 15).toInt + (-1)) ∧ (27 ≤ (G 17).toInt → 1 ≤ (F 16).toInt → (F 16).toInt ≤ 1 → 0 ≤ (-1) * (F 14).toInt + (F 15).toInt + (-2)) ∧ (F 19).toInt = 0)) 0 0 (mz_W ad am) := by
  refine mz_met (y := yX13_begin1) (cc := cX13_begin1) (maxL := 1) (ret := none) (av := [.ref am]) _ (by decide) (Nat.le_of_ble_eq_true rfl) ?_
  intro p e s m args below meth c hx hb hr hml hts htl hown hlocks hK H locs hM hS ls hl
  have hown : s.vm.findClass RX13 = some m.cls := hown
  have hl : lv_has ls 1 [(0, .ref am)] := hl
  have hq_gp := tk_rng gp
  have hr_gp : 0 ≤ gp.toInt ∧ gp.toInt ≤ 400 := hIF.at hg_0
  refine lv_aload_n hx hb dX13_begin1_0 rfl (lv_at hl 0 rfl) ?_
  refine lv_iconst (v := 0) hx hb dX13_begin1_1 (by decide) ?_
  have hk_0 : (0 : Int32).toInt = 0 := by decide
  have hk_0 : (0 : Int32).toInt = 0 := by decide
  refine mz_putI (ty := .int) (x := 0) hx hb htl hown hK hD hM hS 15 (Nat.le_of_ble_eq_true rfl) rfl (htl _ mw_681) (fun _ h9 => h9) rfl (tyX13_ok 15 (by decide)) rfl rfl dX13_begin1_2 (fun H locs F hM hS hf9 hj9 => ?_)
  have hIF := hIF.put hf9 hj9 (show 0 ≤ (0 : Int32).toInt by omega) (show (0 : Int32).toInt ≤ 400 by omega) (by decide)
  have hFF := mz_frp (K := [14, 15, 16, 18, 19]) (Fa := Fa) hj9 (fun _ _ => rfl) (by decide)
  have hg_0 := (hj9 13 (by decide)).trans hg_0
  have hf2 := hf9
  refine lv_aload_n hx hb dX13_begin1_5 rfl (lv_at hl 0 rfl) ?_
  refine lv_iconst (v := 0) hx hb dX13_begin1_6 (by decide) ?_
  have hk_0 : (0 : Int32).toInt = 0 := by decide
  have hk_0 : (0 : Int32).toInt = 0 := by decide
  refine mz_putI (ty := .boolean) (x := 0) hx hb htl hown hK hD hM hS 19 (Nat.le_of_ble_eq_true rfl) rfl (htl _ mw_668) (fun _ h9 => h9) rfl (tyX13_ok 19 (by decide)) rfl rfl dX13_begin1_7 (fun H locs F hM hS hf9 hj9 => ?_)
  have hIF := hIF.put hf9 hj9 (show 0 ≤ (0 : Int32).toInt by omega) (show (0 : Int32).toInt ≤ 1 by omega) (by decide)
  have hFF := mz_frp (K := [14, 15, 16, 18, 19]) (Fa := Fa) hj9 hFF (by decide)
  have hg_0 := (hj9 13 (by decide)).trans hg_0
  have hf2 := (hj9 15 (by decide)).trans hf2
  have hf4 := hf9
  refine lv_aload_n hx hb dX13_begin1_10 rfl (lv_at hl 0 rfl) ?_
  refine lv_iconst (v := (-1)) hx hb dX13_begin1_11 (by decide) ?_
  have hk_m1 : ((-1) : Int32).toInt = (-1) := by decide
  refine mz_putI (ty := .int) (x := (-1)) hx hb htl hown hK hD hM hS 18 (Nat.le_of_ble_eq_true rfl) rfl (htl _ mw_196) (fun _ h9 => h9) rfl (tyX13_ok 18 (by decide)) rfl rfl dX13_begin1_12 (fun H locs F hM hS hf9 hj9 => ?_)
  have hIF := hIF.put hf9 hj9 (tk_rng _).1 (tk_rng _).2 (by decide)
  have hFF := mz_frp (K := [14, 15, 16, 18, 19]) (Fa := Fa) hj9 hFF (by decide)
  have hg_0 := (hj9 13 (by decide)).trans hg_0
  have hf2 := (hj9 15 (by decide)).trans hf2
  have hf4 := (hj9 19 (by decide)).trans hf4
  have hf6 := hf9
  refine lv_aload_n hx hb dX13_begin1_15 rfl (lv_at hl 0 rfl) ?_
  have hk_0 : (0 : Int32).toInt = 0 := by decide
  refine mz_Vv (As := []) (rest := []) ⟨hx, hb, hml, hown, hts⟩ hK hM hS (k_X13_next l D cy ld ad am hD _ _ _ _ 0 gp hIF hIG hIR hf2 hg_0 (by omega)) ⟨callB_of 0 hts (wl_in mw_685) rfl rfl rfl (htl _ mw_5) (htl _ mw_682) hd_yX13_next ⟨(Nat.le_of_ble_eq_true rfl), (Nat.le_of_ble_eq_true rfl)⟩, htl _ mw_683, htl _ mw_684⟩ rfl hl.1 rfl (Nat.le_of_ble_eq_true rfl) dX13_begin1_16 ⟨(Nat.le_of_ble_eq_true rfl), (Nat.le_of_ble_eq_true rfl)⟩ (fun H locs F G R S hpo hM hS => ?_)
  obtain ⟨hIF, hIG, hIR, hfr9, hrr9, hgr9, hpo10, hpo11, hpo12, hpo13, hpo14⟩ := hpo
  have hFF := mz_fr (K := [14, 15, 16, 18, 19]) (Fa := Fa) hfr9 hFF (by decide)
  have hRR := mz_fr (K := []) (Fa := Ra) hrr9 (fun _ _ => rfl) (by decide)
  have hGG := mz_fr (K := [17]) (Fa := Ga) hgr9 (fun _ _ => rfl) (by decide)
  have hg_0 := (hfr9 13 (by decide)).trans hg_0
  have hf4 := (hfr9 19 (by decide)).trans hf4
  have hf6 := (hfr9 18 (by decide)).trans hf6
  obtain ⟨v17, hf16⟩ : ∃ z : Int32, F 14 = z := ⟨_, rfl⟩
  have hq_v17 := tk_rng v17
  rw [hf16] at hpo10 hpo11 hpo13 hpo14
  have hr_v17 : 0 ≤ v17.toInt ∧ v17.toInt ≤ 400 := hIF.at hf16
  obtain ⟨v19, hf18⟩ : ∃ z : Int32, F 15 = z := ⟨_, rfl⟩
  have hq_v19 := tk_rng v19
  rw [hf18] at hpo11 hpo12 hpo13 hpo14
  have hr_v19 : 0 ≤ v19.toInt ∧ v19.toInt ≤ 400 := hIF.at hf18
  obtain ⟨v21, hf20⟩ : ∃ z : Int32, F 16 = z := ⟨_, rfl⟩
  have hq_v21 := tk_rng v21
  rw [hf20] at hpo13 hpo14
  have hr_v21 : 0 ≤ v21.toInt ∧ v21.toInt ≤ 3 := hIF.at hf20
  obtain ⟨w23, hf22⟩ : ∃ z : Int64, G 17 = z := ⟨_, rfl⟩
  have hq_w23 := tk_rngL w23
  rw [hf22] at hpo14
  have hk_0 : (0 : Int32).toInt = 0 := by decide
  exact mz_vret hx hb hr hlocks ⟨hIF, hIG, hIR, hFF, hRR, hGG, (by rw [hf16, hf18]; omega), (by rw [hf18]; omega), (by rw [hf16, hf18, hf20]; omega), (by rw [hf16, hf18, hf20, hf22]; omega), (by rw [hf4]; omega)⟩ hM hS dX13_begin1_19
