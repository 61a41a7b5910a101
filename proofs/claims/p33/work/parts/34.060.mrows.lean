theorem hd_yX13_begin1 : yX13_begin1.cls ≠ "java/lang/invoke/MethodHandle" ∧ yX13_begin1.cls ≠ "java/lang/invoke/VarHandle" ∧ (parseMethodDescriptor yX13_begin1.desc).map (fun d => d.parameters.length) = some 0 := by decide +kernel
theorem dX13_beginText_0 : decode cX13_beginText 0 = .ok (.aload_n 0, 1) := by decide +kernel
theorem dX13_beginText_1 : decode cX13_beginText 1 = .ok (.iload_n 1, 1) := by decide +kernel
theorem dX13_beginText_2 : decode cX13_beginText 2 = .ok (.putfield 315, 3) := by decide +kernel
theorem dX13_beginText_5 : decode cX13_beginText 5 = .ok (.aload_n 0, 1) := by decide +kernel
theorem dX13_beginText_6 : decode cX13_beginText 6 = .ok (.invokevirtual 366, 3) := by decide +kernel
theorem dX13_beginText_9 : decode cX13_beginText 9 = .ok (.aload_n 0, 1) := by decide +kernel
theorem dX13_beginText_10 : decode cX13_beginText 10 = .ok (.iconst 0, 1) := by decide +kernel
theorem dX13_beginText_11 : decode cX13_beginText 11 = .ok (.putfield 369, 3) := by decide +kernel
theorem dX13_beginText_14 : decode cX13_beginText 14 = .ok (.aload_n 0, 1) := by decide +kernel
theorem dX13_beginText_15 : decode cX13_beginText 15 = .ok (.iconst 0, 1) := by decide +kernel
theorem dX13_beginText_16 : decode cX13_beginText 16 = .ok (.putfield 275, 3) := by decide +kernel
theorem dX13_beginText_19 : decode cX13_beginText 19 = .ok (.aload_n 0, 1) := by decide +kernel
theorem dX13_beginText_20 : decode cX13_beginText 20 = .ok (.iconst 0, 1) := by decide +kernel
theorem dX13_beginText_21 : decode cX13_beginText 21 = .ok (.putfield 306, 3) := by decide +kernel
theorem dX13_beginText_24 : decode cX13_beginText 24 = .ok (.return_, 1) := by decide +kernel
set_option maxHeartbeats 4000000 in
set_option maxRecDepth 100000 in
theorem k_X13_beginText (l : Launch) (D : va_G) (cy : Nat → ClassId) (ld ad : Nat → Nat) (am : Nat) (hD : mz_D ad am) (Fa : Nat → Int32) (Ga : Nat → Int64) (Ra : Nat → Nat → Int32) (Sa : Nat → Nat → Int64) (p1 : Int32) (gp : Int32) (hIF : mz_IF true Fa) (hIG : mz_IG Ga) (hIR : mz_IR [] true Ra) (hg_0 : Fa 13 = gp) (hp_0 : 0 ≤ p1.toInt) (hp_1 : p1.toInt ≤ 1) : Met l yX13_beginText (wl yX13_beginText cX13_beginText 2 none) ({ frames := 6, cells := 0, slots := 0, locals := 350 }) (mz_p D cy ld ad am Fa Ga Ra Sa [.ref am, .int p1]) (mz_w D cy ad am (fun F G R S => mz_IF false F ∧ mz_IG G ∧ mz_IR [] true R ∧ (∀ k : Nat, k ∉ ([14, 15, 16, 18, 19, 20, 21, 23, 26] : List Nat) → F k = Fa k) ∧ (∀ k : Nat, k ∉ ([] : List Nat) → R k = Ra k) ∧ (∀ k : Nat, k ∉ ([17] : List Nat) → G k = Ga k) ∧ 0 ≤ (-1) * (F 14).toInt + (F 15).toInt ∧ 0 ≤ gp.toInt + (-1) * (F 15).toInt ∧ (1 ≤ (F 16).toInt → 0 ≤ (-1) * (F 14).toInt + (F 15).toInt + (-1)) ∧ (27 ≤ (G 17).toInt → 1 ≤ (F 16).toInt → (F 16).toInt ≤ 1 → 0 ≤ (-1) * (F 14).toInt + (F 15).toInt + (-2)) ∧ (F 19).toInt = 0 ∧ (F 23).toInt = 0 ∧ (F 21).toInt = 0)) 0 0 (mz_W ad am) := by
  refine mz_met (y := yX13_beginText) (cc := cX13_beginText) (maxL := 2) (ret := none) (av := [.ref am, .int p1]) _ (by decide) (Nat.le_of_ble_eq_true rfl) ?_
  intro p e s m args below meth c hx hb hr hml hts htl hown hlocks hK H locs hM hS ls hl
  have hown : s.vm.findClass RX13 = some m.cls := hown
  have hl : lv_has ls 2 [(0, .ref am), (1, .int p1)] := hl
  have hr_p1 := tk_rng p1
  have hq_gp := tk_rng gp
  have hr_gp : 0 ≤ gp.toInt ∧ gp.toInt ≤ 400 := hIF.at hg_0
  refine lv_aload_n hx hb dX13_beginText_0 rfl (lv_at hl 0 rfl) ?_
  refine lv_iload_n hx hb dX13_beginText_1 rfl (lv_at hl 1 rfl) ?_
  refine mz_putI (ty := .boolean) (x := p1) hx hb htl hown hK hD hM hS 20 (Nat.le_of_ble_eq_true rfl) rfl (htl _ mw_675) (fun _ h9 => h9) rfl (tyX13_ok 20 (by decide)) (tk_nz (by omega) (by omega)) (tk_fz (by omega) (by omega)) dX13_beginText_2 (fun H locs F hM hS hf9 hj9 => ?_)
  have hIF := hIF.put20 hf9 hj9 (show 0 ≤ (p1 : Int32).toInt by omega) (show (p1 : Int32).toInt ≤ 1 by omega)
  have hFF := mz_frp (K := [14, 15, 16, 18, 19, 20, 21, 23, 26]) (Fa := Fa) hj9 (fun _ _ => rfl) (by decide)
  have hg_0 := (hj9 13 (by decide)).trans hg_0
  have hf2 := hf9
  refine lv_aload_n hx hb dX13_beginText_5 rfl (lv_at hl 0 rfl) ?_
  refine mz_Vv (As := []) (rest := []) ⟨hx, hb, hml, hown, hts⟩ hK hM hS (k_X13_begin1 l D cy ld ad am hD _ _ _ _ gp hIF hIG hIR hg_0) ⟨callB_of 0 hts (wl_in mw_680) rfl rfl rfl (htl _ mw_5) (htl _ mw_677) hd_yX13_begin1 ⟨(Nat.le_of_ble_eq_true rfl), (Nat.le_of_ble_eq_true rfl)⟩, htl _ mw_678, htl _ mw_679⟩ rfl hl.1 rfl (Nat.le_of_ble_eq_true rfl) dX13_beginText_6 ⟨(Nat.le_of_ble_eq_true rfl), (Nat.le_of_ble_eq_true rfl)⟩ (fun H locs F G R S hpo hM hS => ?_)
  obtain ⟨hIF, hIG, hIR, hfr9, hrr9, hgr9, hpo3, hpo4, hpo5, hpo6, hpo10⟩ := hpo
  have hFF := mz_fr (K := [14, 15, 16, 18, 19, 20, 21, 23, 26]) (Fa := Fa) hfr9 hFF (by decide)
  have hRR := mz_fr (K := []) (Fa := Ra) hrr9 (fun _ _ => rfl) (by decide)
  have hGG := mz_fr (K := [17]) (Fa := Ga) hgr9 (fun _ _ => rfl) (by decide)
  have hg_0 := (hfr9 13 (by decide)).trans hg_0
  have hf2 := (hfr9 20 (by decide)).trans hf2
  obtain ⟨v13, hf12⟩ : ∃ z : Int32, F 14 = z := ⟨_, rfl⟩
  have hq_v13 := tk_rng v13
  rw [hf12] at hpo3 hpo5 hpo6
  have hr_v13 : 0 ≤ v13.toInt ∧ v13.toInt ≤ 400 := hIF.at hf12
  obtain ⟨v15, hf14⟩ : ∃ z : Int32, F 15 = z := ⟨_, rfl⟩
  have hq_v15 := tk_rng v15
  rw [hf14] at hpo3 hpo4 hpo5 hpo6
  have hr_v15 : 0 ≤ v15.toInt ∧ v15.toInt ≤ 400 := hIF.at hf14
  obtain ⟨v17, hf16⟩ : ∃ z : Int32, F 16 = z := ⟨_, rfl⟩
  have hq_v17 := tk_rng v17
  rw [hf16] at hpo5 hpo6
  have hr_v17 : 0 ≤ v17.toInt ∧ v17.toInt ≤ 3 := hIF.at hf16
  obtain ⟨w19, hf18⟩ : ∃ z : Int64, G 17 = z := ⟨_, rfl⟩
  have hq_w19 := tk_rngL w19
  rw [hf18] at hpo6
  obtain ⟨v21, hf20⟩ : ∃ z : Int32, F 19 = z := ⟨_, rfl⟩
  have hq_v21 := tk_rng v21
  rw [hf20] at hpo10
  have hr_v21 : 0 ≤ v21.toInt ∧ v21.toInt ≤ 1 := hIF.at hf20
  refine lv_aload_n hx hb dX13_beginText_9 rfl (lv_at hl 0 rfl) ?_
  refine lv_iconst (v := 0) hx hb dX13_beginText_10 (by decide) ?_
  have hk_0 : (0 : Int32).toInt = 0 := by decide
  have hk_0 : (0 : Int32).toInt = 0 := by decide
  refine mz_putI (ty := .int) (x := 0) hx hb htl hown hK hD hM hS 21 (Nat.le_of_ble_eq_true rfl) rfl (htl _ mw_669) (fun _ h9 => h9) rfl (tyX13_ok 21 (by decide)) rfl rfl dX13_beginText_11 (fun H locs F hM hS hf9 hj9 => ?_)
  have hIF := hIF.put hf9 hj9 (show 0 ≤ (0 : Int32).toInt by omega) (show (0 : Int32).toInt ≤ 12 by omega) (by decide)
  have hFF := mz_frp (K := [14, 15, 16, 18, 19, 20, 21, 23, 26]) (Fa := Fa) hj9 hFF (by decide)
  have hg_0 := (hj9 13 (by decide)).trans hg_0
  have hf2 := (hj9 20 (by decide)).trans hf2
  have hf12 := (hj9 14 (by decide)).trans hf12
  have hf14 := (hj9 15 (by decide)).trans hf14
  have hf16 := (hj9 16 (by decide)).trans hf16
  have hf20 := (hj9 19 (by decide)).trans hf20
  have hf23 := hf9
  refine lv_aload_n hx hb dX13_beginText_14 rfl (lv_at hl 0 rfl) ?_
  refine lv_iconst (v := 0) hx hb dX13_beginText_15 (by decide) ?_
  have hk_0 : (0 : Int32).toInt = 0 := by decide
  have hk_0 : (0 : Int32).toInt = 0 := by decide
  refine mz_putI (ty := .int) (x := 0) hx hb htl hown hK hD hM hS 23 (Nat.le_of_ble_eq_true rfl) rfl (htl _ mw_670) (fun _ h9 => h9) rfl (tyX13_ok 23 (by decide)) rfl rfl dX13_beginText_16 (fun H locs F hM hS hf9 hj9 => ?_)
  have hIF := hIF.put hf9 hj9 (show 0 ≤ (0 : Int32).toInt by omega) (show (0 : Int32).toInt ≤ 400 by omega) (by decide)
  have hFF := mz_frp (K := [14, 15, 16, 18, 19, 20, 21, 23, 26]) (Fa := Fa) hj9 hFF (by decide)
  have hg_0 := (hj9 13 (by decide)).trans hg_0
  have hf2 := (hj9 20 (by decide)).trans hf2
  have hf12 := (hj9 14 (by decide)).trans hf12
  have hf14 := (hj9 15 (by decide)).trans hf14
  have hf16 := (hj9 16 (by decide)).trans hf16
  have hf20 := (hj9 19 (by decide)).trans hf20
  have hf23 := (hj9 21 (by decide)).trans hf23
  have hf25 := hf9
  refine lv_aload_n hx hb dX13_beginText_19 rfl (lv_at hl 0 rfl) ?_
  refine lv_iconst (v := 0) hx hb dX13_beginText_20 (by decide) ?_
  have hk_0 : (0 : Int32).toInt = 0 := by decide
  have hk_0 : (0 : Int32).toInt = 0 := by decide
  refine mz_putI (ty := .int) (x := 0) hx hb htl hown hK hD hM hS 26 (Nat.le_of_ble_eq_true rfl) rfl (htl _ mw_676) (fun _ h9 => h9) rfl (tyX13_ok 26 (by decide)) rfl rfl dX13_beginText_21 (fun H locs F hM hS hf9 hj9 => ?_)
  have hIF := hIF.put hf9 hj9 (show 0 ≤ (0 : Int32).toInt by omega) (show (0 : Int32).toInt ≤ 50 by omega) (by decide)
  have hFF := mz_frp (K := [14, 15, 16, 18, 19, 20, 21, 23, 26]) (Fa := Fa) hj9 hFF (by decide)
  have hg_0 := (hj9 13 (by decide)).trans hg_0
  have hf2 := (hj9 20 (by decide)).trans hf2
  have hf12 := (hj9 14 (by decide)).trans hf12
  have hf14 := (hj9 15 (by decide)).trans hf14
  have hf16 := (hj9 16 (by decide)).trans hf16
  have hf20 := (hj9 19 (by decide)).trans hf20
  have hf23 := (hj9 21 (by decide)).trans hf23
  have hf25 := (hj9 23 (by decide)).trans hf25
  have hf27 := hf9
  have hk_0 : (0 : Int32).toInt = 0 := by decide
  have hk_0 : (0 : Int32).toInt = 0 := by decide
  exact mz_vret hx hb hr hlocks ⟨hIF, hIG, hIR, hFF, hRR, hGG, (by rw [hf12, hf14]; omega), (by rw [hf14]; omega), (by rw [hf12, hf14, hf16]; omega), (by rw [hf12, hf14, hf16, hf18]; omega), (by rw [hf20]; omega), (by rw [hf25]; omega), (by rw [hf23]; omega)⟩ hM hS dX13_beginText_24
