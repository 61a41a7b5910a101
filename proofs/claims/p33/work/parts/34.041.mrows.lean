theorem dX13_must_0 : decode cX13_must 0 = .ok (.aload_n 0, 1) := by decide +kernel
theorem dX13_must_1 : decode cX13_must 1 = .ok (.getfield 236, 3) := by decide +kernel
theorem dX13_must_4 : decode cX13_must 4 = .ok (.ifCond .ne 20, 3) := by decide +kernel
theorem dX13_must_24 : decode cX13_must 24 = .ok (.aload_n 0, 1) := by decide +kernel
theorem dX13_must_25 : decode cX13_must 25 = .ok (.getfield 236, 3) := by decide +kernel
theorem dX13_must_28 : decode cX13_must 28 = .ok (.ifCond .ne 7, 3) := by decide +kernel
theorem dX13_must_35 : decode cX13_must 35 = .ok (.return_, 1) := by decide +kernel
theorem dX13_must_7 : decode cX13_must 7 = .ok (.iload_n 1, 1) := by decide +kernel
theorem dX13_must_8 : decode cX13_must 8 = .ok (.ifCond .ne 16, 3) := by decide +kernel
theorem dX13_must_31 : decode cX13_must 31 = .ok (.aload_n 0, 1) := by decide +kernel
theorem dX13_must_32 : decode cX13_must 32 = .ok (.invokevirtual 240, 3) := by decide +kernel
theorem dX13_must_11 : decode cX13_must 11 = .ok (.aload_n 0, 1) := by decide +kernel
theorem dX13_must_12 : decode cX13_must 12 = .ok (.iconst 1, 1) := by decide +kernel
theorem dX13_must_13 : decode cX13_must 13 = .ok (.putfield 236, 3) := by decide +kernel
theorem dX13_must_16 : decode cX13_must 16 = .ok (.aload_n 0, 1) := by decide +kernel
theorem dX13_must_17 : decode cX13_must 17 = .ok (.aload_n 0, 1) := by decide +kernel
theorem dX13_must_18 : decode cX13_must 18 = .ok (.getfield 243, 3) := by decide +kernel
theorem dX13_must_21 : decode cX13_must 21 = .ok (.putfield 38, 3) := by decide +kernel
set_option maxHeartbeats 4000000 in
set_option maxRecDepth 100000 in
theorem k_X13_must (l : Launch) (D : va_G) (cy : Nat → ClassId) (ld ad : Nat → Nat) (am : Nat) (hD : mz_D ad am) (Fa : Nat → Int32) (Ga : Nat → Int64) (Ra : Nat → Nat → Int32) (Sa : Nat → Nat → Int64) (p1 : Int32) (gf : Int32) (gt : Int32) (gs : Int32) (gp : Int32) (gw : Int64) (gb : Int32) (hIF : mz_IF false Fa) (hIG : mz_IG Ga) (hIR : mz_IR [] true Ra) (hg_0 : Fa 14 = gf) (hg_1 : Fa 15 = gt) (hg_2 : Fa 16 = gs) (hg_3 : Fa 13 = gp) (hg_4 : Ga 17 = gw) (hg_5 : Fa 19 = gb) (hp_0 : 0 ≤ p1.toInt) (hp_1 : p1.toInt ≤ 1) (hp_2 : 0 ≤ (-1) * gf.toInt + gt.toInt) (hp_3 : 0 ≤ gp.toInt + (-1) * gt.toInt) (hp_4 : (1 ≤ gs.toInt → 0 ≤ (-1) * gf.toInt + gt.toInt + (-1))) (hp_5 : (27 ≤ gw.toInt → 1 ≤ gs.toInt → gs.toInt ≤ 1 → 0 ≤ (-1) * gf.toInt + gt.toInt + (-2))) : Met l yX13_must (wl yX13_must cX13_must 2 none) ({ frames := 5, cells := 0, slots := 0, locals := 280 }) (mz_p D cy ld ad am Fa Ga Ra Sa [.ref am, .int p1]) (mz_w D cy ad am (fun F G R S => mz_IF false F ∧ mz_IG G ∧ mz_IR [] true R ∧ (∀ k : Nat, k ∉ ([14, 15, 16, 18, 19] : List Nat) → F k = Fa k) ∧ (∀ k : Nat, k ∉ ([] : List Nat) → R k = Ra k) ∧ (∀ k : Nat, k ∉ ([17] : List Nat) → G k = Ga k) ∧ 0 ≤ (-1) * (F 14).toInt + (F 15).toInt ∧ 0 ≤ gp.toInt + (-1) * (F 15).toInt ∧ (1 ≤ (F 16).toInt → 0 ≤ (-1) * (F 14).toInt + (F 15).toInt + (-1)) ∧ (27 ≤ (G 17).toInt → 1 ≤ (F 16).toInt → (F 16).toInt ≤ 1 → 0 ≤ (-1) * (F 14).toInt + (F 15).toInt + (-2)) ∧ 0 ≤ (-1) * gf.toInt + (F 14).toInt ∧ 0 ≤ (-1) * gb.toInt + (F 19).toInt ∧ ((F 19).toInt ≤ 0 → 0 ≤ (-1) * gt.toInt + (F 14).toInt ∧ 1 ≤ p1.toInt ∧ gb.toInt ≤ 0) ∧ (1 ≤ p1.toInt → gb.toInt ≤ 0 → (F 19).toInt ≤ 0))) 0 0 (mz_W ad am) := by
  refine mz_met (y := yX13_must) (cc := cX13_must) (maxL := 2) (ret := none) (av := [.ref am, .int p1]) _ (by decide) (Nat.le_of_ble_eq_true rfl) ?_
  intro p e s m args below meth c hx hb hr hml hts htl hown hlocks hK H locs hM hS ls hl
  have hown : s.vm.findClass RX13 = some m.cls := hown
  have hl : lv_has ls 2 [(0, .ref am), (1, .int p1)] := hl
  have hr_p1 := tk_rng p1
  have hq_gf := tk_rng gf
  have hq_gt := tk_rng gt
  have hq_gs := tk_rng gs
  have hq_gp := tk_rng gp
  have hq_gw := tk_rngL gw
  have hq_gb := tk_rng gb
  have hr_gf : 0 ≤ gf.toInt ∧ gf.toInt ≤ 400 := hIF.at hg_0
  have hr_gt : 0 ≤ gt.toInt ∧ gt.toInt ≤ 400 := hIF.at hg_1
  have hr_gs : 0 ≤ gs.toInt ∧ gs.toInt ≤ 3 := hIF.at hg_2
  have hr_gp : 0 ≤ gp.toInt ∧ gp.toInt ≤ 400 := hIF.at hg_3
  have hr_gb : 0 ≤ gb.toInt ∧ gb.toInt ≤ 1 := hIF.at hg_5
  refine lv_aload_n hx hb dX13_must_0 rfl (lv_at hl 0 rfl) ?_
  refine mz_getI hx hb htl hown hK hM 19 (Nat.le_of_ble_eq_true rfl) rfl (htl _ mw_668) (fun _ h9 => h9) dX13_must_1 (fun v9 e9 => ?_)
  refine fx_ti (v := gb) (e9.symm.trans hg_5) ?_
  refine lv_if_ne (tgt := 24) hx hb dX13_must_4 (by decide) (fun c9 => ?_) (fun c9 => ?_)
  · have hc1 : ¬ (gb.toInt = 0) := fun h9 => c9 ((fi_eq rfl (show (0 : Int32).toInt = 0 by decide)).mpr h9)
    refine lv_aload_n hx hb dX13_must_24 rfl (lv_at hl 0 rfl) ?_
    refine mz_getI hx hb htl hown hK hM 19 (Nat.le_of_ble_eq_true rfl) rfl (htl _ mw_668) (fun _ h9 => h9) dX13_must_25 (fun v9 e9 => ?_)
    refine fx_ti (v := gb) (e9.symm.trans hg_5) ?_
    refine lv_if_ne (tgt := 35) hx hb dX13_must_28 (by decide) (fun _ => ?_) (fun c9 => absurd (show gb.toInt = 0 from (fi_eq rfl (show (0 : Int32).toInt = 0 by decide)).mp c9) (by omega))
    exact mz_vret hx hb hr hlocks ⟨hIF, hIG, hIR, (fun _ _ => rfl), (fun _ _ => rfl), (fun _ _ => rfl), (by rw [hg_0, hg_1]; omega), (by rw [hg_1]; omega), (by rw [hg_0, hg_1, hg_2]; omega), (by rw [hg_0, hg_1, hg_2, hg_4]; omega), (by rw [hg_0]; omega), (by rw [hg_5]; omega), (by rw [hg_0, hg_5]; omega), (by rw [hg_5]; omega)⟩ hM hS dX13_must_35
  · have hc1 : gb.toInt = 0 := (fi_eq rfl (show (0 : Int32).toInt = 0 by decide)).mp c9
    refine lv_iload_n hx hb dX13_must_7 rfl (lv_at hl 1 rfl) ?_
    refine lv_if_ne (tgt := 24) hx hb dX13_must_8 (by decide) (fun c9 => ?_) (fun c9 => ?_)
    · have hc2 : ¬ (p1.toInt = 0) := fun h9 => c9 ((fi_eq rfl (show (0 : Int32).toInt = 0 by decide)).mpr h9)
      refine lv_aload_n hx hb dX13_must_24 rfl (lv_at hl 0 rfl) ?_
      refine mz_getI hx hb htl hown hK hM 19 (Nat.le_of_ble_eq_true rfl) rfl (htl _ mw_668) (fun _ h9 => h9) dX13_must_25 (fun v9 e9 => ?_)
      refine fx_ti (v := gb) (e9.symm.trans hg_5) ?_
      refine lv_if_ne (tgt := 35) hx hb dX13_must_28 (by decide) (fun c9 => absurd ((fi_eq rfl (show (0 : Int32).toInt = 0 by decide)).mpr (show gb.toInt = 0 by omega)) c9) (fun _ => ?_)
      refine lv_aload_n hx hb dX13_must_31 rfl (lv_at hl 0 rfl) ?_
      refine mz_Vv (As := []) (rest := []) ⟨hx, hb, hml, hown, hts⟩ hK hM hS (k_X13_next l D cy ld ad am hD _ _ _ _ gt gp hIF hIG hIR hg_1 hg_3 (by omega)) ⟨callB_of 0 hts (wl_in mw_685) rfl rfl rfl (htl _ mw_5) (htl _ mw_682) hd_yX13_next ⟨(Nat.le_of_ble_eq_true rfl), (Nat.le_of_ble_eq_true rfl)⟩, htl _ mw_683, htl _ mw_684⟩ rfl hl.1 rfl (Nat.le_of_ble_eq_true rfl) dX13_must_32 ⟨(Nat.le_of_ble_eq_true rfl), (Nat.le_of_ble_eq_true rfl)⟩ (fun H locs F G R S hpo hM hS => ?_)
      obtain ⟨hIF, hIG, hIR, hfr9, hrr9, hgr9, hpo3, hpo4, hpo5, hpo6, hpo10⟩ := hpo
      have hFF := mz_fr (K := [14, 15, 16, 18, 19]) (Fa := Fa) hfr9 (fun _ _ => rfl) (by decide)
      have hRR := mz_fr (K := []) (Fa := Ra) hrr9 (fun _ _ => rfl) (by decide)
      have hGG := mz_fr (K := [17]) (Fa := Ga) hgr9 (fun _ _ => rfl) (by decide)
      have hg_3 := (hfr9 13 (by decide)).trans hg_3
      have hg_5 := (hfr9 19 (by decide)).trans hg_5
      obtain ⟨v13, hf12⟩ : ∃ z : Int32, F 14 = z := ⟨_, rfl⟩
      have hq_v13 := tk_rng v13
      rw [hf12] at hpo3 hpo4 hpo6 hpo10
      have hr_v13 : 0 ≤ v13.toInt ∧ v13.toInt ≤ 400 := hIF.at hf12
      obtain ⟨v15, hf14⟩ : ∃ z : Int32, F 15 = z := ⟨_, rfl⟩
      have hq_v15 := tk_rng v15
      rw [hf14] at hpo4 hpo5 hpo6 hpo10
      have hr_v15 : 0 ≤ v15.toInt ∧ v15.toInt ≤ 400 := hIF.at hf14
      obtain ⟨v17, hf16⟩ : ∃ z : Int32, F 16 = z := ⟨_, rfl⟩
      have hq_v17 := tk_rng v17
      rw [hf16] at hpo6 hpo10
      have hr_v17 : 0 ≤ v17.toInt ∧ v17.toInt ≤ 3 := hIF.at hf16
      obtain ⟨w19, hf18⟩ : ∃ z : Int64, G 17 = z := ⟨_, rfl⟩
      have hq_w19 := tk_rngL w19
      rw [hf18] at hpo10
      exact mz_vret hx hb hr hlocks ⟨hIF, hIG, hIR, hFF, hRR, hGG, (by rw [hf12, hf14]; omega), (by rw [hf14]; omega), (by rw [hf12, hf14, hf16]; omega), (by rw [hf12, hf14, hf16, hf18]; omega), (by rw [hf12]; omega), (by rw [hg_5]; omega), (by rw [hf12, hg_5]; omega), (by rw [hg_5]; omega)⟩ hM hS dX13_must_35
    · have hc2 : p1.toInt = 0 := (fi_eq rfl (show (0 : Int32).toInt = 0 by decide)).mp c9
      refine lv_aload_n hx hb dX13_must_11 rfl (lv_at hl 0 rfl) ?_
      refine lv_iconst (v := 1) hx hb dX13_must_12 (by decide) ?_
      have hk_1 : (1 : Int32).toInt = 1 := by decide
      have hk_1 : (1 : Int32).toInt = 1 := by decide
      refine mz_putI (ty := .boolean) (x := 1) hx hb htl hown hK hD hM hS 19 (Nat.le_of_ble_eq_true rfl) rfl (htl _ mw_668) (fun _ h9 => h9) rfl (tyX13_ok 19 (by decide)) rfl rfl dX13_must_13 (fun H locs F hM hS hf9 hj9 => ?_)
      have hIF := hIF.put hf9 hj9 (show 0 ≤ (1 : Int32).toInt by omega) (show (1 : Int32).toInt ≤ 1 by omega) (by decide)
      have hFF := mz_frp (K := [14, 15, 16, 18, 19]) (Fa := Fa) hj9 (fun _ _ => rfl) (by decide)
      have hg_0 := (hj9 14 (by decide)).trans hg_0
      have hg_1 := (hj9 15 (by decide)).trans hg_1
      have hg_2 := (hj9 16 (by decide)).trans hg_2
      have hg_3 := (hj9 13 (by decide)).trans hg_3
      have hf21 := hf9
      refine lv_aload_n hx hb dX13_must_16 rfl (lv_at hl 0 rfl) ?_
      refine lv_aload_n hx hb dX13_must_17 rfl (lv_at hl 0 rfl) ?_
      refine mz_getI hx hb htl hown hK hM 14 (Nat.le_of_ble_eq_true rfl) rfl (htl _ mw_686) (fun _ h9 => h9) dX13_must_18 (fun v9 e9 => ?_)
      refine fx_ti (v := gf) (e9.symm.trans hg_0) ?_
      refine mz_putI (ty := .int) (x := gf) hx hb htl hown hK hD hM hS 18 (Nat.le_of_ble_eq_true rfl) rfl (htl _ mw_196) (fun _ h9 => h9) rfl (tyX13_ok 18 (by decide)) rfl rfl dX13_must_21 (fun H locs F hM hS hf9 hj9 => ?_)
      have hIF := hIF.put hf9 hj9 (tk_rng _).1 (tk_rng _).2 (by decide)
      have hFF := mz_frp (K := [14, 15, 16, 18, 19]) (Fa := Fa) hj9 hFF (by decide)
      have hg_0 := (hj9 14 (by decide)).trans hg_0
      have hg_1 := (hj9 15 (by decide)).trans hg_1
      have hg_2 := (hj9 16 (by decide)).trans hg_2
      have hg_3 := (hj9 13 (by decide)).trans hg_3
      have hf21 := (hj9 19 (by decide)).trans hf21
      have hf23 := hf9
      refine lv_aload_n hx hb dX13_must_24 rfl (lv_at hl 0 rfl) ?_
      refine mz_getI hx hb htl hown hK hM 19 (Nat.le_of_ble_eq_true rfl) rfl (htl _ mw_668) (fun _ h9 => h9) dX13_must_25 (fun v9 e9 => ?_)
      refine fx_ti (v := 1) (e9.symm.trans hf21) ?_
      refine lv_if_ne (tgt := 35) hx hb dX13_must_28 (by decide) (fun _ => ?_) (fun c9 => absurd c9 (by decide))
      have hk_1 : (1 : Int32).toInt = 1 := by decide
      exact mz_vret hx hb hr hlocks ⟨hIF, hIG, hIR, hFF, (fun _ _ => rfl), (fun _ _ => rfl), (by rw [hg_0, hg_1]; omega), (by rw [hg_1]; omega), (by rw [hg_0, hg_1, hg_2]; omega), (by rw [hg_0, hg_1, hg_2, hg_4]; omega), (by rw [hg_0]; omega), (by rw [hf21]; omega), (by rw [hg_0, hf21]; omega), (by rw [hf21]; omega)⟩ hM hS dX13_must_35
