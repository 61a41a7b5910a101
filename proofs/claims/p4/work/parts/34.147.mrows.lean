theorem dX13_sumOf_0 : decode cX13_sumOf 0 = .ok (.aload_n 0, 1) := by decide +kernel
theorem dX13_sumOf_1 : decode cX13_sumOf 1 = .ok (.getfield 614, 3) := by decide +kernel
theorem dX13_sumOf_4 : decode cX13_sumOf 4 = .ok (.ifCond .ne 20, 3) := by decide +kernel
theorem dX13_sumOf_24 : decode cX13_sumOf 24 = .ok (.iconst (-1), 1) := by decide +kernel
theorem dX13_sumOf_25 : decode cX13_sumOf 25 = .ok (.ireturn, 1) := by decide +kernel
theorem dX13_sumOf_7 : decode cX13_sumOf 7 = .ok (.aload_n 0, 1) := by decide +kernel
theorem dX13_sumOf_8 : decode cX13_sumOf 8 = .ok (.getfield 149, 3) := by decide +kernel
theorem dX13_sumOf_11 : decode cX13_sumOf 11 = .ok (.iload_n 1, 1) := by decide +kernel
theorem dX13_sumOf_12 : decode cX13_sumOf 12 = .ok (.iaload, 1) := by decide +kernel
theorem dX13_sumOf_13 : decode cX13_sumOf 13 = .ok (.aload_n 0, 1) := by decide +kernel
theorem dX13_sumOf_14 : decode cX13_sumOf 14 = .ok (.getfield 149, 3) := by decide +kernel
theorem dX13_sumOf_17 : decode cX13_sumOf 17 = .ok (.iload_n 1, 1) := by decide +kernel
theorem dX13_sumOf_18 : decode cX13_sumOf 18 = .ok (.iconst 1, 1) := by decide +kernel
theorem dX13_sumOf_19 : decode cX13_sumOf 19 = .ok (.iadd, 1) := by decide +kernel
theorem dX13_sumOf_20 : decode cX13_sumOf 20 = .ok (.iaload, 1) := by decide +kernel
theorem dX13_sumOf_21 : decode cX13_sumOf 21 = .ok (.if_icmp .ne 5, 3) := by decide +kernel
theorem dX13_sumOf_26 : decode cX13_sumOf 26 = .ok (.aload_n 0, 1) := by decide +kernel
theorem dX13_sumOf_27 : decode cX13_sumOf 27 = .ok (.iconst 1, 1) := by decide +kernel
theorem dX13_sumOf_28 : decode cX13_sumOf 28 = .ok (.putfield 315, 3) := by decide +kernel
theorem dX13_sumOf_31 : decode cX13_sumOf 31 = .ok (.aload_n 0, 1) := by decide +kernel
theorem dX13_sumOf_32 : decode cX13_sumOf 32 = .ok (.aload_n 0, 1) := by decide +kernel
theorem dX13_sumOf_33 : decode cX13_sumOf 33 = .ok (.getfield 149, 3) := by decide +kernel
theorem dX13_sumOf_36 : decode cX13_sumOf 36 = .ok (.iload_n 1, 1) := by decide +kernel
theorem dX13_sumOf_37 : decode cX13_sumOf 37 = .ok (.iaload, 1) := by decide +kernel
theorem dX13_sumOf_38 : decode cX13_sumOf 38 = .ok (.aload_n 0, 1) := by decide +kernel
theorem dX13_sumOf_39 : decode cX13_sumOf 39 = .ok (.getfield 149, 3) := by decide +kernel
theorem dX13_sumOf_42 : decode cX13_sumOf 42 = .ok (.iload_n 1, 1) := by decide +kernel
theorem dX13_sumOf_43 : decode cX13_sumOf 43 = .ok (.iconst 1, 1) := by decide +kernel
theorem dX13_sumOf_44 : decode cX13_sumOf 44 = .ok (.iadd, 1) := by decide +kernel
theorem dX13_sumOf_45 : decode cX13_sumOf 45 = .ok (.iaload, 1) := by decide +kernel
theorem dX13_sumOf_46 : decode cX13_sumOf 46 = .ok (.invokevirtual 403, 3) := by decide +kernel
theorem dX13_sumOf_49 : decode cX13_sumOf 49 = .ok (.aload_n 0, 1) := by decide +kernel
theorem dX13_sumOf_50 : decode cX13_sumOf 50 = .ok (.iconst 0, 1) := by decide +kernel
theorem dX13_sumOf_51 : decode cX13_sumOf 51 = .ok (.putfield 315, 3) := by decide +kernel
theorem dX13_sumOf_54 : decode cX13_sumOf 54 = .ok (.aload_n 0, 1) := by decide +kernel
theorem dX13_sumOf_55 : decode cX13_sumOf 55 = .ok (.aload_n 0, 1) := by decide +kernel
theorem dX13_sumOf_56 : decode cX13_sumOf 56 = .ok (.getfield 386, 3) := by decide +kernel
theorem dX13_sumOf_59 : decode cX13_sumOf 59 = .ok (.putfield 614, 3) := by decide +kernel
theorem dX13_sumOf_62 : decode cX13_sumOf 62 = .ok (.aload_n 0, 1) := by decide +kernel
theorem dX13_sumOf_63 : decode cX13_sumOf 63 = .ok (.getfield 400, 3) := by decide +kernel
theorem dX13_sumOf_66 : decode cX13_sumOf 66 = .ok (.l2i, 1) := by decide +kernel
theorem dX13_sumOf_67 : decode cX13_sumOf 67 = .ok (.ireturn, 1) := by decide +kernel
set_option maxHeartbeats 4000000 in
set_option maxRecDepth 100000 in
theorem k_X13_sumOf (l : Launch) (D : va_G) (cy : Nat → ClassId) (ld ad : Nat → Nat) (am : Nat) (hD : mz_D ad am) (Fa : Nat → Int32) (Ga : Nat → Int64) (Ra : Nat → Nat → Int32) (Sa : Nat → Nat → Int64) (p1 : Int32) (hIF : mz_IF true Fa) (hIG : mz_IG Ga) (hIR : mz_IR [] true Ra) (hp_0 : 0 ≤ p1.toInt) (hp_1 : p1.toInt ≤ 118) (hx_0 : WFX (Ra 24) (Ra 25) (Ra 61 p1.toInt.toNat) (Ra 61 (p1.toInt.toNat + 1))) : Met l yX13_sumOf (wl yX13_sumOf cX13_sumOf 2 (some .int)) ({ frames := 6, cells := 0, slots := 0, locals := 350 }) (mz_p D cy ld ad am Fa Ga Ra Sa [.ref am, .int p1]) (mz_i D cy ad am (fun r F G R S => mz_IF true F ∧ mz_IG G ∧ mz_IR [] true R ∧ (∀ k : Nat, k ∉ ([20, 38, 65] : List Nat) → F k = Fa k) ∧ (∀ k : Nat, k ∉ ([] : List Nat) → R k = Ra k) ∧ (∀ k : Nat, k ∉ ([39] : List Nat) → G k = Ga k))) 0 0 (mz_W ad am) := by
  refine mz_met (y := yX13_sumOf) (cc := cX13_sumOf) (maxL := 2) (ret := (some .int)) (av := [.ref am, .int p1]) _ (by decide) (Nat.le_of_ble_eq_true rfl) ?_
  intro p e s m args below meth c hx hb hr hml hts htl hown hlocks hK H locs hM hS ls hl
  have hown : s.vm.findClass RX13 = some m.cls := hown
  have hl : lv_has ls 2 [(0, .ref am), (1, .int p1)] := hl
  have hr_p1 := tk_rng p1
  refine lv_aload_n hx hb dX13_sumOf_0 rfl (lv_at hl 0 rfl) ?_
  refine mz_getI hx hb htl hown hK hM 65 (Nat.le_of_ble_eq_true rfl) rfl (htl _ mw_1038) (fun _ h9 => h9) dX13_sumOf_1 (fun v2 hf1 => ?_)
  have hq_v2 := tk_rng v2
  have hr_v2 : 0 ≤ v2.toInt ∧ v2.toInt ≤ 1 := hIF.at hf1
  refine lv_if_ne (tgt := 24) hx hb dX13_sumOf_4 (by decide) (fun c9 => ?_) (fun c9 => ?_)
  · have hc3 : ¬ (v2.toInt = 0) := fun h9 => c9 ((fi_eq rfl (show (0 : Int32).toInt = 0 by decide)).mpr h9)
    refine lv_iconst (v := (-1)) hx hb dX13_sumOf_24 (by decide) ?_
    have hk_m1 : ((-1) : Int32).toInt = (-1) := by decide
    exact mz_iret (v := (-1)) hx hb hr rfl hlocks ⟨hIF, hIG, hIR, (fun _ _ => rfl), (fun _ _ => rfl), (fun _ _ => rfl)⟩ hM hS dX13_sumOf_25
  · have hc3 : v2.toInt = 0 := (fi_eq rfl (show (0 : Int32).toInt = 0 by decide)).mp c9
    refine lv_aload_n hx hb dX13_sumOf_7 rfl (lv_at hl 0 rfl) ?_
    refine mz_getR hx hb htl hown hK hM 61 (Nat.le_of_ble_eq_true rfl) (Nat.le_of_ble_eq_true rfl) (htl _ mw_239) (fun _ h9 => h9) dX13_sumOf_8 ?_
    refine lv_iload_n hx hb dX13_sumOf_11 rfl (lv_at hl 1 rfl) ?_
    refine mz_iald hx hb hK hM 61 (Nat.le_of_ble_eq_true rfl) rfl (nn := 120) rfl rfl (by omega) (by omega) dX13_sumOf_12 (fun v4 e_v4 => ?_)
    have hq_v4 := tk_rng v4
    refine lv_aload_n hx hb dX13_sumOf_13 rfl (lv_at hl 0 rfl) ?_
    refine mz_getR hx hb htl hown hK hM 61 (Nat.le_of_ble_eq_true rfl) (Nat.le_of_ble_eq_true rfl) (htl _ mw_239) (fun _ h9 => h9) dX13_sumOf_14 ?_
    refine lv_iload_n hx hb dX13_sumOf_17 rfl (lv_at hl 1 rfl) ?_
    refine lv_iconst (v := 1) hx hb dX13_sumOf_18 (by decide) ?_
    refine lv_iadd hx hb dX13_sumOf_19 ?_
    refine tk_add rfl (show (1 : Int32).toInt = 1 by decide) (by omega) (by omega) (fun v5 h_v5 => ?_)
    refine mz_iald hx hb hK hM 61 (Nat.le_of_ble_eq_true rfl) rfl (nn := 120) rfl rfl (by omega) (by omega) dX13_sumOf_20 (fun v6 e_v6 => ?_)
    have hq_v6 := tk_rng v6
    refine lv_icmp_ne (tgt := 26) hx hb dX13_sumOf_21 (by decide) (fun c9 => ?_) (fun c9 => ?_)
    · have hc10 : ¬ (v4.toInt = v6.toInt) := fun h9 => c9 ((fi_eq rfl rfl).mpr h9)
      refine lv_aload_n hx hb dX13_sumOf_26 rfl (lv_at hl 0 rfl) ?_
      refine lv_iconst (v := 1) hx hb dX13_sumOf_27 (by decide) ?_
      have hk_1 : (1 : Int32).toInt = 1 := by decide
      have hk_1 : (1 : Int32).toInt = 1 := by decide
      refine mz_putI (ty := .boolean) (x := 1) hx hb htl hown hK hD hM hS 20 (Nat.le_of_ble_eq_true rfl) rfl (htl _ mw_675) (fun _ h9 => h9) rfl (tyX13_ok 20 (by decide)) rfl rfl dX13_sumOf_28 (fun H locs F hM hS hf9 hj9 => ?_)
      have hIF := hIF.put20 hf9 hj9 (show 0 ≤ (1 : Int32).toInt by omega) (show (1 : Int32).toInt ≤ 1 by omega)
      have hFF := mz_frp (K := [20, 38, 65]) (Fa := Fa) hj9 (fun _ _ => rfl) (by decide)
      have hf1 := (hj9 65 (by decide)).trans hf1
      have hf12 := hf9
      refine lv_aload_n hx hb dX13_sumOf_31 rfl (lv_at hl 0 rfl) ?_
      refine lv_aload_n hx hb dX13_sumOf_32 rfl (lv_at hl 0 rfl) ?_
      refine mz_getR hx hb htl hown hK hM 61 (Nat.le_of_ble_eq_true rfl) (Nat.le_of_ble_eq_true rfl) (htl _ mw_239) (fun _ h9 => h9) dX13_sumOf_33 ?_
      refine lv_iload_n hx hb dX13_sumOf_36 rfl (lv_at hl 1 rfl) ?_
      refine mz_iald hx hb hK hM 61 (Nat.le_of_ble_eq_true rfl) rfl (nn := 120) rfl rfl (by omega) (by omega) dX13_sumOf_37 (fun v9 e9 => ?_)
      refine fx_ti (v := v4) (e9.symm.trans e_v4) ?_
      refine lv_aload_n hx hb dX13_sumOf_38 rfl (lv_at hl 0 rfl) ?_
      refine mz_getR hx hb htl hown hK hM 61 (Nat.le_of_ble_eq_true rfl) (Nat.le_of_ble_eq_true rfl) (htl _ mw_239) (fun _ h9 => h9) dX13_sumOf_39 ?_
      refine lv_iload_n hx hb dX13_sumOf_42 rfl (lv_at hl 1 rfl) ?_
      refine lv_iconst (v := 1) hx hb dX13_sumOf_43 (by decide) ?_
      refine lv_iadd hx hb dX13_sumOf_44 ?_
      refine tk_add rfl (show (1 : Int32).toInt = 1 by decide) (by omega) (by omega) (fun v13 h_v13 => ?_)
      refine mz_iald hx hb hK hM 61 (Nat.le_of_ble_eq_true rfl) rfl (nn := 120) rfl rfl (by omega) (by omega) dX13_sumOf_45 (fun v9 e9 => ?_)
      have e_v6_v13 : Ra 61 (v13 : Int32).toNatClampNeg = v6 := by rw [(fi_eq rfl rfl).mpr (show v13.toInt = v5.toInt by omega)]; exact e_v6
      refine fx_ti (v := v6) (e9.symm.trans e_v6_v13) ?_
      obtain ⟨v15, hf14⟩ : ∃ z : Int32, F 34 = z := ⟨_, rfl⟩
      have hq_v15 := tk_rng v15
      have hr_v15 : 0 ≤ v15.toInt ∧ v15.toInt ≤ 4660 := hIF.at hf14
      have hk_1 : (1 : Int32).toInt = 1 := by decide
      refine mz_Vv (As := [.int v4, .int v6]) (rest := []) ⟨hx, hb, hml, hown, hts⟩ hK hM hS (k_X13_reckonAll l D cy ld ad am hD _ _ _ _ v4 v6 1 v15 (Ra 24) (Ra 25) hIF hIG hIR hf12 hf14 (by have h9 := hx_0; rw [show Ra 61 p1.toInt.toNat = v4 from e_v4, show Ra 61 (p1.toInt.toNat + 1) = v6 by rw [show p1.toInt.toNat + 1 = (v5 : Int32).toNatClampNeg by show _ = v5.toInt.toNat; omega]; exact e_v6] at h9; exact h9) (fun h9 => absurd h9 (by decide)) (fun _ j _ => ⟨rfl, rfl⟩)) ⟨callB_of 2 hts (wl_in mw_1056) rfl rfl rfl (htl _ mw_5) (htl _ mw_1053) hd_yX13_reckonAll ⟨(Nat.le_of_ble_eq_true rfl), (Nat.le_of_ble_eq_true rfl)⟩, htl _ mw_1054, htl _ mw_1055⟩ rfl hl.1 rfl (Nat.le_of_ble_eq_true rfl) dX13_sumOf_46 ⟨(Nat.le_of_ble_eq_true rfl), (Nat.le_of_ble_eq_true rfl)⟩ (fun H locs F G R S hpo hM hS => ?_)
      obtain ⟨hIF, hIG, hIR, hfr9, hrr9, hgr9⟩ := hpo
      have hFF := mz_fr (K := [20, 38, 65]) (Fa := Fa) hfr9 hFF (by decide)
      have hRR := mz_fr (K := []) (Fa := Ra) hrr9 (fun _ _ => rfl) (by decide)
      have hGG := mz_fr (K := [39]) (Fa := Ga) hgr9 (fun _ _ => rfl) (by decide)
      have e_v4 : R 61 (p1 : Int32).toNatClampNeg = _ := (congrFun (hrr9 61 (by decide)) _).trans e_v4
      have e_v6 : R 61 (v5 : Int32).toNatClampNeg = _ := (congrFun (hrr9 61 (by decide)) _).trans e_v6
      have e_v6_v13 : R 61 (v13 : Int32).toNatClampNeg = _ := (congrFun (hrr9 61 (by decide)) _).trans e_v6_v13
      have hf1 := (hfr9 65 (by decide)).trans hf1
      have hf12 := (hfr9 20 (by decide)).trans hf12
      have hf14 := (hfr9 34 (by decide)).trans hf14
      refine lv_aload_n hx hb dX13_sumOf_49 rfl (lv_at hl 0 rfl) ?_
      refine lv_iconst (v := 0) hx hb dX13_sumOf_50 (by decide) ?_
      have hk_0 : (0 : Int32).toInt = 0 := by decide
      have hk_0 : (0 : Int32).toInt = 0 := by decide
      refine mz_putI (ty := .boolean) (x := 0) hx hb htl hown hK hD hM hS 20 (Nat.le_of_ble_eq_true rfl) rfl (htl _ mw_675) (fun _ h9 => h9) rfl (tyX13_ok 20 (by decide)) rfl rfl dX13_sumOf_51 (fun H locs F hM hS hf9 hj9 => ?_)
      have hIF := hIF.put20 hf9 hj9 (show 0 ≤ (0 : Int32).toInt by omega) (show (0 : Int32).toInt ≤ 1 by omega)
      have hIF := hIF.full hf9 (by decide)
      have hFF := mz_frp (K := [20, 38, 65]) (Fa := Fa) hj9 hFF (by decide)
      have hf1 := (hj9 65 (by decide)).trans hf1
      have hf14 := (hj9 34 (by decide)).trans hf14
      have hf18 := hf9
      refine lv_aload_n hx hb dX13_sumOf_54 rfl (lv_at hl 0 rfl) ?_
      refine lv_aload_n hx hb dX13_sumOf_55 rfl (lv_at hl 0 rfl) ?_
      refine mz_getI hx hb htl hown hK hM 38 (Nat.le_of_ble_eq_true rfl) rfl (htl _ mw_1051) (fun _ h9 => h9) dX13_sumOf_56 (fun v20 hf19 => ?_)
      have hq_v20 := tk_rng v20
      have hr_v20 : 0 ≤ v20.toInt ∧ v20.toInt ≤ 1 := hIF.at hf19
      refine mz_putI (ty := .boolean) (x := v20) hx hb htl hown hK hD hM hS 65 (Nat.le_of_ble_eq_true rfl) rfl (htl _ mw_1038) (fun _ h9 => h9) rfl (tyX13_ok 65 (by decide)) (tk_nz (by omega) (by omega)) (tk_fz (by omega) (by omega)) dX13_sumOf_59 (fun H locs F hM hS hf9 hj9 => ?_)
      have hIF := hIF.put hf9 hj9 (show 0 ≤ (v20 : Int32).toInt by omega) (show (v20 : Int32).toInt ≤ 1 by omega) (by decide)
      have hFF := mz_frp (K := [20, 38, 65]) (Fa := Fa) hj9 hFF (by decide)
      have hf14 := (hj9 34 (by decide)).trans hf14
      have hf18 := (hj9 20 (by decide)).trans hf18
      have hf19 := (hj9 38 (by decide)).trans hf19
      have hf22 := hf9
      refine lv_aload_n hx hb dX13_sumOf_62 rfl (lv_at hl 0 rfl) ?_
      refine mz_getJ hx hb htl hown hK hM 39 (Nat.le_of_ble_eq_true rfl) rfl (htl _ mw_1052) (fun _ h9 => h9) dX13_sumOf_63 (fun w23 e_w23 => ?_)
      have hr_w23 := tk_rngL w23
      obtain ⟨v24, e_v24⟩ : ∃ z : Int32, w23.toInt32 = z := ⟨_, rfl⟩
      refine lv_l2i (v := v24) hx hb dX13_sumOf_66 e_v24 ?_
      have hq_v24 := tk_rng v24
      have hl_v24 : -2147483648 ≤ w23.toInt → w23.toInt ≤ 2147483647 → v24.toInt = w23.toInt := fun h1 h2 => e_v24 ▸ tk_l2i h1 h2
      exact mz_iret (v := v24) hx hb hr rfl hlocks ⟨hIF, hIG, hIR, hFF, hRR, hGG⟩ hM hS dX13_sumOf_67
    · have hc10 : v4.toInt = v6.toInt := (fi_eq rfl rfl).mp c9
      refine lv_iconst (v := (-1)) hx hb dX13_sumOf_24 (by decide) ?_
      have hk_m1 : ((-1) : Int32).toInt = (-1) := by decide
      exact mz_iret (v := (-1)) hx hb hr rfl hlocks ⟨hIF, hIG, hIR, (fun _ _ => rfl), (fun _ _ => rfl), (fun _ _ => rfl)⟩ hM hS dX13_sumOf_25
