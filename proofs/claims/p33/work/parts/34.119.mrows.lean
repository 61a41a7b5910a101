theorem hd_yX13_singIt : yX13_singIt.cls ≠ "java/lang/invoke/MethodHandle" ∧ yX13_singIt.cls ≠ "java/lang/invoke/VarHandle" ∧ (parseMethodDescriptor yX13_singIt.desc).map (fun d => d.parameters.length) = some 1 := by decide +kernel
theorem dX13_singNow_0 : decode cX13_singNow 0 = .ok (.aload_n 0, 1) := by decide +kernel
theorem dX13_singNow_1 : decode cX13_singNow 1 = .ok (.iload_n 1, 1) := by decide +kernel
theorem dX13_singNow_2 : decode cX13_singNow 2 = .ok (.invokevirtual 216, 3) := by decide +kernel
theorem dX13_singNow_5 : decode cX13_singNow 5 = .ok (.ifCond .ne 6, 3) := by decide +kernel
theorem dX13_singNow_11 : decode cX13_singNow 11 = .ok (.aload_n 0, 1) := by decide +kernel
theorem dX13_singNow_12 : decode cX13_singNow 12 = .ok (.invokevirtual 434, 3) := by decide +kernel
theorem dX13_singNow_15 : decode cX13_singNow 15 = .ok (.ifCond .ne 6, 3) := by decide +kernel
theorem dX13_singNow_21 : decode cX13_singNow 21 = .ok (.aload_n 0, 1) := by decide +kernel
theorem dX13_singNow_22 : decode cX13_singNow 22 = .ok (.iload_n 1, 1) := by decide +kernel
theorem dX13_singNow_23 : decode cX13_singNow 23 = .ok (.invokevirtual 437, 3) := by decide +kernel
theorem dX13_singNow_26 : decode cX13_singNow 26 = .ok (.aload_n 0, 1) := by decide +kernel
theorem dX13_singNow_27 : decode cX13_singNow 27 = .ok (.invokevirtual 446, 3) := by decide +kernel
theorem dX13_singNow_30 : decode cX13_singNow 30 = .ok (.ifCond .eq 6, 3) := by decide +kernel
theorem dX13_singNow_36 : decode cX13_singNow 36 = .ok (.aload_n 0, 1) := by decide +kernel
theorem dX13_singNow_37 : decode cX13_singNow 37 = .ok (.iconst 1, 1) := by decide +kernel
theorem dX13_singNow_38 : decode cX13_singNow 38 = .ok (.invokevirtual 455, 3) := by decide +kernel
theorem dX13_singNow_41 : decode cX13_singNow 41 = .ok (.aload_n 0, 1) := by decide +kernel
theorem dX13_singNow_42 : decode cX13_singNow 42 = .ok (.iload_n 1, 1) := by decide +kernel
theorem dX13_singNow_43 : decode cX13_singNow 43 = .ok (.invokevirtual 477, 3) := by decide +kernel
theorem dX13_singNow_46 : decode cX13_singNow 46 = .ok (.ireturn, 1) := by decide +kernel
theorem dX13_singNow_33 : decode cX13_singNow 33 = .ok (.bipush (-3), 2) := by decide +kernel
theorem dX13_singNow_35 : decode cX13_singNow 35 = .ok (.ireturn, 1) := by decide +kernel
theorem dX13_singNow_18 : decode cX13_singNow 18 = .ok (.bipush (-3), 2) := by decide +kernel
theorem dX13_singNow_20 : decode cX13_singNow 20 = .ok (.ireturn, 1) := by decide +kernel
theorem dX13_singNow_8 : decode cX13_singNow 8 = .ok (.bipush (-2), 2) := by decide +kernel
theorem dX13_singNow_10 : decode cX13_singNow 10 = .ok (.ireturn, 1) := by decide +kernel
set_option maxHeartbeats 4000000 in
set_option maxRecDepth 100000 in
theorem k_X13_singNow (l : Launch) (D : va_G) (cy : Nat → ClassId) (ld ad : Nat → Nat) (am : Nat) (hD : mz_D ad am) (Fa : Nat → Int32) (Ga : Nat → Int64) (Ra : Nat → Nat → Int32) (Sa : Nat → Nat → Int64) (p1 : Int32) (hIF : mz_IF true Fa) (hIG : mz_IG Ga) (hIR : mz_IR [] true Ra) : Met l yX13_singNow (wl yX13_singNow cX13_singNow 2 (some .int)) ({ frames := 10, cells := 0, slots := 0, locals := 630 }) (mz_p D cy ld ad am Fa Ga Ra Sa [.ref am, .int p1]) (mz_i D cy ad am (fun r F G R S => mz_IF true F ∧ mz_IG G ∧ mz_IR [] true R ∧ (∀ k : Nat, k ∉ ([8, 34, 38, 41] : List Nat) → F k = Fa k) ∧ (∀ k : Nat, k ∉ ([3, 6, 7] : List Nat) → R k = Ra k) ∧ (∀ k : Nat, k ∉ ([39, 40] : List Nat) → G k = Ga k) ∧ rK1 (Ra 3) (R 3) ∧ (-3) ≤ r.toInt ∧ r.toInt ≤ 999)) 0 0 (mz_W ad am) := by
  refine mz_met (y := yX13_singNow) (cc := cX13_singNow) (maxL := 2) (ret := (some .int)) (av := [.ref am, .int p1]) _ (by decide) (Nat.le_of_ble_eq_true rfl) ?_
  intro p e s m args below meth c hx hb hr hml hts htl hown hlocks hK H locs hM hS ls hl
  have hown : s.vm.findClass RX13 = some m.cls := hown
  have hl : lv_has ls 2 [(0, .ref am), (1, .int p1)] := hl
  have hr_p1 := tk_rng p1
  refine lv_aload_n hx hb dX13_singNow_0 rfl (lv_at hl 0 rfl) ?_
  refine lv_iload_n hx hb dX13_singNow_1 rfl (lv_at hl 1 rfl) ?_
  refine mz_Vj (As := [.int p1]) (rest := []) ⟨hx, hb, hml, hown, hts⟩ hK hM hS (k_X13_isVerse l D cy ld ad am hD _ _ _ _ p1 (hIF.weak) hIG hIR) ⟨callB_of 1 hts (wl_in mw_360) rfl rfl rfl (htl _ mw_5) (htl _ mw_357) hd_yX13_isVerse ⟨(Nat.le_of_ble_eq_true rfl), (Nat.le_of_ble_eq_true rfl)⟩, htl _ mw_358, htl _ mw_359⟩ rfl hl.1 rfl (Nat.le_of_ble_eq_true rfl) dX13_singNow_2 ⟨(Nat.le_of_ble_eq_true rfl), (Nat.le_of_ble_eq_true rfl)⟩ (fun v1 H locs hpo hM hS => ?_)
  obtain ⟨hpo2, hpo3, hpo4, hpo5, hpo6⟩ := hpo
  have hq_v1 := tk_rng v1
  refine lv_if_ne (tgt := 11) hx hb dX13_singNow_5 (by decide) (fun c9 => ?_) (fun c9 => ?_)
  · have hc11 : ¬ (v1.toInt = 0) := fun h9 => c9 ((fi_eq rfl (show (0 : Int32).toInt = 0 by decide)).mpr h9)
    have hwk_12 : 0 ≤ p1.toInt ∧ p1.toInt ≤ 9 := by omega
    refine lv_aload_n hx hb dX13_singNow_11 rfl (lv_at hl 0 rfl) ?_
    obtain ⟨v14, hf13⟩ : ∃ z : Int32, Ra 3 12 = z := ⟨_, rfl⟩
    have hq_v14 := tk_rng v14
    have hr_v14 : (-1) ≤ v14.toInt ∧ v14.toInt ≤ 7 := by have h9 := hIR.d; unfold dO at h9; rw [hf13] at h9; omega
    refine mz_Vj (As := []) (rest := []) ⟨hx, hb, hml, hown, hts⟩ hK hM hS (k_X13_isDuel l D cy ld ad am hD _ _ _ _ v14 (hIF.weak) hIG hIR hf13) ⟨callB_of 0 hts (wl_in mw_1071) rfl rfl rfl (htl _ mw_5) (htl _ mw_1068) hd_yX13_isDuel ⟨(Nat.le_of_ble_eq_true rfl), (Nat.le_of_ble_eq_true rfl)⟩, htl _ mw_1069, htl _ mw_1070⟩ rfl hl.1 rfl (Nat.le_of_ble_eq_true rfl) dX13_singNow_12 ⟨(Nat.le_of_ble_eq_true rfl), (Nat.le_of_ble_eq_true rfl)⟩ (fun v15 H locs hpo hM hS => ?_)
    obtain ⟨hpo16, hpo17, hpo18, hpo19, hpo20, hpo21⟩ := hpo
    have hq_v15 := tk_rng v15
    refine lv_if_ne (tgt := 21) hx hb dX13_singNow_15 (by decide) (fun c9 => ?_) (fun c9 => ?_)
    · have hc23 : ¬ (v15.toInt = 0) := fun h9 => c9 ((fi_eq rfl (show (0 : Int32).toInt = 0 by decide)).mpr h9)
      have hwk_24 : 0 ≤ v14.toInt := by omega
      refine lv_aload_n hx hb dX13_singNow_21 rfl (lv_at hl 0 rfl) ?_
      refine lv_iload_n hx hb dX13_singNow_22 rfl (lv_at hl 1 rfl) ?_
      refine mz_Vv (As := [.int p1]) (rest := []) ⟨hx, hb, hml, hown, hts⟩ hK hM hS (k_X13_layVerse l D cy ld ad am hD _ _ _ _ p1 hIF hIG hIR (by omega) (by omega)) ⟨callB_of 1 hts (wl_in mw_1091) rfl rfl rfl (htl _ mw_5) (htl _ mw_1088) hd_yX13_layVerse ⟨(Nat.le_of_ble_eq_true rfl), (Nat.le_of_ble_eq_true rfl)⟩, htl _ mw_1089, htl _ mw_1090⟩ rfl hl.1 rfl (Nat.le_of_ble_eq_true rfl) dX13_singNow_23 ⟨(Nat.le_of_ble_eq_true rfl), (Nat.le_of_ble_eq_true rfl)⟩ (fun H locs F G R S hpo hM hS => ?_)
      obtain ⟨hIF, hIG, hIR, hfr9, hrr9, hgr9⟩ := hpo
      have hFF := mz_fr (K := [8, 34, 38, 41]) (Fa := Fa) hfr9 (fun _ _ => rfl) (by decide)
      have hRR := mz_fr (K := [3, 6, 7]) (Fa := Ra) hrr9 (fun _ _ => rfl) (by decide)
      have hGG := mz_fr (K := [39, 40]) (Fa := Ga) hgr9 (fun _ _ => rfl) (by decide)
      have hrel : rK1 (Ra 3) (R 3) := (rK1.refl rfl).trans (rK1.refl (hrr9 3 (by decide)))
      have hf13 : R 3 12 = _ := (congrFun (hrr9 3 (by decide)) 12).trans hf13
      refine lv_aload_n hx hb dX13_singNow_26 rfl (lv_at hl 0 rfl) ?_
      refine mz_Vi (As := []) (rest := []) ⟨hx, hb, hml, hown, hts⟩ hK hM hS (k_X13_isBarredSet l D cy ld ad am hD _ _ _ _ hIF hIG hIR) ⟨callB_of 0 hts (wl_in mw_1103) rfl rfl rfl (htl _ mw_5) (htl _ mw_1100) hd_yX13_isBarredSet ⟨(Nat.le_of_ble_eq_true rfl), (Nat.le_of_ble_eq_true rfl)⟩, htl _ mw_1101, htl _ mw_1102⟩ rfl hl.1 rfl (Nat.le_of_ble_eq_true rfl) dX13_singNow_27 ⟨(Nat.le_of_ble_eq_true rfl), (Nat.le_of_ble_eq_true rfl)⟩ (fun v26 H locs F G R S hpo hM hS => ?_)
      obtain ⟨hIF, hIG, hIR, hfr9, hrr9, hgr9, hpo27, hpo28, hpo29, hpo30⟩ := hpo
      have hq_v26 := tk_rng v26
      have hFF := mz_fr (K := [8, 34, 38, 41]) (Fa := Fa) hfr9 hFF (by decide)
      have hRR := mz_fr (K := [3, 6, 7]) (Fa := Ra) hrr9 hRR (by decide)
      have hGG := mz_fr (K := [39, 40]) (Fa := Ga) hgr9 hGG (by decide)
      have hrel : rK1 (Ra 3) (R 3) := hrel.trans (rK1.refl (hrr9 3 (by decide)))
      have hf13 : R 3 12 = _ := (congrFun (hrr9 3 (by decide)) 12).trans hf13
      refine lv_if_eq (tgt := 36) hx hb dX13_singNow_30 (by decide) (fun c9 => ?_) (fun c9 => ?_)
      · have hc32 : v26.toInt = 0 := (fi_eq rfl (show (0 : Int32).toInt = 0 by decide)).mp c9
        refine lv_aload_n hx hb dX13_singNow_36 rfl (lv_at hl 0 rfl) ?_
        refine lv_iconst (v := 1) hx hb dX13_singNow_37 (by decide) ?_
        have hk_1 : (1 : Int32).toInt = 1 := by decide
        refine mz_Vv (As := [.int 1]) (rest := []) ⟨hx, hb, hml, hown, hts⟩ hK hM hS (k_X13_remember l D cy ld ad am hD _ _ _ _ 1 hIF hIG hIR (by omega) (by omega)) ⟨callB_of 1 hts (wl_in mw_1079) rfl rfl rfl (htl _ mw_5) (htl _ mw_1076) hd_yX13_remember ⟨(Nat.le_of_ble_eq_true rfl), (Nat.le_of_ble_eq_true rfl)⟩, htl _ mw_1077, htl _ mw_1078⟩ rfl hl.1 rfl (Nat.le_of_ble_eq_true rfl) dX13_singNow_38 ⟨(Nat.le_of_ble_eq_true rfl), (Nat.le_of_ble_eq_true rfl)⟩ (fun H locs F G R S hpo hM hS => ?_)
        obtain ⟨hIF, hIG, hIR, hfr9, hrr9, hgr9⟩ := hpo
        have hFF := mz_fr (K := [8, 34, 38, 41]) (Fa := Fa) hfr9 hFF (by decide)
        have hRR := mz_fr (K := [3, 6, 7]) (Fa := Ra) hrr9 hRR (by decide)
        have hGG := mz_fr (K := [39, 40]) (Fa := Ga) hgr9 hGG (by decide)
        have hrel : rK1 (Ra 3) (R 3) := hrel.trans (rK1.refl (hrr9 3 (by decide)))
        have hf13 : R 3 12 = _ := (congrFun (hrr9 3 (by decide)) 12).trans hf13
        refine lv_aload_n hx hb dX13_singNow_41 rfl (lv_at hl 0 rfl) ?_
        refine lv_iload_n hx hb dX13_singNow_42 rfl (lv_at hl 1 rfl) ?_
        obtain ⟨v35, hf34⟩ : ∃ z : Int32, R 3 13 = z := ⟨_, rfl⟩
        have hq_v35 := tk_rng v35
        have hr_v35 : (-1) ≤ v35.toInt ∧ v35.toInt ≤ 7 := by have h9 := hIR.d; unfold dO at h9; rw [hf34] at h9; omega
        have hti_35 : v14.toInt ≠ -1 → v35.toInt ≠ -1 := by have h9 := hIR.d.2.2.2.2.2; rw [hf13, hf34] at h9; exact fun h8 => (h9 h8).1
        have hwk_39 : 0 ≤ v35.toInt := by omega
        obtain ⟨v38, hf37⟩ : ∃ z : Int32, R 3 15 = z := ⟨_, rfl⟩
        have hq_v38 := tk_rng v38
        have hr_v38 : (-1) ≤ v38.toInt ∧ v38.toInt ≤ 11 := by have h9 := hIR.d; unfold dO at h9; rw [hf37] at h9; omega
        have hti_39 : v14.toInt ≠ -1 → v38.toInt ≠ -1 := by have h9 := hIR.d.2.2.2.2.2; rw [hf13, hf37] at h9; exact fun h8 => (h9 h8).2.1
        have hwk_43 : 0 ≤ v38.toInt := by omega
        obtain ⟨v42, hf41⟩ : ∃ z : Int32, R 3 16 = z := ⟨_, rfl⟩
        have hq_v42 := tk_rng v42
        have hr_v42 : (-1) ≤ v42.toInt ∧ v42.toInt ≤ 7 := by have h9 := hIR.d; unfold dO at h9; rw [hf41] at h9; omega
        have hti_43 : v14.toInt ≠ -1 → v42.toInt ≠ -1 := by have h9 := hIR.d.2.2.2.2.2; rw [hf13, hf41] at h9; exact fun h8 => (h9 h8).2.2
        have hwk_46 : 0 ≤ v42.toInt := by omega
        refine mz_Vi (As := [.int p1]) (rest := []) ⟨hx, hb, hml, hown, hts⟩ hK hM hS (k_X13_singIt l D cy ld ad am hD _ _ _ _ p1 v14 v35 v38 v42 hIF hIG hIR hf13 hf34 hf37 hf41 (by omega) (by omega) (by omega)) ⟨callB_of 1 hts (wl_in mw_1116) rfl rfl rfl (htl _ mw_5) (htl _ mw_1113) hd_yX13_singIt ⟨(Nat.le_of_ble_eq_true rfl), (Nat.le_of_ble_eq_true rfl)⟩, htl _ mw_1114, htl _ mw_1115⟩ rfl hl.1 rfl (Nat.le_of_ble_eq_true rfl) dX13_singNow_43 ⟨(Nat.le_of_ble_eq_true rfl), (Nat.le_of_ble_eq_true rfl)⟩ (fun v45 H locs F G R S hpo hM hS => ?_)
        obtain ⟨hIF, hIG, hIR, hfr9, hrr9, hgr9, hrel9, hpo47, hpo48, hpo49, hpo50, hpo51, hpo52⟩ := hpo
        have hq_v45 := tk_rng v45
        have hFF := mz_fr (K := [8, 34, 38, 41]) (Fa := Fa) hfr9 hFF (by decide)
        have hRR := mz_fr (K := [3, 6, 7]) (Fa := Ra) hrr9 hRR (by decide)
        have hGG := mz_fr (K := [39, 40]) (Fa := Ga) hgr9 hGG (by decide)
        have hrel := hrel.trans hrel9.k1
        obtain ⟨v55, hf54⟩ : ∃ z : Int32, R 3 12 = z := ⟨_, rfl⟩
        have hq_v55 := tk_rng v55
        rw [hf54] at hpo49 hpo50 hpo51 hpo52
        have hr_v55 : (-1) ≤ v55.toInt ∧ v55.toInt ≤ 7 := by have h9 := hIR.d; unfold dO at h9; rw [hf54] at h9; omega
        obtain ⟨v57, hf56⟩ : ∃ z : Int32, R 3 15 = z := ⟨_, rfl⟩
        have hq_v57 := tk_rng v57
        rw [hf56] at hpo49 hpo50 hpo51 hpo52
        have hr_v57 : (-1) ≤ v57.toInt ∧ v57.toInt ≤ 11 := by have h9 := hIR.d; unfold dO at h9; rw [hf56] at h9; omega
        have hti_57 : v55.toInt ≠ -1 → v57.toInt ≠ -1 := by have h9 := hIR.d.2.2.2.2.2; rw [hf54, hf56] at h9; exact fun h8 => (h9 h8).2.1
        obtain ⟨v60, hf59⟩ : ∃ z : Int32, R 3 16 = z := ⟨_, rfl⟩
        have hq_v60 := tk_rng v60
        rw [hf59] at hpo52
        have hr_v60 : (-1) ≤ v60.toInt ∧ v60.toInt ≤ 7 := by have h9 := hIR.d; unfold dO at h9; rw [hf59] at h9; omega
        have hti_60 : v55.toInt ≠ -1 → v60.toInt ≠ -1 := by have h9 := hIR.d.2.2.2.2.2; rw [hf54, hf59] at h9; exact fun h8 => (h9 h8).2.2
        exact mz_iret (v := v45) hx hb hr rfl hlocks ⟨hIF, hIG, hIR, hFF, hRR, hGG, hrel, (by omega), (by omega)⟩ hM hS dX13_singNow_46
      · have hc32 : ¬ (v26.toInt = 0) := fun h9 => c9 ((fi_eq rfl (show (0 : Int32).toInt = 0 by decide)).mpr h9)
        refine lv_bipush (v := (-3)) hx hb dX13_singNow_33 (by decide) ?_
        have hk_m3 : ((-3) : Int32).toInt = (-3) := by decide
        exact mz_iret (v := (-3)) hx hb hr rfl hlocks ⟨hIF, hIG, hIR, hFF, hRR, hGG, hrel, (by omega), (by omega)⟩ hM hS dX13_singNow_35
    · have hc23 : v15.toInt = 0 := (fi_eq rfl (show (0 : Int32).toInt = 0 by decide)).mp c9
      have hwk_62 : v14.toInt ≤ (-1) := by omega
      refine lv_bipush (v := (-3)) hx hb dX13_singNow_18 (by decide) ?_
      have hk_m3 : ((-3) : Int32).toInt = (-3) := by decide
      exact mz_iret (v := (-3)) hx hb hr rfl hlocks ⟨hIF, hIG, hIR, (fun _ _ => rfl), (fun _ _ => rfl), (fun _ _ => rfl), (rK1.refl rfl), (by omega), (by omega)⟩ hM hS dX13_singNow_20
  · have hc11 : v1.toInt = 0 := (fi_eq rfl (show (0 : Int32).toInt = 0 by decide)).mp c9
    refine lv_bipush (v := (-2)) hx hb dX13_singNow_8 (by decide) ?_
    have hk_m2 : ((-2) : Int32).toInt = (-2) := by decide
    exact mz_iret (v := (-2)) hx hb hr rfl hlocks ⟨hIF, hIG, hIR, (fun _ _ => rfl), (fun _ _ => rfl), (fun _ _ => rfl), (rK1.refl rfl), (by omega), (by omega)⟩ hM hS dX13_singNow_10
