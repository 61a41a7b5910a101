section
theorem hd_yX13_singIt : yX13_singIt.cls ≠ "java/lang/invoke/MethodHandle" ∧ yX13_singIt.cls ≠ "java/lang/invoke/VarHandle" ∧ (parseMethodDescriptor yX13_singIt.desc).map (fun d => d.parameters.length) = some 1 := by decide +kernel
theorem dX13_singNow_0 : decode cX13_singNow 0 = .ok (.aload_n 0, 1) := by decide +kernel
theorem dX13_singNow_1 : decode cX13_singNow 1 = .ok (.iload_n 1, 1) := by decide +kernel
theorem dX13_singNow_2 : decode cX13_singNow 2 = .ok (.invokevirtual 216, 3) := by decide +kernel
theorem dX13_singNow_5 : decode cX13_singNow 5 = .ok (.ifCond .ne 6, 3) := by decide +kernel
theorem dX13_singNow_11 : decode cX13_singNow 11 = .ok (.aload_n 0, 1) := by decide +kernel
theorem dX13_singNow_12 : decode cX13_singNow 12 = .ok (.invokevirtual 434, 3) := by decide +kernel
theorem dX13_singNow_15 : decode cX13_singNow 15 = .ok (.ifCond .ne 6, 3) := by decide +kernel
theorem dX13_singNow_21 : decode cX13_singNow 21 = .ok (.aload_n 0, 1) := by decide +kernel
theorem dX13_singNow_22 : decode cX13_singNow 22 = .ok (.iload_n 1, 1) := by decide +kernel
theorem dX13_singNow_23 : decode cX13_singNow 23 = .ok (.invokevirtual 437, 3) := by decide +kernel
theorem dX13_singNow_26 : decode cX13_singNow 26 = .ok (.aload_n 0, 1) := by decide +kernel
theorem dX13_singNow_27 : decode cX13_singNow 27 = .ok (.invokevirtual 446, 3) := by decide +kernel
theorem dX13_singNow_30 : decode cX13_singNow 30 = .ok (.ifCond .eq 6, 3) := by decide +kernel
theorem dX13_singNow_36 : decode cX13_singNow 36 = .ok (.aload_n 0, 1) := by decide +kernel
theorem dX13_singNow_37 : decode cX13_singNow 37 = .ok (.iconst 1, 1) := by decide +kernel
theorem dX13_singNow_38 : decode cX13_singNow 38 = .ok (.invokevirtual 455, 3) := by decide +kernel
theorem dX13_singNow_41 : decode cX13_singNow 41 = .ok (.aload_n 0, 1) := by decide +kernel
theorem dX13_singNow_42 : decode cX13_singNow 42 = .ok (.iload_n 1, 1) := by decide +kernel
theorem dX13_singNow_43 : decode cX13_singNow 43 = .ok (.invokevirtual 477, 3) := by decide +kernel
theorem dX13_singNow_46 : decode cX13_singNow 46 = .ok (.ireturn, 1) := by decide +kernel
theorem dX13_singNow_33 : decode cX13_singNow 33 = .ok (.bipush (-3), 2) := by decide +kernel
theorem dX13_singNow_35 : decode cX13_singNow 35 = .ok (.ireturn, 1) := by decide +kernel
theorem dX13_singNow_18 : decode cX13_singNow 18 = .ok (.bipush (-3), 2) := by decide +kernel
theorem dX13_singNow_20 : decode cX13_singNow 20 = .ok (.ireturn, 1) := by decide +kernel
theorem dX13_singNow_8 : decode cX13_singNow 8 = .ok (.bipush (-2), 2) := by decide +kernel
theorem dX13_singNow_10 : decode cX13_singNow 10 = .ok (.ireturn, 1) := by decide +kernel
set_option maxHeartbeats 4000000 in
set_option maxRecDepth 100000 in
theorem k_X13_singNow (l : Launch) (D : va_G) (cy : Nat → ClassId) (ld ad : Nat → Nat) (am : Nat) (hD : mz_D ad am) (Fa : Nat → Int32) (Ga : Nat → Int64) (Ra : Nat → Nat → Int32) (Sa : Nat → Nat → Int64) (p1 : Int32) (hIF : mz_IF true Fa) (hIG : mz_IG Ga) (hIR : mz_IR [] true Ra) : Met l yX13_singNow (wl yX13_singNow cX13_singNow 2 (some .int)) ({ frames := 10, cells := 0, slots := 0, locals := 630 }) (mz_p D cy ld ad am Fa Ga Ra Sa [.ref am, .int p1]) (mz_i D cy ad am (fun r F G R S => mz_IF true F ∧ mz_IG G ∧ mz_IR [] true R ∧ (∀ k : Nat, k ∉ ([8, 34, 38, 41] : List Nat) → F k = Fa k) ∧ (∀ k : Nat, k ∉ ([3, 6, 7] : List Nat) → R k = Ra k) ∧ (∀ k : Nat, k ∉ ([39, 40] : List Nat) → G k = Ga k) ∧ rK1 (Ra 3) (R 3) ∧ (-3) ≤ r.toInt ∧ r.toInt ≤ 999)) 0 0 (mz_W ad am) := by
  refine mz_met (y := yX13_singNow) (cc := cX13_singNow) (maxL := 2) (ret := (some .int)) (av := [.ref am, .int p1]) _ (by decide) (Nat.le_of_ble_eq_true rfl) ?_
  intro p e s m args below meth c hx hb hr hml hts htl hown hlocks hK H locs hM hS ls hl
  have hown : s.vm.findClass RX13 = some m.cls := hown
  have hl : lv_has ls 2 [(0, .ref am), (1, .int p1)] := hl
  have hr_p1 := tk_rng p1
  refine lv_aload_n hx hb dX13_singNow_0 rfl (lv_at hl 0 rfl) ?_
  refine lv_iload_n hx hb dX13_singNow_1 rfl (lv_at hl 1 rfl) ?_
  refine mz_Vj (As := [.int p1]) (rest := []) ⟨hx, hb, hml, hown, hts⟩ hK hM hS (k_X13_isVerse l D cy ld ad am hD _ _ _ _ p1 (hIF.weak) hIG hIR) ⟨callB_of 1 hts (wl_in mw_360) rfl rfl rfl (htl _ mw_5) (htl _ mw_357) hd_yX13_isVerse ⟨(Nat.le_of_ble_eq_true rfl), (Nat.le_of_ble_eq_true rfl)⟩, htl _ mw_358, htl _ mw_359⟩ rfl hl.1 rfl (Nat.le_of_ble_eq_true rfl) dX13_singNow_2 ⟨(Nat.le_of_ble_eq_true rfl), (Nat.le_of_ble_eq_true rfl)⟩ (fun v1 H locs hpo hM hS => ?_)
  obtain ⟨hpo2, hpo3, hpo4, hpo5, hpo6⟩ := hpo
  have hq_v1 := tk_rng v1
  refine lv_if_ne (tgt := 11) hx hb dX13_singNow_5 (by decide) (fun c9 => ?_) (fun c9 => ?_)
  · have hc11 : ¬ (v1.toInt = 0) := fun h9 => c9 ((fi_eq rfl (show (0 : Int32).toInt = 0 by decide)).mpr h9)
    have hwk_12 : 0 ≤ p1.toInt ∧ p1.toInt ≤ 9 := by omega
    refine lv_aload_n hx hb dX13_singNow_11 rfl (lv_at hl 0 rfl) ?_
    obtain ⟨v14, hf13⟩ : ∃ z : Int32, Ra 3 12 = z := ⟨_, rfl⟩
    have hq_v14 := tk_rng v14
    have hr_v14 : (-1) ≤ v14.toInt ∧ v14.toInt ≤ 7 := by have h9 := hIR.d; unfold dO at h9; rw [hf13] at h9; omega
    refine mz_Vj (As := []) (rest := []) ⟨hx, hb, hml, hown, hts⟩ hK hM hS (k_X13_isDuel l D cy ld ad am hD _ _ _ _ v14 (hIF.weak) hIG hIR hf13) ⟨callB_of 0 hts (wl_in mw_1071) rfl rfl rfl (htl _ mw_5) (htl _ mw_1068) hd_yX13_isDuel ⟨(Nat.le_of_ble_eq_true rfl), (Nat.le_of_ble_eq_true rfl)⟩, htl _ mw_1069, htl _ mw_1070⟩ rfl hl.1 rfl (Nat.le_of_ble_eq_true rfl) dX13_singNow_12 ⟨(Nat.le_of_ble_eq_true rfl), (Nat.le_of_ble_eq_true rfl)⟩ (fun v15 H locs hpo hM hS => ?_)
    obtain ⟨hpo16, hpo17, hpo18, hpo19, hpo20, hpo21⟩ := hpo
    have hq_v15 := tk_rng v15
    refine lv_if_ne (tgt := 21) hx hb dX13_singNow_15 (by decide) (fun c9 => ?_) (fun c9 => ?_)
    · have hc23 : ¬ (v15.toInt = 0) := fun h9 => c9 ((fi_eq rfl (show (0 : Int32).toInt = 0 by decide)).mpr h9)
      have hwk_24 : 0 ≤ v14.toInt := by omega
      refine lv_aload_n hx hb dX13_singNow_21 rfl (lv_at hl 0 rfl) ?_
      refine lv_iload_n hx hb dX13_singNow_22 rfl (lv_at hl 1 rfl) ?_
      refine mz_Vv (As := [.int p1]) (rest := []) ⟨hx, hb, hml, hown, hts⟩ hK hM hS (k_X13_layVerse l D cy ld ad am hD _ _ _ _ p1 hIF hIG hIR (by omega) (by omega)) ⟨callB_of 1 hts (wl_in mw_1091) rfl rfl rfl (htl _ mw_5) (htl _ mw_1088) hd_yX13_layVerse ⟨(Nat.le_of_ble_eq_true rfl), (Nat.le_of_ble_eq_true rfl)⟩, htl _ mw_1089, htl _ mw_1090⟩ rfl hl.1 rfl (Nat.le_of_ble_eq_true rfl) dX13_singNow_23 ⟨(Nat.le_of_ble_eq_true rfl), (Nat.le_of_ble_eq_true rfl)⟩ (fun H locs F G R S hpo hM hS => ?_)
      obtain ⟨hIF, hIG, hIR, hfr9, hrr9, hgr9⟩ := hpo
      have hFF := mz_fr (K := [8, 34, 38, 41]) (Fa := Fa) hfr9 (fun _ _ => rfl) (by decide)
      have hRR := mz_fr (K := [3, 6, 7]) (Fa := Ra) hrr9 (fun _ _ => rfl) (by decide)
      have hGG := mz_fr (K := [39, 40]) (Fa := Ga) hgr9 (fun _ _ => rfl) (by decide)
      have hrel : rK1 (Ra 3) (R 3) := (rK1.refl rfl).trans (rK1.refl (hrr9 3 (by decide)))
      have hf13 : R 3 12 = _ := (congrFun (hrr9 3 (by decide)) 12).trans hf13
      refine lv_aload_n hx hb dX13_singNow_26 rfl (lv_at hl 0 rfl) ?_
      refine mz_Vi (As := []) (rest := []) ⟨hx, hb, hml, hown, hts⟩ hK hM hS (k_X13_isBarredSet l D cy ld ad am hD _ _ _ _ hIF hIG hIR) ⟨callB_of 0 hts (wl_in mw_1103) rfl rfl rfl (htl _ mw_5) (htl _ mw_1100) hd_yX13_isBarredSet ⟨(Nat.le_of_ble_eq_true rfl), (Nat.le_of_ble_eq_true rfl)⟩, htl _ mw_1101, htl _ mw_1102⟩ rfl hl.1 rfl (Nat.le_of_ble_eq_true rfl) dX13_singNow_27 ⟨(Nat.le_of_ble_eq_true rfl), (Nat.le_of_ble_eq_true rfl)⟩ (fun v26 H locs F G R S hpo hM hS => ?_)
      obtain ⟨hIF, hIG, hIR, hfr9, hrr9, hgr9, hpo27, hpo28, hpo29, hpo30⟩ := hpo
      have hq_v26 := tk_rng v26
      have hFF := mz_fr (K := [8, 34, 38, 41]) (Fa := Fa) hfr9 hFF (by decide)
      have hRR := mz_fr (K := [3, 6, 7]) (Fa := Ra) hrr9 hRR (by decide)
      have hGG := mz_fr (K := [39, 40]) (Fa := Ga) hgr9 hGG (by decide)
      have hrel : rK1 (Ra 3) (R 3) := hrel.trans (rK1.refl (hrr9 3 (by decide)))
      have hf13 : R 3 12 = _ := (congrFun (hrr9 3 (by decide)) 12).trans hf13
      refine lv_if_eq (tgt := 36) hx hb dX13_singNow_30 (by decide) (fun c9 => ?_) (fun c9 => ?_)
      · have hc32 : v26.toInt = 0 := (fi_eq rfl (show (0 : Int32).toInt = 0 by decide)).mp c9
        refine lv_aload_n hx hb dX13_singNow_36 rfl (lv_at hl 0 rfl) ?_
        refine lv_iconst (v := 1) hx hb dX13_singNow_37 (by decide) ?_
        have hk_1 : (1 : Int32).toInt = 1 := by decide
        refine mz_Vv (As := [.int 1]) (rest := []) ⟨hx, hb, hml, hown, hts⟩ hK hM hS (k_X13_remember l D cy ld ad am hD _ _ _ _ 1 hIF hIG hIR (by omega) (by omega)) ⟨callB_of 1 hts (wl_in mw_1079) rfl rfl rfl (htl _ mw_5) (htl _ mw_1076) hd_yX13_remember ⟨(Nat.le_of_ble_eq_true rfl), (Nat.le_of_ble_eq_true rfl)⟩, htl _ mw_1077, htl _ mw_1078⟩ rfl hl.1 rfl (Nat.le_of_ble_eq_true rfl) dX13_singNow_38 ⟨(Nat.le_of_ble_eq_true rfl), (Nat.le_of_ble_eq_true rfl)⟩ (fun H locs F G R S hpo hM hS => ?_)
        obtain ⟨hIF, hIG, hIR, hfr9, hrr9, hgr9⟩ := hpo
        have hFF := mz_fr (K := [8, 34, 38, 41]) (Fa := Fa) hfr9 hFF (by decide)
        have hRR := mz_fr (K := [3, 6, 7]) (Fa := Ra) hrr9 hRR (by decide)
        have hGG := mz_fr (K := [39, 40]) (Fa := Ga) hgr9 hGG (by decide)
        have hrel : rK1 (Ra 3) (R 3) := hrel.trans (rK1.refl (hrr9 3 (by decide)))
        have hf13 : R 3 12 = _ := (congrFun (hrr9 3 (by decide)) 12).trans hf13
        refine lv_aload_n hx hb dX13_singNow_41 rfl (lv_at hl 0 rfl) ?_
        refine lv_iload_n hx hb dX13_singNow_42 rfl (lv_at hl 1 rfl) ?_
        obtain ⟨v35, hf34⟩ : ∃ z : Int32, R 3 13 = z := ⟨_, rfl⟩
        have hq_v35 := tk_rng v35
        have hr_v35 : (-1) ≤ v35.toInt ∧ v35.toInt ≤ 7 := by have h9 := hIR.d; unfold dO at h9; rw [hf34] at h9; omega
        have hti_35 : v14.toInt ≠ -1 → v35.toInt ≠ -1 := by have h9 := hIR.d.2.2.2.2.2; rw [hf13, hf34] at h9; exact fun h8 => (h9 h8).1
        have hwk_39 : 0 ≤ v35.toInt := by omega
        obtain ⟨v38, hf37⟩ : ∃ z : Int32, R 3 15 = z := ⟨_, rfl⟩
        have hq_v38 := tk_rng v38
        have hr_v38 : (-1) ≤ v38.toInt ∧ v38.toInt ≤ 11 := by have h9 := hIR.d; unfold dO at h9; rw [hf37] at h9; omega
        have hti_39 : v14.toInt ≠ -1 → v38.toInt ≠ -1 := by have h9 := hIR.d.2.2.2.2.2; rw [hf13, hf37] at h9; exact fun h8 => (h9 h8).2.1
        have hwk_43 : 0 ≤ v38.toInt := by omega
        obtain ⟨v42, hf41⟩ : ∃ z : Int32, R 3 16 = z := ⟨_, rfl⟩
        have hq_v42 := tk_rng v42
        have hr_v42 : (-1) ≤ v42.toInt ∧ v42.toInt ≤ 7 := by have h9 := hIR.d; unfold dO at h9; rw [hf41] at h9; omega
        have hti_43 : v14.toInt ≠ -1 → v42.toInt ≠ -1 := by have h9 := hIR.d.2.2.2.2.2; rw [hf13, hf41] at h9; exact fun h8 => (h9 h8).2.2
        have hwk_46 : 0 ≤ v42.toInt := by omega
        refine mz_Vi (As := [.int p1]) (rest := []) ⟨hx, hb, hml, hown, hts⟩ hK hM hS (k_X13_singIt l D cy ld ad am hD _ _ _ _ p1 v14 v35 v38 v42 hIF hIG hIR hf13 hf34 hf37 hf41 (by omega) (by omega) (by omega)) ⟨callB_of 1 hts (wl_in mw_1116) rfl rfl rfl (htl _ mw_5) (htl _ mw_1113) hd_yX13_singIt ⟨(Nat.le_of_ble_eq_true rfl), (Nat.le_of_ble_eq_true rfl)⟩, htl _ mw_1114, htl _ mw_1115⟩ rfl hl.1 rfl (Nat.le_of_ble_eq_true rfl) dX13_singNow_43 ⟨(Nat.le_of_ble_eq_true rfl), (Nat.le_of_ble_eq_true rfl)⟩ (fun v45 H locs F G R S hpo hM hS => ?_)
        obtain ⟨hIF, hIG, hIR, hfr9, hrr9, hgr9, hrel9, hpo47, hpo48, hpo49, hpo50, hpo51, hpo52⟩ := hpo
        have hq_v45 := tk_rng v45
        have hFF := mz_fr (K := [8, 34, 38, 41]) (Fa := Fa) hfr9 hFF (by decide)
        have hRR := mz_fr (K := [3, 6, 7]) (Fa := Ra) hrr9 hRR (by decide)
        have hGG := mz_fr (K := [39, 40]) (Fa := Ga) hgr9 hGG (by decide)
        have hrel := hrel.trans hrel9.k1
        obtain ⟨v55, hf54⟩ : ∃ z : Int32, R 3 12 = z := ⟨_, rfl⟩
        have hq_v55 := tk_rng v55
        rw [hf54] at hpo49 hpo50 hpo51 hpo52
        have hr_v55 : (-1) ≤ v55.toInt ∧ v55.toInt ≤ 7 := by have h9 := hIR.d; unfold dO at h9; rw [hf54] at h9; omega
        obtain ⟨v57, hf56⟩ : ∃ z : Int32, R 3 15 = z := ⟨_, rfl⟩
        have hq_v57 := tk_rng v57
        rw [hf56] at hpo49 hpo50 hpo51 hpo52
        have hr_v57 : (-1) ≤ v57.toInt ∧ v57.toInt ≤ 11 := by have h9 := hIR.d; unfold dO at h9; rw [hf56] at h9; omega
        have hti_57 : v55.toInt ≠ -1 → v57.toInt ≠ -1 := by have h9 := hIR.d.2.2.2.2.2; rw [hf54, hf56] at h9; exact fun h8 => (h9 h8).2.1
        obtain ⟨v60, hf59⟩ : ∃ z : Int32, R 3 16 = z := ⟨_, rfl⟩
        have hq_v60 := tk_rng v60
        rw [hf59] at hpo52
        have hr_v60 : (-1) ≤ v60.toInt ∧ v60.toInt ≤ 7 := by have h9 := hIR.d; unfold dO at h9; rw [hf59] at h9; omega
        have hti_60 : v55.toInt ≠ -1 → v60.toInt ≠ -1 := by have h9 := hIR.d.2.2.2.2.2; rw [hf54, hf59] at h9; exact fun h8 => (h9 h8).2.2
        exact mz_iret (v := v45) hx hb hr rfl hlocks ⟨hIF, hIG, hIR, hFF, hRR, hGG, hrel, (by omega), (by omega)⟩ hM hS dX13_singNow_46
      · have hc32 : ¬ (v26.toInt = 0) := fun h9 => c9 ((fi_eq rfl (show (0 : Int32).toInt = 0 by decide)).mpr h9)
        refine lv_bipush (v := (-3)) hx hb dX13_singNow_33 (by decide) ?_
        have hk_m3 : ((-3) : Int32).toInt = (-3) := by decide
        exact mz_iret (v := (-3)) hx hb hr rfl hlocks ⟨hIF, hIG, hIR, hFF, hRR, hGG, hrel, (by omega), (by omega)⟩ hM hS dX13_singNow_35
    · have hc23 : v15.toInt = 0 := (fi_eq rfl (show (0 : Int32).toInt = 0 by decide)).mp c9
      have hwk_62 : v14.toInt ≤ (-1) := by omega
      refine lv_bipush (v := (-3)) hx hb dX13_singNow_18 (by decide) ?_
      have hk_m3 : ((-3) : Int32).toInt = (-3) := by decide
      exact mz_iret (v := (-3)) hx hb hr rfl hlocks ⟨hIF, hIG, hIR, (fun _ _ => rfl), (fun _ _ => rfl), (fun _ _ => rfl), (rK1.refl rfl), (by omega), (by omega)⟩ hM hS dX13_singNow_20
  · have hc11 : v1.toInt = 0 := (fi_eq rfl (show (0 : Int32).toInt = 0 by decide)).mp c9
    refine lv_bipush (v := (-2)) hx hb dX13_singNow_8 (by decide) ?_
    have hk_m2 : ((-2) : Int32).toInt = (-2) := by decide
    exact mz_iret (v := (-2)) hx hb hr rfl hlocks ⟨hIF, hIG, hIR, (fun _ _ => rfl), (fun _ _ => rfl), (fun _ _ => rfl), (rK1.refl rfl), (by omega), (by omega)⟩ hM hS dX13_singNow_10
end
section
theorem hd_yX13_singNow : yX13_singNow.cls ≠ "java/lang/invoke/MethodHandle" ∧ yX13_singNow.cls ≠ "java/lang/invoke/VarHandle" ∧ (parseMethodDescriptor yX13_singNow.desc).map (fun d => d.parameters.length) = some 1 := by decide +kernel
theorem dX13_sing_0 : decode cX13_sing 0 = .ok (.aload_n 0, 1) := by decide +kernel
theorem dX13_sing_1 : decode cX13_sing 1 = .ok (.iconst 0, 1) := by decide +kernel
theorem dX13_sing_2 : decode cX13_sing 2 = .ok (.putfield 170, 3) := by decide +kernel
theorem dX13_sing_5 : decode cX13_sing 5 = .ok (.aload_n 0, 1) := by decide +kernel
theorem dX13_sing_6 : decode cX13_sing 6 = .ok (.aload_n 0, 1) := by decide +kernel
theorem dX13_sing_7 : decode cX13_sing 7 = .ok (.iload_n 1, 1) := by decide +kernel
theorem dX13_sing_8 : decode cX13_sing 8 = .ok (.invokevirtual 480, 3) := by decide +kernel
theorem dX13_sing_11 : decode cX13_sing 11 = .ok (.invokevirtual 183, 3) := by decide +kernel
theorem dX13_sing_14 : decode cX13_sing 14 = .ok (.ireturn, 1) := by decide +kernel
set_option maxHeartbeats 4000000 in
set_option maxRecDepth 100000 in
theorem k_X13_sing (l : Launch) (D : va_G) (cy : Nat → ClassId) (ld ad : Nat → Nat) (am : Nat) (hD : mz_D ad am) (Fa : Nat → Int32) (Ga : Nat → Int64) (Ra : Nat → Nat → Int32) (Sa : Nat → Nat → Int64) (p1 : Int32) (hIF : mz_IF true Fa) (hIG : mz_IG Ga) (hIR : mz_IR [] true Ra) : Met l yX13_sing (wl yX13_sing cX13_sing 2 (some .int)) ({ frames := 11, cells := 0, slots := 0, locals := 700 }) (mz_p D cy ld ad am Fa Ga Ra Sa [.ref am, .int p1]) (mz_i D cy ad am (fun r F G R S => mz_IF true F ∧ mz_IG G ∧ mz_IR [] true R ∧ (∀ k : Nat, k ∉ ([0, 1, 8, 34, 38, 41] : List Nat) → F k = Fa k) ∧ (∀ k : Nat, k ∉ ([2, 3, 6, 7] : List Nat) → R k = Ra k) ∧ (∀ k : Nat, k ∉ ([39, 40] : List Nat) → G k = Ga k) ∧ rK1 (Ra 3) (R 3) ∧ (-3) ≤ r.toInt ∧ r.toInt ≤ 999)) 0 0 (mz_W ad am) := by
  refine mz_met (y := yX13_sing) (cc := cX13_sing) (maxL := 2) (ret := (some .int)) (av := [.ref am, .int p1]) _ (by decide) (Nat.le_of_ble_eq_true rfl) ?_
  intro p e s m args below meth c hx hb hr hml hts htl hown hlocks hK H locs hM hS ls hl
  have hown : s.vm.findClass RX13 = some m.cls := hown
  have hl : lv_has ls 2 [(0, .ref am), (1, .int p1)] := hl
  have hr_p1 := tk_rng p1
  refine lv_aload_n hx hb dX13_sing_0 rfl (lv_at hl 0 rfl) ?_
  refine lv_iconst (v := 0) hx hb dX13_sing_1 (by decide) ?_
  have hk_0 : (0 : Int32).toInt = 0 := by decide
  refine mz_putI (ty := .int) (x := 0) hx hb htl hown hK hD hM hS 0 (Nat.le_of_ble_eq_true rfl) rfl (htl _ mw_286) (fun _ h9 => h9) rfl (tyX13_ok 0 (by decide)) rfl rfl dX13_sing_2 (fun H locs F hM hS hf9 hj9 => ?_)
  have hIF := hIF.put hf9 hj9 (tk_rng _).1 (tk_rng _).2 (by decide)
  have hFF := mz_frp (K := [0, 1, 8, 34, 38, 41]) (Fa := Fa) hj9 (fun _ _ => rfl) (by decide)
  have hf2 := hf9
  refine lv_aload_n hx hb dX13_sing_5 rfl (lv_at hl 0 rfl) ?_
  refine lv_aload_n hx hb dX13_sing_6 rfl (lv_at hl 0 rfl) ?_
  refine lv_iload_n hx hb dX13_sing_7 rfl (lv_at hl 1 rfl) ?_
  refine mz_Vi (As := [.int p1]) (rest := [.ref am]) ⟨hx, hb, hml, hown, hts⟩ hK hM hS (k_X13_singNow l D cy ld ad am hD _ _ _ _ p1 hIF hIG hIR) ⟨callB_of 1 hts (wl_in mw_1087) rfl rfl rfl (htl _ mw_5) (htl _ mw_1084) hd_yX13_singNow ⟨(Nat.le_of_ble_eq_true rfl), (Nat.le_of_ble_eq_true rfl)⟩, htl _ mw_1085, htl _ mw_1086⟩ rfl hl.1 rfl (Nat.le_of_ble_eq_true rfl) dX13_sing_8 ⟨(Nat.le_of_ble_eq_true rfl), (Nat.le_of_ble_eq_true rfl)⟩ (fun v3 H locs F G R S hpo hM hS => ?_)
  obtain ⟨hIF, hIG, hIR, hfr9, hrr9, hgr9, hrel9, hpo4, hpo5⟩ := hpo
  have hq_v3 := tk_rng v3
  have hFF := mz_fr (K := [0, 1, 8, 34, 38, 41]) (Fa := Fa) hfr9 hFF (by decide)
  have hRR := mz_fr (K := [2, 3, 6, 7]) (Fa := Ra) hrr9 (fun _ _ => rfl) (by decide)
  have hGG := mz_fr (K := [39, 40]) (Fa := Ga) hgr9 (fun _ _ => rfl) (by decide)
  have hrel := (rK1.refl rfl).trans hrel9
  have hf2 := (hfr9 0 (by decide)).trans hf2
  refine mz_Vi (As := [.int v3]) (rest := []) ⟨hx, hb, hml, hown, hts⟩ hK hM hS (k_X13_tell l D cy ld ad am hD _ _ _ _ v3 hIF hIG hIR (by omega) (by omega)) ⟨callB_of 1 hts (wl_in mw_296) rfl rfl rfl (htl _ mw_5) (htl _ mw_293) hd_yX13_tell ⟨(Nat.le_of_ble_eq_true rfl), (Nat.le_of_ble_eq_true rfl)⟩, htl _ mw_294, htl _ mw_295⟩ rfl hl.1 rfl (Nat.le_of_ble_eq_true rfl) dX13_sing_11 ⟨(Nat.le_of_ble_eq_true rfl), (Nat.le_of_ble_eq_true rfl)⟩ (fun v10 H locs F G R S hpo hM hS => ?_)
  obtain ⟨hIF, hIG, hIR, hfr9, hrr9, hgr9, hpo11⟩ := hpo
  have hq_v10 := tk_rng v10
  have hFF := mz_fr (K := [0, 1, 8, 34, 38, 41]) (Fa := Fa) hfr9 hFF (by decide)
  have hRR := mz_fr (K := [2, 3, 6, 7]) (Fa := Ra) hrr9 hRR (by decide)
  have hGG := mz_fr (K := [39, 40]) (Fa := Ga) hgr9 hGG (by decide)
  have hrel : rK1 (Ra 3) (R 3) := hrel.trans (rK1.refl (hrr9 3 (by decide)))
  have hf2 := (hfr9 0 (by decide)).trans hf2
  exact mz_iret (v := v10) hx hb hr rfl hlocks ⟨hIF, hIG, hIR, hFF, hRR, hGG, hrel, (by omega), (by omega)⟩ hM hS dX13_sing_14
end
section
theorem dX13_dawnIt_0 : decode cX13_dawnIt 0 = .ok (.iconst 0, 1) := by decide +kernel
theorem dX13_dawnIt_1 : decode cX13_dawnIt 1 = .ok (.istore_n 1, 1) := by decide +kernel
theorem dX13_dawnIt_2 : decode cX13_dawnIt 2 = .ok (.aload_n 0, 1) := by decide +kernel
theorem dX13_dawnIt_3 : decode cX13_dawnIt 3 = .ok (.getfield 13, 3) := by decide +kernel
theorem dX13_dawnIt_6 : decode cX13_dawnIt 6 = .ok (.bipush 6, 2) := by decide +kernel
theorem dX13_dawnIt_8 : decode cX13_dawnIt 8 = .ok (.dup2, 1) := by decide +kernel
theorem dX13_dawnIt_9 : decode cX13_dawnIt 9 = .ok (.iaload, 1) := by decide +kernel
theorem dX13_dawnIt_10 : decode cX13_dawnIt 10 = .ok (.iconst 1, 1) := by decide +kernel
theorem dX13_dawnIt_11 : decode cX13_dawnIt 11 = .ok (.iadd, 1) := by decide +kernel
theorem dX13_dawnIt_12 : decode cX13_dawnIt 12 = .ok (.iastore, 1) := by decide +kernel
theorem dX13_dawnIt_13 : decode cX13_dawnIt 13 = .ok (.iconst 0, 1) := by decide +kernel
theorem dX13_dawnIt_14 : decode cX13_dawnIt 14 = .ok (.istore_n 2, 1) := by decide +kernel
theorem dX13_dawnIt_15 : decode cX13_dawnIt 15 = .ok (.iload_n 2, 1) := by decide +kernel
theorem dX13_dawnIt_16 : decode cX13_dawnIt 16 = .ok (.aload_n 0, 1) := by decide +kernel
theorem dX13_dawnIt_17 : decode cX13_dawnIt 17 = .ok (.getfield 13, 3) := by decide +kernel
theorem dX13_dawnIt_20 : decode cX13_dawnIt 20 = .ok (.iconst 0, 1) := by decide +kernel
theorem dX13_dawnIt_21 : decode cX13_dawnIt 21 = .ok (.iaload, 1) := by decide +kernel
theorem dX13_dawnIt_22 : decode cX13_dawnIt 22 = .ok (.if_icmp .ge 35, 3) := by decide +kernel
theorem dX13_dawnIt_57 : decode cX13_dawnIt 57 = .ok (.iconst 0, 1) := by decide +kernel
theorem dX13_dawnIt_58 : decode cX13_dawnIt 58 = .ok (.istore_n 2, 1) := by decide +kernel
theorem dX13_dawnIt_59 : decode cX13_dawnIt 59 = .ok (.iload_n 2, 1) := by decide +kernel
theorem dX13_dawnIt_60 : decode cX13_dawnIt 60 = .ok (.aload_n 0, 1) := by decide +kernel
theorem dX13_dawnIt_61 : decode cX13_dawnIt 61 = .ok (.getfield 13, 3) := by decide +kernel
theorem dX13_dawnIt_64 : decode cX13_dawnIt 64 = .ok (.iconst 0, 1) := by decide +kernel
theorem dX13_dawnIt_65 : decode cX13_dawnIt 65 = .ok (.iaload, 1) := by decide +kernel
theorem dX13_dawnIt_66 : decode cX13_dawnIt 66 = .ok (.if_icmp .ge 43, 3) := by decide +kernel
theorem dX13_dawnIt_109 : decode cX13_dawnIt 109 = .ok (.iload_n 1, 1) := by decide +kernel
theorem dX13_dawnIt_110 : decode cX13_dawnIt 110 = .ok (.ireturn, 1) := by decide +kernel
theorem dX13_dawnIt_69 : decode cX13_dawnIt 69 = .ok (.iload_n 1, 1) := by decide +kernel
theorem dX13_dawnIt_70 : decode cX13_dawnIt 70 = .ok (.aload_n 0, 1) := by decide +kernel
theorem dX13_dawnIt_71 : decode cX13_dawnIt 71 = .ok (.iload_n 2, 1) := by decide +kernel
theorem dX13_dawnIt_72 : decode cX13_dawnIt 72 = .ok (.iconst 3, 1) := by decide +kernel
theorem dX13_dawnIt_73 : decode cX13_dawnIt 73 = .ok (.invokevirtual 207, 3) := by decide +kernel
theorem dX13_dawnIt_76 : decode cX13_dawnIt 76 = .ok (.iadd, 1) := by decide +kernel
theorem dX13_dawnIt_77 : decode cX13_dawnIt 77 = .ok (.istore_n 1, 1) := by decide +kernel
theorem dX13_dawnIt_78 : decode cX13_dawnIt 78 = .ok (.aload_n 0, 1) := by decide +kernel
theorem dX13_dawnIt_79 : decode cX13_dawnIt 79 = .ok (.iload_n 2, 1) := by decide +kernel
theorem dX13_dawnIt_80 : decode cX13_dawnIt 80 = .ok (.aload_n 0, 1) := by decide +kernel
theorem dX13_dawnIt_81 : decode cX13_dawnIt 81 = .ok (.getfield 110, 3) := by decide +kernel
theorem dX13_dawnIt_84 : decode cX13_dawnIt 84 = .ok (.iload_n 2, 1) := by decide +kernel
theorem dX13_dawnIt_85 : decode cX13_dawnIt 85 = .ok (.iaload, 1) := by decide +kernel
theorem dX13_dawnIt_86 : decode cX13_dawnIt 86 = .ok (.invokevirtual 468, 3) := by decide +kernel
theorem dX13_dawnIt_89 : decode cX13_dawnIt 89 = .ok (.aload_n 0, 1) := by decide +kernel
theorem dX13_dawnIt_90 : decode cX13_dawnIt 90 = .ok (.getfield 13, 3) := by decide +kernel
theorem dX13_dawnIt_93 : decode cX13_dawnIt 93 = .ok (.bipush 18, 2) := by decide +kernel
theorem dX13_dawnIt_95 : decode cX13_dawnIt 95 = .ok (.iconst 5, 1) := by decide +kernel
theorem dX13_dawnIt_96 : decode cX13_dawnIt 96 = .ok (.iload_n 2, 1) := by decide +kernel
theorem dX13_dawnIt_97 : decode cX13_dawnIt 97 = .ok (.imul, 1) := by decide +kernel
theorem dX13_dawnIt_98 : decode cX13_dawnIt 98 = .ok (.iadd, 1) := by decide +kernel
theorem dX13_dawnIt_99 : decode cX13_dawnIt 99 = .ok (.iconst 3, 1) := by decide +kernel
theorem dX13_dawnIt_100 : decode cX13_dawnIt 100 = .ok (.iadd, 1) := by decide +kernel
theorem dX13_dawnIt_101 : decode cX13_dawnIt 101 = .ok (.iconst 0, 1) := by decide +kernel
theorem dX13_dawnIt_102 : decode cX13_dawnIt 102 = .ok (.iastore, 1) := by decide +kernel
theorem dX13_dawnIt_103 : decode cX13_dawnIt 103 = .ok (.iinc 2 1, 3) := by decide +kernel
theorem dX13_dawnIt_106 : decode cX13_dawnIt 106 = .ok (.goto (-47), 3) := by decide +kernel
theorem dX13_dawnIt_25 : decode cX13_dawnIt 25 = .ok (.aload_n 0, 1) := by decide +kernel
theorem dX13_dawnIt_26 : decode cX13_dawnIt 26 = .ok (.getfield 110, 3) := by decide +kernel
theorem dX13_dawnIt_29 : decode cX13_dawnIt 29 = .ok (.iload_n 2, 1) := by decide +kernel
theorem dX13_dawnIt_30 : decode cX13_dawnIt 30 = .ok (.aload_n 0, 1) := by decide +kernel
theorem dX13_dawnIt_31 : decode cX13_dawnIt 31 = .ok (.iload_n 2, 1) := by decide +kernel
theorem dX13_dawnIt_32 : decode cX13_dawnIt 32 = .ok (.iconst 0, 1) := by decide +kernel
theorem dX13_dawnIt_33 : decode cX13_dawnIt 33 = .ok (.invokevirtual 207, 3) := by decide +kernel
theorem dX13_dawnIt_36 : decode cX13_dawnIt 36 = .ok (.aload_n 0, 1) := by decide +kernel
theorem dX13_dawnIt_37 : decode cX13_dawnIt 37 = .ok (.iload_n 2, 1) := by decide +kernel
theorem dX13_dawnIt_38 : decode cX13_dawnIt 38 = .ok (.invokevirtual 449, 3) := by decide +kernel
theorem dX13_dawnIt_41 : decode cX13_dawnIt 41 = .ok (.iadd, 1) := by decide +kernel
theorem dX13_dawnIt_42 : decode cX13_dawnIt 42 = .ok (.i2l, 1) := by decide +kernel
theorem dX13_dawnIt_43 : decode cX13_dawnIt 43 = .ok (.iconst 0, 1) := by decide +kernel
theorem dX13_dawnIt_44 : decode cX13_dawnIt 44 = .ok (.sipush 999, 3) := by decide +kernel
theorem dX13_dawnIt_47 : decode cX13_dawnIt 47 = .ok (.invokestatic 421, 3) := by decide +kernel
theorem dX13_dawnIt_50 : decode cX13_dawnIt 50 = .ok (.iastore, 1) := by decide +kernel
theorem dX13_dawnIt_51 : decode cX13_dawnIt 51 = .ok (.iinc 2 1, 3) := by decide +kernel
theorem dX13_dawnIt_54 : decode cX13_dawnIt 54 = .ok (.goto (-39), 3) := by decide +kernel
set_option maxHeartbeats 4000000 in
set_option maxRecDepth 100000 in
theorem k_X13_dawnIt (l : Launch) (D : va_G) (cy : Nat → ClassId) (ld ad : Nat → Nat) (am : Nat) (hD : mz_D ad am) (Fa : Nat → Int32) (Ga : Nat → Int64) (Ra : Nat → Nat → Int32) (Sa : Nat → Nat → Int64) (hIF : mz_IF true Fa) (hIG : mz_IG Ga) (hIR : mz_IR [] true Ra) : Met l yX13_dawnIt (wl yX13_dawnIt cX13_dawnIt 3 (some .int)) ({ frames := 9, cells := 0, slots := 0, locals := 560 }) (mz_p D cy ld ad am Fa Ga Ra Sa [.ref am]) (mz_i D cy ad am (fun r F G R S => mz_IF true F ∧ mz_IG G ∧ mz_IR [] true R ∧ (∀ k : Nat, k ∉ ([34, 38] : List Nat) → F k = Fa k) ∧ (∀ k : Nat, k ∉ ([3, 42] : List Nat) → R k = Ra k) ∧ (∀ k : Nat, k ∉ ([39, 40] : List Nat) → G k = Ga k) ∧ rK2 (Ra 3) (R 3) ∧ 0 ≤ r.toInt ∧ 0 ≤ r.toInt ∧ r.toInt ≤ 8)) 0 0 (mz_W ad am) := by
  refine mz_met (y := yX13_dawnIt) (cc := cX13_dawnIt) (maxL := 3) (ret := (some .int)) (av := [.ref am]) _ (by decide) (Nat.le_of_ble_eq_true rfl) ?_
  intro p e s m args below meth c hx hb hr hml hts htl hown hlocks hK H locs hM hS ls hl
  have hown : s.vm.findClass RX13 = some m.cls := hown
  have hl : lv_has ls 3 [(0, .ref am)] := hl
  refine lv_iconst (v := 0) hx hb dX13_dawnIt_0 (by decide) ?_
  refine lv_istore_n (lv' := [(1, .int 0), (0, .ref am)]) hx hb dX13_dawnIt_1 rfl hl (by decide) rfl (fun ls hl => ?_)
  refine lv_aload_n hx hb dX13_dawnIt_2 rfl (lv_at hl 1 rfl) ?_
  refine mz_getR hx hb htl hown hK hM 3 (Nat.le_of_ble_eq_true rfl) (Nat.le_of_ble_eq_true rfl) (htl _ mw_188) (fun _ h9 => h9) dX13_dawnIt_3 ?_
  refine lv_bipush (v := 6) hx hb dX13_dawnIt_6 (by decide) ?_
  refine lv_dup2_11 hx hb dX13_dawnIt_8 rfl rfl ?_
  refine mz_iald hx hb hK hM 3 (Nat.le_of_ble_eq_true rfl) rfl (nn := 5560) rfl (I := 6) (by decide) (by decide) (by decide) dX13_dawnIt_9 (fun v2 hf1 => ?_)
  have hf1 : Ra 3 6 = v2 := hf1
  have hq_v2 := tk_rng v2
  refine lv_iconst (v := 1) hx hb dX13_dawnIt_10 (by decide) ?_
  refine lv_iadd hx hb dX13_dawnIt_11 ?_
  obtain ⟨v3, hm_v3⟩ : ∃ z : Int32, v2 + 1 = z := ⟨_, rfl⟩
  refine fx_ti hm_v3 ?_
  have hk_6 : (6 : Int32).toInt = 6 := by decide
  refine mz_iast (x := v3) hx hb hK hD hM hS 3 (Nat.le_of_ble_eq_true rfl) rfl (nn := 5560) rfl (I := 6) (by decide) (by decide) (by decide) dX13_dawnIt_12 (fun H locs R hM hS hw9 hj9 => ?_)
  have hIR := hIR.put hw9 hj9 (mz_r3 (hIR.at 3) (I := 6) (by decide) (by omega) (by omega) (fun h9 => by first | (cases h9; done) | omega) (by unfold mE; omega))
  have hRR := mz_frp (K := [3, 42]) (Fa := Ra) hj9 (fun _ _ => rfl) (by decide)
  have hrel := rK2.put (I := 6) (rK2.refl rfl) hw9 (by decide) (by omega) (by omega) (by omega)
  have hf5 : R 3 6 = v3 := (congrFun hw9 6).trans pk_us
  refine lv_iconst (v := 0) hx hb dX13_dawnIt_13 (by decide) ?_
  refine lv_istore_n (lv' := [(2, .int 0), (1, .int 0), (0, .ref am)]) hx hb dX13_dawnIt_14 rfl hl (by decide) rfl (fun ls hl => ?_)
  have hl2778 : ∀ (N_l2778 : Nat) (v655 : Int32) (H : Heap) (locs : List Loc) (F : Nat → Int32) (G : Nat → Int64) (R : Nat → Nat → Int32) (S : Nat → Nat → Int64), (v655.toInt ≤ 8) → (0 ≤ v655.toInt) → (mz_S D cy ad am F G R S H) → (va_S (mz_W ad am) s.heap H locs) → (mz_IF true F) → (mz_IG G) → (mz_IR [] true R) → (∀ k : Nat, k ∉ ([34, 38] : List Nat) → F k = Fa k) → (∀ k : Nat, k ∉ ([39, 40] : List Nat) → G k = Ga k) → (∀ k : Nat, k ∉ ([3, 42] : List Nat) → R k = Ra k) → (rK2 (Ra 3) (R 3)) → (R 3 6 = v3) → ((-1) * v655.toInt + 8 < (N_l2778 : Int)) → ∀ ls : Array Slot, lv_has ls 3 [(2, .int v655), (1, .int 0), (0, .ref am)] → W p l e ({ frames := 9, cells := 0, slots := 0, locals := 560 }) s m args below meth c H locs 0 0 (MQ below (mz_i D cy ad am (fun r F G R S => mz_IF true F ∧ mz_IG G ∧ mz_IR [] true R ∧ (∀ k : Nat, k ∉ ([34, 38] : List Nat) → F k = Fa k) ∧ (∀ k : Nat, k ∉ ([3, 42] : List Nat) → R k = Ra k) ∧ (∀ k : Nat, k ∉ ([39, 40] : List Nat) → G k = Ga k) ∧ rK2 (Ra 3) (R 3) ∧ 0 ≤ r.toInt ∧ 0 ≤ r.toInt ∧ r.toInt ≤ 8)) args s 0 0 (mz_W ad am)) (F0 m 15 ls []) := by
    intro N_l2778
    induction N_l2778 with
    | zero => intro v655 H locs F G R S hq0_l2778 hq1_l2778 hM hS hIF hIG hIR hFF hGG hRR hrel hf5 hm_l2778 ls hl; exfalso; omega
    | succ N_l2778 ih_l2778 =>
      intro v655 H locs F G R S hq0_l2778 hq1_l2778 hM hS hIF hIG hIR hFF hGG hRR hrel hf5 hm_l2778 ls hl
      refine lv_iload_n hx hb dX13_dawnIt_15 rfl (lv_at hl 0 rfl) ?_
      refine lv_aload_n hx hb dX13_dawnIt_16 rfl (lv_at hl 2 rfl) ?_
      refine mz_getR hx hb htl hown hK hM 3 (Nat.le_of_ble_eq_true rfl) (Nat.le_of_ble_eq_true rfl) (htl _ mw_188) (fun _ h9 => h9) dX13_dawnIt_17 ?_
      refine lv_iconst (v := 0) hx hb dX13_dawnIt_20 (by decide) ?_
      refine mz_iald hx hb hK hM 3 (Nat.le_of_ble_eq_true rfl) rfl (nn := 5560) rfl (I := 0) (by decide) (by decide) (by decide) dX13_dawnIt_21 (fun v2780 hf2779 => ?_)
      have hf2779 : R 3 0 = v2780 := hf2779
      have hq_v2780 := tk_rng v2780
      have hr_v2780 : 0 ≤ v2780.toInt ∧ v2780.toInt ≤ 8 := by have h9 := mz_r3c 0 (hIR.at 3) hf2779 (by decide); unfold mE at h9; omega
      refine lv_icmp_ge (tgt := 57) hx hb dX13_dawnIt_22 (by decide) (fun c9 => ?_) (fun c9 => ?_)
      · have hc2781 : v2780.toInt ≤ v655.toInt := (fi_le rfl rfl).mp c9
        refine lv_iconst (v := 0) hx hb dX13_dawnIt_57 (by decide) ?_
        refine lv_istore_n (lv' := [(2, .int 0), (1, .int 0), (0, .ref am)]) hx hb dX13_dawnIt_58 rfl hl (by decide) rfl (fun ls hl => ?_)
        have hl3201 : ∀ (N_l3201 : Nat) (v2796 : Int32) (v2797 : Int32) (H : Heap) (locs : List Loc) (F : Nat → Int32) (G : Nat → Int64) (R : Nat → Nat → Int32) (S : Nat → Nat → Int64), (0 ≤ v2797.toInt) → (0 ≤ v2796.toInt + (-1) * v2797.toInt) → (0 ≤ v2780.toInt + (-1) * v2796.toInt) → (mz_S D cy ad am F G R S H) → (va_S (mz_W ad am) s.heap H locs) → (mz_IF true F) → (mz_IG G) → (mz_IR [] true R) → (∀ k : Nat, k ∉ ([34, 38] : List Nat) → F k = Fa k) → (∀ k : Nat, k ∉ ([39, 40] : List Nat) → G k = Ga k) → (∀ k : Nat, k ∉ ([3, 42] : List Nat) → R k = Ra k) → (rK2 (Ra 3) (R 3)) → (R 3 0 = v2780) → ((-1) * v2796.toInt + 8 < (N_l3201 : Int)) → ∀ ls : Array Slot, lv_has ls 3 [(2, .int v2796), (1, .int v2797), (0, .ref am)] → W p l e ({ frames := 9, cells := 0, slots := 0, locals := 560 }) s m args below meth c H locs 0 0 (MQ below (mz_i D cy ad am (fun r F G R S => mz_IF true F ∧ mz_IG G ∧ mz_IR [] true R ∧ (∀ k : Nat, k ∉ ([34, 38] : List Nat) → F k = Fa k) ∧ (∀ k : Nat, k ∉ ([3, 42] : List Nat) → R k = Ra k) ∧ (∀ k : Nat, k ∉ ([39, 40] : List Nat) → G k = Ga k) ∧ rK2 (Ra 3) (R 3) ∧ 0 ≤ r.toInt ∧ 0 ≤ r.toInt ∧ r.toInt ≤ 8)) args s 0 0 (mz_W ad am)) (F0 m 59 ls []) := by
          intro N_l3201
          induction N_l3201 with
          | zero => intro v2796 v2797 H locs F G R S hq0_l3201 hq1_l3201 hq2_l3201 hM hS hIF hIG hIR hFF hGG hRR hrel hf2779 hm_l3201 ls hl; exfalso; omega
          | succ N_l3201 ih_l3201 =>
            intro v2796 v2797 H locs F G R S hq0_l3201 hq1_l3201 hq2_l3201 hM hS hIF hIG hIR hFF hGG hRR hrel hf2779 hm_l3201 ls hl
            refine lv_iload_n hx hb dX13_dawnIt_59 rfl (lv_at hl 0 rfl) ?_
            refine lv_aload_n hx hb dX13_dawnIt_60 rfl (lv_at hl 2 rfl) ?_
            refine mz_getR hx hb htl hown hK hM 3 (Nat.le_of_ble_eq_true rfl) (Nat.le_of_ble_eq_true rfl) (htl _ mw_188) (fun _ h9 => h9) dX13_dawnIt_61 ?_
            refine lv_iconst (v := 0) hx hb dX13_dawnIt_64 (by decide) ?_
            refine mz_iald hx hb hK hM 3 (Nat.le_of_ble_eq_true rfl) rfl (nn := 5560) rfl (I := 0) (by decide) (by decide) (by decide) dX13_dawnIt_65 (fun v9 e9 => ?_)
            refine fx_ti (v := v2780) (e9.symm.trans (show R 3 (0 : Int32).toNatClampNeg = _ from hf2779)) ?_
            refine lv_icmp_ge (tgt := 109) hx hb dX13_dawnIt_66 (by decide) (fun c9 => ?_) (fun c9 => ?_)
            · have hc3202 : v2780.toInt ≤ v2796.toInt := (fi_le rfl rfl).mp c9
              refine lv_iload_n hx hb dX13_dawnIt_109 rfl (lv_at hl 1 rfl) ?_
              exact mz_iret (v := v2797) hx hb hr rfl hlocks ⟨hIF, hIG, hIR, hFF, hRR, hGG, hrel, (by omega), (by omega), (by omega)⟩ hM hS dX13_dawnIt_110
            · have hc3202 : ¬ (v2780.toInt ≤ v2796.toInt) := fun h9 => c9 ((fi_le rfl rfl).mpr h9)
              refine lv_iload_n hx hb dX13_dawnIt_69 rfl (lv_at hl 1 rfl) ?_
              refine lv_aload_n hx hb dX13_dawnIt_70 rfl (lv_at hl 2 rfl) ?_
              refine lv_iload_n hx hb dX13_dawnIt_71 rfl (lv_at hl 0 rfl) ?_
              refine lv_iconst (v := 3) hx hb dX13_dawnIt_72 (by decide) ?_
              have hk_3 : (3 : Int32).toInt = 3 := by decide
              refine mz_Vj (As := [.int v2796, .int 3]) (rest := [.int v2797]) ⟨hx, hb, hml, hown, hts⟩ hK hM hS (k_X13_ofSinger_3 l D cy ld ad am hD _ _ _ _ v2796 (hIF.weak) hIG hIR (by omega) (by omega)) ⟨callB_of 2 hts (wl_in mw_324) rfl rfl rfl (htl _ mw_5) (htl _ mw_321) hd_yX13_ofSinger ⟨(Nat.le_of_ble_eq_true rfl), (Nat.le_of_ble_eq_true rfl)⟩, htl _ mw_322, htl _ mw_323⟩ rfl hl.1 rfl (Nat.le_of_ble_eq_true rfl) dX13_dawnIt_73 ⟨(Nat.le_of_ble_eq_true rfl), (Nat.le_of_ble_eq_true rfl)⟩ (fun v3236 H locs hpo hM hS => ?_)
              obtain ⟨hpo3237, hpo3238⟩ := hpo
              have hq_v3236 := tk_rng v3236
              refine lv_iadd hx hb dX13_dawnIt_76 ?_
              refine tk_add rfl rfl (by omega) (by omega) (fun v3240 h_v3240 => ?_)
              refine lv_istore_n (lv' := [(1, .int v3240), (2, .int v2796), (0, .ref am)]) hx hb dX13_dawnIt_77 rfl hl (by decide) rfl (fun ls hl => ?_)
              refine lv_aload_n hx hb dX13_dawnIt_78 rfl (lv_at hl 2 rfl) ?_
              refine lv_iload_n hx hb dX13_dawnIt_79 rfl (lv_at hl 1 rfl) ?_
              refine lv_aload_n hx hb dX13_dawnIt_80 rfl (lv_at hl 2 rfl) ?_
              refine mz_getR hx hb htl hown hK hM 42 (Nat.le_of_ble_eq_true rfl) (Nat.le_of_ble_eq_true rfl) (htl _ mw_226) (fun _ h9 => h9) dX13_dawnIt_81 ?_
              refine lv_iload_n hx hb dX13_dawnIt_84 rfl (lv_at hl 1 rfl) ?_
              refine mz_iald hx hb hK hM 42 (Nat.le_of_ble_eq_true rfl) rfl (nn := 8) rfl rfl (by omega) (by omega) dX13_dawnIt_85 (fun v3241 e_v3241 => ?_)
              have hq_v3241 := tk_rng v3241
              obtain ⟨v3243, hf3242⟩ : ∃ z : Int32, R 3 12 = z := ⟨_, rfl⟩
              have hq_v3243 := tk_rng v3243
              have hr_v3243 : (-1) ≤ v3243.toInt ∧ v3243.toInt ≤ 7 := by have h9 := hIR.d; unfold dO at h9; rw [hf3242] at h9; omega
              obtain ⟨v3245, hf3244⟩ : ∃ z : Int32, R 3 13 = z := ⟨_, rfl⟩
              have hq_v3245 := tk_rng v3245
              have hr_v3245 : (-1) ≤ v3245.toInt ∧ v3245.toInt ≤ 7 := by have h9 := hIR.d; unfold dO at h9; rw [hf3244] at h9; omega
              have hti_3245 : v3243.toInt ≠ -1 → v3245.toInt ≠ -1 := by have h9 := hIR.d.2.2.2.2.2; rw [hf3242, hf3244] at h9; exact fun h8 => (h9 h8).1
              obtain ⟨v3248, hf3247⟩ : ∃ z : Int32, R 3 14 = z := ⟨_, rfl⟩
              have hq_v3248 := tk_rng v3248
              have hr_v3248 : (-1) ≤ v3248.toInt ∧ v3248.toInt ≤ 99 := by have h9 := hIR.d; unfold dO at h9; rw [hf3247] at h9; omega
              obtain ⟨v3250, hf3249⟩ : ∃ z : Int32, R 3 15 = z := ⟨_, rfl⟩
              have hq_v3250 := tk_rng v3250
              have hr_v3250 : (-1) ≤ v3250.toInt ∧ v3250.toInt ≤ 11 := by have h9 := hIR.d; unfold dO at h9; rw [hf3249] at h9; omega
              have hti_3250 : v3243.toInt ≠ -1 → v3250.toInt ≠ -1 := by have h9 := hIR.d.2.2.2.2.2; rw [hf3242, hf3249] at h9; exact fun h8 => (h9 h8).2.1
              obtain ⟨v3253, hf3252⟩ : ∃ z : Int32, R 3 16 = z := ⟨_, rfl⟩
              have hq_v3253 := tk_rng v3253
              have hr_v3253 : (-1) ≤ v3253.toInt ∧ v3253.toInt ≤ 7 := by have h9 := hIR.d; unfold dO at h9; rw [hf3252] at h9; omega
              have hti_3253 : v3243.toInt ≠ -1 → v3253.toInt ≠ -1 := by have h9 := hIR.d.2.2.2.2.2; rw [hf3242, hf3252] at h9; exact fun h8 => (h9 h8).2.2
              refine mz_Vv (As := [.int v2796, .int v3241]) (rest := []) ⟨hx, hb, hml, hown, hts⟩ hK hM hS (k_X13_setWake l D cy ld ad am hD _ _ _ _ v2796 v3241 v3243 v3245 v3248 v3250 v3253 hIF hIG hIR hf3242 hf3244 hf3247 hf3249 hf3252 (by omega) (by omega)) ⟨callB_of 2 hts (wl_in mw_1133) rfl rfl rfl (htl _ mw_5) (htl _ mw_1130) hd_yX13_setWake ⟨(Nat.le_of_ble_eq_true rfl), (Nat.le_of_ble_eq_true rfl)⟩, htl _ mw_1131, htl _ mw_1132⟩ rfl hl.1 rfl (Nat.le_of_ble_eq_true rfl) dX13_dawnIt_86 ⟨(Nat.le_of_ble_eq_true rfl), (Nat.le_of_ble_eq_true rfl)⟩ (fun H locs F G R S hpo hM hS => ?_)
              obtain ⟨hIF, hIG, hIR, hfr9, hrr9, hgr9, hrel9, hf3255, hf3256, hf3257, hf3258, hf3259⟩ := hpo
              have hFF := mz_fr (K := [34, 38]) (Fa := Fa) hfr9 hFF (by decide)
              have hRR := mz_fr (K := [3, 42]) (Fa := Ra) hrr9 hRR (by decide)
              have hGG := mz_fr (K := [39, 40]) (Fa := Ga) hgr9 hGG (by decide)
              have hrel := hrel.trans hrel9
              have e_v3241 : R 42 (v2796 : Int32).toNatClampNeg = _ := (congrFun (hrr9 42 (by decide)) _).trans e_v3241
              have hf2779 : R 3 0 = _ := (hrel9 0 (by omega)).trans hf2779
              have hr_v3243 : (-1) ≤ v3243.toInt ∧ v3243.toInt ≤ 7 := by have h9 := hIR.d; unfold dO at h9; rw [hf3255] at h9; omega
              have hr_v3245 : (-1) ≤ v3245.toInt ∧ v3245.toInt ≤ 7 := by have h9 := hIR.d; unfold dO at h9; rw [hf3256] at h9; omega
              have hti_3260 : v3243.toInt ≠ -1 → v3245.toInt ≠ -1 := by have h9 := hIR.d.2.2.2.2.2; rw [hf3255, hf3256] at h9; exact fun h8 => (h9 h8).1
              have hr_v3248 : (-1) ≤ v3248.toInt ∧ v3248.toInt ≤ 99 := by have h9 := hIR.d; unfold dO at h9; rw [hf3257] at h9; omega
              have hr_v3250 : (-1) ≤ v3250.toInt ∧ v3250.toInt ≤ 11 := by have h9 := hIR.d; unfold dO at h9; rw [hf3258] at h9; omega
              have hti_3261 : v3243.toInt ≠ -1 → v3250.toInt ≠ -1 := by have h9 := hIR.d.2.2.2.2.2; rw [hf3255, hf3258] at h9; exact fun h8 => (h9 h8).2.1
              have hr_v3253 : (-1) ≤ v3253.toInt ∧ v3253.toInt ≤ 7 := by have h9 := hIR.d; unfold dO at h9; rw [hf3259] at h9; omega
              have hti_3262 : v3243.toInt ≠ -1 → v3253.toInt ≠ -1 := by have h9 := hIR.d.2.2.2.2.2; rw [hf3255, hf3259] at h9; exact fun h8 => (h9 h8).2.2
              refine lv_aload_n hx hb dX13_dawnIt_89 rfl (lv_at hl 2 rfl) ?_
              refine mz_getR hx hb htl hown hK hM 3 (Nat.le_of_ble_eq_true rfl) (Nat.le_of_ble_eq_true rfl) (htl _ mw_188) (fun _ h9 => h9) dX13_dawnIt_90 ?_
              refine lv_bipush (v := 18) hx hb dX13_dawnIt_93 (by decide) ?_
              refine lv_iconst (v := 5) hx hb dX13_dawnIt_95 (by decide) ?_
              refine lv_iload_n hx hb dX13_dawnIt_96 rfl (lv_at hl 1 rfl) ?_
              refine lv_imul hx hb dX13_dawnIt_97 ?_
              refine tk_mul (show (5 : Int32).toInt = 5 by decide) rfl (by omega) (by omega) (fun v3264 h_v3264 => ?_)
              refine lv_iadd hx hb dX13_dawnIt_98 ?_
              refine tk_add (show (18 : Int32).toInt = 18 by decide) rfl (by omega) (by omega) (fun v3265 h_v3265 => ?_)
              refine lv_iconst (v := 3) hx hb dX13_dawnIt_99 (by decide) ?_
              refine lv_iadd hx hb dX13_dawnIt_100 ?_
              refine tk_add rfl (show (3 : Int32).toInt = 3 by decide) (by omega) (by omega) (fun v3266 h_v3266 => ?_)
              refine lv_iconst (v := 0) hx hb dX13_dawnIt_101 (by decide) ?_
              have hk_0 : (0 : Int32).toInt = 0 := by decide
              refine mz_iast (x := 0) hx hb hK hD hM hS 3 (Nat.le_of_ble_eq_true rfl) rfl (nn := 5560) rfl rfl (by omega) (by omega) dX13_dawnIt_102 (fun H locs R hM hS hw9 hj9 => ?_)
              have hIR := hIR.put hw9 hj9 (mz_r3 (hIR.at 3) (I := v3266.toInt) rfl (by omega) (by omega) (fun h9 => by first | (cases h9; done) | omega) (by unfold mE; omega))
              have hRR := mz_frp (K := [3, 42]) (Fa := Ra) hj9 hRR (by decide)
              have hrel := rK2.put (I := v3266.toInt) hrel hw9 rfl (by omega) (by omega) (by omega)
              have e_v3241 : R 42 (v2796 : Int32).toNatClampNeg = _ := (congrFun (hj9 42 (by decide)) _).trans e_v3241
              have hf2779 : R 3 0 = _ := (congrFun hw9 0).trans ((pk_un (fun h9 => by have h8 := tk_nat (i := v3266) rfl (by omega); omega)).trans hf2779)
              have hf3255 : R 3 12 = _ := (congrFun hw9 12).trans ((pk_un (fun h9 => by have h8 := tk_nat (i := v3266) rfl (by omega); omega)).trans hf3255)
              have hf3256 : R 3 13 = _ := (congrFun hw9 13).trans ((pk_un (fun h9 => by have h8 := tk_nat (i := v3266) rfl (by omega); omega)).trans hf3256)
              have hf3257 : R 3 14 = _ := (congrFun hw9 14).trans ((pk_un (fun h9 => by have h8 := tk_nat (i := v3266) rfl (by omega); omega)).trans hf3257)
              have hf3258 : R 3 15 = _ := (congrFun hw9 15).trans ((pk_un (fun h9 => by have h8 := tk_nat (i := v3266) rfl (by omega); omega)).trans hf3258)
              have hf3259 : R 3 16 = _ := (congrFun hw9 16).trans ((pk_un (fun h9 => by have h8 := tk_nat (i := v3266) rfl (by omega); omega)).trans hf3259)
              obtain ⟨v3268, h_v3268, e_v3268⟩ := tk_inc v2796 1 (by decide) (by omega) (by omega)
              refine lv_iinc (v := v3268) (lv' := [(2, .int v3268), (1, .int v3240), (0, .ref am)]) hx hb dX13_dawnIt_103 hl (k := 1) rfl e_v3268 (by decide) rfl (fun ls hl => ?_)
              refine lv_goto (tgt := 59) hx hb dX13_dawnIt_106 (by decide) ?_
              exact ih_l3201 v3268 v3240 _ _ _ _ _ _ (by omega) (by omega) (by omega) hM hS hIF hIG hIR hFF hGG hRR hrel hf2779 (by omega) _ (lv_sub hl [0, 1, 2] rfl)
        have hk_0 : (0 : Int32).toInt = 0 := by decide
        have hk_0 : (0 : Int32).toInt = 0 := by decide
        exact hl3201 9 0 0 _ _ _ _ _ _ (by omega) (by omega) (by omega) hM hS hIF hIG hIR hFF hGG hRR hrel hf2779 (by omega) _ (lv_sub hl [0, 1, 2] rfl)
      · have hc2781 : ¬ (v2780.toInt ≤ v655.toInt) := fun h9 => c9 ((fi_le rfl rfl).mpr h9)
        refine lv_aload_n hx hb dX13_dawnIt_25 rfl (lv_at hl 2 rfl) ?_
        refine mz_getR hx hb htl hown hK hM 42 (Nat.le_of_ble_eq_true rfl) (Nat.le_of_ble_eq_true rfl) (htl _ mw_226) (fun _ h9 => h9) dX13_dawnIt_26 ?_
        refine lv_iload_n hx hb dX13_dawnIt_29 rfl (lv_at hl 0 rfl) ?_
        refine lv_aload_n hx hb dX13_dawnIt_30 rfl (lv_at hl 2 rfl) ?_
        refine lv_iload_n hx hb dX13_dawnIt_31 rfl (lv_at hl 0 rfl) ?_
        refine lv_iconst (v := 0) hx hb dX13_dawnIt_32 (by decide) ?_
        have hk_0 : (0 : Int32).toInt = 0 := by decide
        refine mz_Vj (As := [.int v655, .int 0]) (rest := [.int v655, .ref (ad 42)]) ⟨hx, hb, hml, hown, hts⟩ hK hM hS (k_X13_ofSinger_0 l D cy ld ad am hD _ _ _ _ v655 (hIF.weak) hIG hIR (by omega) (by omega)) ⟨callB_of 2 hts (wl_in mw_324) rfl rfl rfl (htl _ mw_5) (htl _ mw_321) hd_yX13_ofSinger ⟨(Nat.le_of_ble_eq_true rfl), (Nat.le_of_ble_eq_true rfl)⟩, htl _ mw_322, htl _ mw_323⟩ rfl hl.1 rfl (Nat.le_of_ble_eq_true rfl) dX13_dawnIt_33 ⟨(Nat.le_of_ble_eq_true rfl), (Nat.le_of_ble_eq_true rfl)⟩ (fun v3269 H locs hpo hM hS => ?_)
        have hq_v3269 := tk_rng v3269
        refine lv_aload_n hx hb dX13_dawnIt_36 rfl (lv_at hl 2 rfl) ?_
        refine lv_iload_n hx hb dX13_dawnIt_37 rfl (lv_at hl 0 rfl) ?_
        refine mz_Vi (As := [.int v655]) (rest := [.int v3269, .int v655, .ref (ad 42)]) ⟨hx, hb, hml, hown, hts⟩ hK hM hS (k_X13_wakesOf l D cy ld ad am hD _ _ _ _ v655 hIF hIG hIR (by omega) (by omega)) ⟨callB_of 1 hts (wl_in mw_1153) rfl rfl rfl (htl _ mw_5) (htl _ mw_1150) hd_yX13_wakesOf ⟨(Nat.le_of_ble_eq_true rfl), (Nat.le_of_ble_eq_true rfl)⟩, htl _ mw_1151, htl _ mw_1152⟩ rfl hl.1 rfl (Nat.le_of_ble_eq_true rfl) dX13_dawnIt_38 ⟨(Nat.le_of_ble_eq_true rfl), (Nat.le_of_ble_eq_true rfl)⟩ (fun v3271 H locs F G R S hpo hM hS => ?_)
        obtain ⟨hIF, hIG, hIR, hfr9, hrr9, hgr9, hpo3272, hpo3273⟩ := hpo
        have hq_v3271 := tk_rng v3271
        have hFF := mz_fr (K := [34, 38]) (Fa := Fa) hfr9 hFF (by decide)
        have hRR := mz_fr (K := [3, 42]) (Fa := Ra) hrr9 hRR (by decide)
        have hGG := mz_fr (K := [39, 40]) (Fa := Ga) hgr9 hGG (by decide)
        have hrel : rK2 (Ra 3) (R 3) := hrel.trans (rK2.refl (hrr9 3 (by decide)))
        have hf5 : R 3 6 = _ := (congrFun (hrr9 3 (by decide)) 6).trans hf5
        have hf2779 : R 3 0 = _ := (congrFun (hrr9 3 (by decide)) 0).trans hf2779
        refine lv_iadd hx hb dX13_dawnIt_41 ?_
        obtain ⟨v3275, hm_v3275⟩ : ∃ z : Int32, v3269 + v3271 = z := ⟨_, rfl⟩
        refine fx_ti hm_v3275 ?_
        obtain ⟨w3276, e_w3276, h_w3276⟩ : ∃ z : Int64, v3275.toInt64 = z ∧ z.toInt = v3275.toInt := ⟨_, rfl, fl_w _⟩
        refine lv_i2l (v := w3276) hx hb dX13_dawnIt_42 e_w3276 ?_
        refine lv_iconst (v := 0) hx hb dX13_dawnIt_43 (by decide) ?_
        refine lv_sipush (v := 999) hx hb dX13_dawnIt_44 (by decide) ?_
        have hk_0 : (0 : Int32).toInt = 0 := by decide
        have hk_999 : (999 : Int32).toInt = 999 := by decide
        refine mz_Sj (As := [.long w3276, .int 0, .int 999]) (rest := [.int v655, .ref (ad 42)]) ⟨hx, hb, hml, hown, hts⟩ hK hM hS (k_X13_within l D cy ld ad am hD _ _ _ _ w3276 0 999 (by omega)) ⟨callB_of 3 hts (wl_in mw_1125) rfl rfl rfl (htl _ mw_5) (htl _ mw_1123) hd_yX13_within ⟨(Nat.le_of_ble_eq_true rfl), (Nat.le_of_ble_eq_true rfl)⟩, htl _ mw_1124⟩ rfl hl.1 rfl (Nat.le_of_ble_eq_true rfl) dX13_dawnIt_47 ⟨(Nat.le_of_ble_eq_true rfl), (Nat.le_of_ble_eq_true rfl)⟩ (fun v3277 H locs hpo hM hS => ?_)
        obtain ⟨hpo3278, hpo3279⟩ := hpo
        have hq_v3277 := tk_rng v3277
        refine mz_iast (x := v3277) hx hb hK hD hM hS 42 (Nat.le_of_ble_eq_true rfl) rfl (nn := 8) rfl rfl (by omega) (by omega) dX13_dawnIt_50 (fun H locs R hM hS hw9 hj9 => ?_)
        have hIR := hIR.put hw9 hj9 trivial
        have hRR := mz_frp (K := [3, 42]) (Fa := Ra) hj9 hRR (by decide)
        have hrel : rK2 (Ra 3) (R 3) := (hj9 3 (by decide)) ▸ hrel
        have hf5 : R 3 6 = _ := (congrFun (hj9 3 (by decide)) 6).trans hf5
        have hf2779 : R 3 0 = _ := (congrFun (hj9 3 (by decide)) 0).trans hf2779
        obtain ⟨v3282, h_v3282, e_v3282⟩ := tk_inc v655 1 (by decide) (by omega) (by omega)
        refine lv_iinc (v := v3282) (lv' := [(2, .int v3282), (1, .int 0), (0, .ref am)]) hx hb dX13_dawnIt_51 hl (k := 0) rfl e_v3282 (by decide) rfl (fun ls hl => ?_)
        refine lv_goto (tgt := 15) hx hb dX13_dawnIt_54 (by decide) ?_
        exact ih_l2778 v3282 _ _ _ _ _ _ (by omega) (by omega) hM hS hIF hIG hIR hFF hGG hRR hrel hf5 (by omega) _ (lv_sub hl [0, 1, 2] rfl)
  have hk_0 : (0 : Int32).toInt = 0 := by decide
  exact hl2778 9 0 _ _ _ _ _ _ (by omega) (by omega) hM hS hIF hIG hIR (fun _ _ => rfl) (fun _ _ => rfl) hRR hrel hf5 (by omega) _ (lv_sub hl [0, 1, 2] rfl)
end
section
theorem hd_yX13_dawnIt : yX13_dawnIt.cls ≠ "java/lang/invoke/MethodHandle" ∧ yX13_dawnIt.cls ≠ "java/lang/invoke/VarHandle" ∧ (parseMethodDescriptor yX13_dawnIt.desc).map (fun d => d.parameters.length) = some 0 := by decide +kernel
theorem dX13_dawnNow_0 : decode cX13_dawnNow 0 = .ok (.aload_n 0, 1) := by decide +kernel
theorem dX13_dawnNow_1 : decode cX13_dawnNow 1 = .ok (.invokevirtual 434, 3) := by decide +kernel
theorem dX13_dawnNow_4 : decode cX13_dawnNow 4 = .ok (.ifCond .ne 14, 3) := by decide +kernel
theorem dX13_dawnNow_18 : decode cX13_dawnNow 18 = .ok (.bipush (-3), 2) := by decide +kernel
theorem dX13_dawnNow_20 : decode cX13_dawnNow 20 = .ok (.ireturn, 1) := by decide +kernel
theorem dX13_dawnNow_7 : decode cX13_dawnNow 7 = .ok (.aload_n 0, 1) := by decide +kernel
theorem dX13_dawnNow_8 : decode cX13_dawnNow 8 = .ok (.iconst 0, 1) := by decide +kernel
theorem dX13_dawnNow_9 : decode cX13_dawnNow 9 = .ok (.invokevirtual 412, 3) := by decide +kernel
theorem dX13_dawnNow_12 : decode cX13_dawnNow 12 = .ok (.sipush 999, 3) := by decide +kernel
theorem dX13_dawnNow_15 : decode cX13_dawnNow 15 = .ok (.if_icmp .ne 6, 3) := by decide +kernel
theorem dX13_dawnNow_21 : decode cX13_dawnNow 21 = .ok (.aload_n 0, 1) := by decide +kernel
theorem dX13_dawnNow_22 : decode cX13_dawnNow 22 = .ok (.iconst 3, 1) := by decide +kernel
theorem dX13_dawnNow_23 : decode cX13_dawnNow 23 = .ok (.invokevirtual 455, 3) := by decide +kernel
theorem dX13_dawnNow_26 : decode cX13_dawnNow 26 = .ok (.aload_n 0, 1) := by decide +kernel
theorem dX13_dawnNow_27 : decode cX13_dawnNow 27 = .ok (.invokevirtual 486, 3) := by decide +kernel
theorem dX13_dawnNow_30 : decode cX13_dawnNow 30 = .ok (.ireturn, 1) := by decide +kernel
set_option maxHeartbeats 4000000 in
set_option maxRecDepth 100000 in
theorem k_X13_dawnNow (l : Launch) (D : va_G) (cy : Nat → ClassId) (ld ad : Nat → Nat) (am : Nat) (hD : mz_D ad am) (Fa : Nat → Int32) (Ga : Nat → Int64) (Ra : Nat → Nat → Int32) (Sa : Nat → Nat → Int64) (hIF : mz_IF true Fa) (hIG : mz_IG Ga) (hIR : mz_IR [] true Ra) : Met l yX13_dawnNow (wl yX13_dawnNow cX13_dawnNow 1 (some .int)) ({ frames := 10, cells := 0, slots := 0, locals := 630 }) (mz_p D cy ld ad am Fa Ga Ra Sa [.ref am]) (mz_i D cy ad am (fun r F G R S => mz_IF true F ∧ mz_IG G ∧ mz_IR [] true R ∧ (∀ k : Nat, k ∉ ([8, 34, 38] : List Nat) → F k = Fa k) ∧ (∀ k : Nat, k ∉ ([3, 6, 7, 42] : List Nat) → R k = Ra k) ∧ (∀ k : Nat, k ∉ ([39, 40] : List Nat) → G k = Ga k) ∧ rK1 (Ra 3) (R 3) ∧ (-3) ≤ r.toInt ∧ r.toInt ≤ 8)) 0 0 (mz_W ad am) := by
  refine mz_met (y := yX13_dawnNow) (cc := cX13_dawnNow) (maxL := 1) (ret := (some .int)) (av := [.ref am]) _ (by decide) (Nat.le_of_ble_eq_true rfl) ?_
  intro p e s m args below meth c hx hb hr hml hts htl hown hlocks hK H locs hM hS ls hl
  have hown : s.vm.findClass RX13 = some m.cls := hown
  have hl : lv_has ls 1 [(0, .ref am)] := hl
  refine lv_aload_n hx hb dX13_dawnNow_0 rfl (lv_at hl 0 rfl) ?_
  obtain ⟨v2, hf1⟩ : ∃ z : Int32, Ra 3 12 = z := ⟨_, rfl⟩
  have hq_v2 := tk_rng v2
  have hr_v2 : (-1) ≤ v2.toInt ∧ v2.toInt ≤ 7 := by have h9 := hIR.d; unfold dO at h9; rw [hf1] at h9; omega
  refine mz_Vj (As := []) (rest := []) ⟨hx, hb, hml, hown, hts⟩ hK hM hS (k_X13_isDuel l D cy ld ad am hD _ _ _ _ v2 (hIF.weak) hIG hIR hf1) ⟨callB_of 0 hts (wl_in mw_1071) rfl rfl rfl (htl _ mw_5) (htl _ mw_1068) hd_yX13_isDuel ⟨(Nat.le_of_ble_eq_true rfl), (Nat.le_of_ble_eq_true rfl)⟩, htl _ mw_1069, htl _ mw_1070⟩ rfl hl.1 rfl (Nat.le_of_ble_eq_true rfl) dX13_dawnNow_1 ⟨(Nat.le_of_ble_eq_true rfl), (Nat.le_of_ble_eq_true rfl)⟩ (fun v3 H locs hpo hM hS => ?_)
  obtain ⟨hpo4, hpo5, hpo6, hpo10, hpo11, hpo12⟩ := hpo
  have hq_v3 := tk_rng v3
  refine lv_if_ne (tgt := 18) hx hb dX13_dawnNow_4 (by decide) (fun c9 => ?_) (fun c9 => ?_)
  · have hc14 : ¬ (v3.toInt = 0) := fun h9 => c9 ((fi_eq rfl (show (0 : Int32).toInt = 0 by decide)).mpr h9)
    have hwk_15 : 0 ≤ v2.toInt := by omega
    refine lv_bipush (v := (-3)) hx hb dX13_dawnNow_18 (by decide) ?_
    have hk_m3 : ((-3) : Int32).toInt = (-3) := by decide
    exact mz_iret (v := (-3)) hx hb hr rfl hlocks ⟨hIF, hIG, hIR, (fun _ _ => rfl), (fun _ _ => rfl), (fun _ _ => rfl), (rK1.refl rfl), (by omega), (by omega)⟩ hM hS dX13_dawnNow_20
  · have hc14 : v3.toInt = 0 := (fi_eq rfl (show (0 : Int32).toInt = 0 by decide)).mp c9
    have hwk_16 : v2.toInt ≤ (-1) := by omega
    refine lv_aload_n hx hb dX13_dawnNow_7 rfl (lv_at hl 0 rfl) ?_
    refine lv_iconst (v := 0) hx hb dX13_dawnNow_8 (by decide) ?_
    obtain ⟨v18, hf17⟩ : ∃ z : Int32, Ra 3 6 = z := ⟨_, rfl⟩
    have hq_v18 := tk_rng v18
    have hk_0 : (0 : Int32).toInt = 0 := by decide
    refine mz_Vj (As := [.int 0]) (rest := []) ⟨hx, hb, hml, hown, hts⟩ hK hM hS (k_X13_term_0 l D cy ld ad am hD _ _ _ _ v18 hf17) ⟨callB_of 1 hts (wl_in mw_1042) rfl rfl rfl (htl _ mw_5) (htl _ mw_1039) hd_yX13_term ⟨(Nat.le_of_ble_eq_true rfl), (Nat.le_of_ble_eq_true rfl)⟩, htl _ mw_1040, htl _ mw_1041⟩ rfl hl.1 rfl (Nat.le_of_ble_eq_true rfl) dX13_dawnNow_9 ⟨(Nat.le_of_ble_eq_true rfl), (Nat.le_of_ble_eq_true rfl)⟩ (fun v19 H locs hpo hM hS => ?_)
    have hpo20 := hpo
    have hq_v19 := tk_rng v19
    refine lv_sipush (v := 999) hx hb dX13_dawnNow_12 (by decide) ?_
    refine lv_icmp_ne (tgt := 21) hx hb dX13_dawnNow_15 (by decide) (fun c9 => ?_) (fun c9 => ?_)
    · have hc22 : ¬ (v19.toInt = 999) := fun h9 => c9 ((fi_eq rfl (show (999 : Int32).toInt = 999 by decide)).mpr h9)
      refine lv_aload_n hx hb dX13_dawnNow_21 rfl (lv_at hl 0 rfl) ?_
      refine lv_iconst (v := 3) hx hb dX13_dawnNow_22 (by decide) ?_
      have hk_3 : (3 : Int32).toInt = 3 := by decide
      refine mz_Vv (As := [.int 3]) (rest := []) ⟨hx, hb, hml, hown, hts⟩ hK hM hS (k_X13_remember l D cy ld ad am hD _ _ _ _ 3 hIF hIG hIR (by omega) (by omega)) ⟨callB_of 1 hts (wl_in mw_1079) rfl rfl rfl (htl _ mw_5) (htl _ mw_1076) hd_yX13_remember ⟨(Nat.le_of_ble_eq_true rfl), (Nat.le_of_ble_eq_true rfl)⟩, htl _ mw_1077, htl _ mw_1078⟩ rfl hl.1 rfl (Nat.le_of_ble_eq_true rfl) dX13_dawnNow_23 ⟨(Nat.le_of_ble_eq_true rfl), (Nat.le_of_ble_eq_true rfl)⟩ (fun H locs F G R S hpo hM hS => ?_)
      obtain ⟨hIF, hIG, hIR, hfr9, hrr9, hgr9⟩ := hpo
      have hFF := mz_fr (K := [8, 34, 38]) (Fa := Fa) hfr9 (fun _ _ => rfl) (by decide)
      have hRR := mz_fr (K := [3, 6, 7, 42]) (Fa := Ra) hrr9 (fun _ _ => rfl) (by decide)
      have hGG := mz_fr (K := [39, 40]) (Fa := Ga) hgr9 (fun _ _ => rfl) (by decide)
      have hrel : rK1 (Ra 3) (R 3) := (rK1.refl rfl).trans (rK1.refl (hrr9 3 (by decide)))
      have hf1 : R 3 12 = _ := (congrFun (hrr9 3 (by decide)) 12).trans hf1
      have hf17 : R 3 6 = _ := (congrFun (hrr9 3 (by decide)) 6).trans hf17
      refine lv_aload_n hx hb dX13_dawnNow_26 rfl (lv_at hl 0 rfl) ?_
      refine mz_Vi (As := []) (rest := []) ⟨hx, hb, hml, hown, hts⟩ hK hM hS (k_X13_dawnIt l D cy ld ad am hD _ _ _ _ hIF hIG hIR) ⟨callB_of 0 hts (wl_in mw_1149) rfl rfl rfl (htl _ mw_5) (htl _ mw_1146) hd_yX13_dawnIt ⟨(Nat.le_of_ble_eq_true rfl), (Nat.le_of_ble_eq_true rfl)⟩, htl _ mw_1147, htl _ mw_1148⟩ rfl hl.1 rfl (Nat.le_of_ble_eq_true rfl) dX13_dawnNow_27 ⟨(Nat.le_of_ble_eq_true rfl), (Nat.le_of_ble_eq_true rfl)⟩ (fun v24 H locs F G R S hpo hM hS => ?_)
      obtain ⟨hIF, hIG, hIR, hfr9, hrr9, hgr9, hrel9, hpo25, hpo26, hpo27⟩ := hpo
      have hq_v24 := tk_rng v24
      have hFF := mz_fr (K := [8, 34, 38]) (Fa := Fa) hfr9 hFF (by decide)
      have hRR := mz_fr (K := [3, 6, 7, 42]) (Fa := Ra) hrr9 hRR (by decide)
      have hGG := mz_fr (K := [39, 40]) (Fa := Ga) hgr9 hGG (by decide)
      have hrel := hrel.trans hrel9.k1
      exact mz_iret (v := v24) hx hb hr rfl hlocks ⟨hIF, hIG, hIR, hFF, hRR, hGG, hrel, (by omega), (by omega)⟩ hM hS dX13_dawnNow_30
    · have hc22 : v19.toInt = 999 := (fi_eq rfl (show (999 : Int32).toInt = 999 by decide)).mp c9
      refine lv_bipush (v := (-3)) hx hb dX13_dawnNow_18 (by decide) ?_
      have hk_m3 : ((-3) : Int32).toInt = (-3) := by decide
      exact mz_iret (v := (-3)) hx hb hr rfl hlocks ⟨hIF, hIG, hIR, (fun _ _ => rfl), (fun _ _ => rfl), (fun _ _ => rfl), (rK1.refl rfl), (by omega), (by omega)⟩ hM hS dX13_dawnNow_20
end
