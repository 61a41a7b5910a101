theorem hd_yX13_dawnIt : yX13_dawnIt.cls ≠ "java/lang/invoke/MethodHandle" ∧ yX13_dawnIt.cls ≠ "java/lang/invoke/VarHandle" ∧ (parseMethodDescriptor yX13_dawnIt.desc).map (fun d => d.parameters.length) = some 0 := by decide +kernel
theorem dX13_dawnNow_0 : decode cX13_dawnNow 0 = .ok (.aload_n 0, 1) := by decide +kernel
theorem dX13_dawnNow_1 : decode cX13_dawnNow 1 = .ok (.invokevirtual 434, 3) := by decide +kernel
theorem dX13_dawnNow_4 : decode cX13_dawnNow 4 = .ok (.ifCond .ne 14, 3) := by decide +kernel
theorem dX13_dawnNow_18 : decode cX13_dawnNow 18 = .ok (.bipush (-3), 2) := by decide +kernel
theorem dX13_dawnNow_20 : decode cX13_dawnNow 20 = .ok (.ireturn, 1) := by decide +kernel
theorem dX13_dawnNow_7 : decode cX13_dawnNow 7 = .ok (.aload_n 0, 1) := by decide +kernel
theorem dX13_dawnNow_8 : decode cX13_dawnNow 8 = .ok (.iconst 0, 1) := by decide +kernel
theorem dX13_dawnNow_9 : decode cX13_dawnNow 9 = .ok (.invokevirtual 412, 3) := by decide +kernel
theorem dX13_dawnNow_12 : decode cX13_dawnNow 12 = .ok (.sipush 999, 3) := by decide +kernel
theorem dX13_dawnNow_15 : decode cX13_dawnNow 15 = .ok (.if_icmp .ne 6, 3) := by decide +kernel
theorem dX13_dawnNow_21 : decode cX13_dawnNow 21 = .ok (.aload_n 0, 1) := by decide +kernel
theorem dX13_dawnNow_22 : decode cX13_dawnNow 22 = .ok (.iconst 3, 1) := by decide +kernel
theorem dX13_dawnNow_23 : decode cX13_dawnNow 23 = .ok (.invokevirtual 455, 3) := by decide +kernel
theorem dX13_dawnNow_26 : decode cX13_dawnNow 26 = .ok (.aload_n 0, 1) := by decide +kernel
theorem dX13_dawnNow_27 : decode cX13_dawnNow 27 = .ok (.invokevirtual 486, 3) := by decide +kernel
theorem dX13_dawnNow_30 : decode cX13_dawnNow 30 = .ok (.ireturn, 1) := by decide +kernel
set_option maxHeartbeats 4000000 in
set_option maxRecDepth 100000 in
theorem k_X13_dawnNow (l : Launch) (D : va_G) (cy : Nat → ClassId) (ld ad : Nat → Nat) (am : Nat) (hD : mz_D ad am) (Fa : Nat → Int32) (Ga : Nat → Int64) (Ra : Nat → Nat → Int32) (Sa : Nat → Nat → Int64) (hIF : mz_IF true Fa) (hIG : mz_IG Ga) (hIR : mz_IR [] true Ra) : Met l yX13_dawnNow (wl yX13_dawnNow cX13_dawnNow 1 (some .int)) ({ frames := 10, cells := 0, slots := 0, locals := 630 }) (mz_p D cy ld ad am Fa Ga Ra Sa [.ref am]) (mz_i D cy ad am (fun r F G R S => mz_IF true F ∧ mz_IG G ∧ mz_IR [] true R ∧ (∀ k : Nat, k ∉ ([8, 34, 38] : List Nat) → F k = Fa k) ∧ (∀ k : Nat, k ∉ ([3, 6, 7, 42] : List Nat) → R k = Ra k) ∧ (∀ k : Nat, k ∉ ([39, 40] : List Nat) → G k = Ga k) ∧ rK1 (Ra 3) (R 3) ∧ (-3) ≤ r.toInt ∧ r.toInt ≤ 8)) 0 0 (mz_W ad am) := by
  refine mz_met (y := yX13_dawnNow) (cc := cX13_dawnNow) (maxL := 1) (ret := (some .int)) (av := [.ref am]) _ (by decide) (Nat.le_of_ble_eq_true rfl) ?_
  intro p e s m args below meth c hx hb hr hml hts htl hown hlocks hK H locs hM hS ls hl
  have hown : s.vm.findClass RX13 = some m.cls := hown
  have hl : lv_has ls 1 [(0, .ref am)] := hl
  refine lv_aload_n hx hb dX13_dawnNow_0 rfl (lv_at hl 0 rfl) ?_
  obtain ⟨v2, hf1⟩ : ∃ z : Int32, Ra 3 12 = z := ⟨_, rfl⟩
  have hq_v2 := tk_rng v2
  have hr_v2 : (-1) ≤ v2.toInt ∧ v2.toInt ≤ 7 := by have h9 := hIR.d; unfold dO at h9; rw [hf1] at h9; omega
  refine mz_Vj (As := []) (rest := []) ⟨hx, hb, hml, hown, hts⟩ hK hM hS (k_X13_isDuel l D cy ld ad am hD _ _ _ _ v2 (hIF.weak) hIG hIR hf1) ⟨callB_of 0 hts (wl_in mw_1071) rfl rfl rfl (htl _ mw_5) (htl _ mw_1068) hd_yX13_isDuel ⟨(Nat.le_of_ble_eq_true rfl), (Nat.le_of_ble_eq_true rfl)⟩, htl _ mw_1069, htl _ mw_1070⟩ rfl hl.1 rfl (Nat.le_of_ble_eq_true rfl) dX13_dawnNow_1 ⟨(Nat.le_of_ble_eq_true rfl), (Nat.le_of_ble_eq_true rfl)⟩ (fun v3 H locs hpo hM hS => ?_)
  obtain ⟨hpo4, hpo5, hpo6, hpo10, hpo11, hpo12⟩ := hpo
  have hq_v3 := tk_rng v3
  refine lv_if_ne (tgt := 18) hx hb dX13_dawnNow_4 (by decide) (fun c9 => ?_) (fun c9 => ?_)
  · have hc14 : ¬ (v3.toInt = 0) := fun h9 => c9 ((fi_eq rfl (show (0 : Int32).toInt = 0 by decide)).mpr h9)
    have hwk_15 : 0 ≤ v2.toInt := by omega
    refine lv_bipush (v := (-3)) hx hb dX13_dawnNow_18 (by decide) ?_
    have hk_m3 : ((-3) : Int32).toInt = (-3) := by decide
    exact mz_iret (v := (-3)) hx hb hr rfl hlocks ⟨hIF, hIG, hIR, (fun _ _ => rfl), (fun _ _ => rfl), (fun _ _ => rfl), (rK1.refl rfl), (by omega), (by omega)⟩ hM hS dX13_dawnNow_20
  · have hc14 : v3.toInt = 0 := (fi_eq rfl (show (0 : Int32).toInt = 0 by decide)).mp c9
    have hwk_16 : v2.toInt ≤ (-1) := by omega
    refine lv_aload_n hx hb dX13_dawnNow_7 rfl (lv_at hl 0 rfl) ?_
    refine lv_iconst (v := 0) hx hb dX13_dawnNow_8 (by decide) ?_
    obtain ⟨v18, hf17⟩ : ∃ z : Int32, Ra 3 6 = z := ⟨_, rfl⟩
    have hq_v18 := tk_rng v18
    have hk_0 : (0 : Int32).toInt = 0 := by decide
    refine mz_Vj (As := [.int 0]) (rest := []) ⟨hx, hb, hml, hown, hts⟩ hK hM hS (k_X13_term_0 l D cy ld ad am hD _ _ _ _ v18 hf17) ⟨callB_of 1 hts (wl_in mw_1042) rfl rfl rfl (htl _ mw_5) (htl _ mw_1039) hd_yX13_term ⟨(Nat.le_of_ble_eq_true rfl), (Nat.le_of_ble_eq_true rfl)⟩, htl _ mw_1040, htl _ mw_1041⟩ rfl hl.1 rfl (Nat.le_of_ble_eq_true rfl) dX13_dawnNow_9 ⟨(Nat.le_of_ble_eq_true rfl), (Nat.le_of_ble_eq_true rfl)⟩ (fun v19 H locs hpo hM hS => ?_)
    have hpo20 := hpo
    have hq_v19 := tk_rng v19
    refine lv_sipush (v := 999) hx hb dX13_dawnNow_12 (by decide) ?_
    refine lv_icmp_ne (tgt := 21) hx hb dX13_dawnNow_15 (by decide) (fun c9 => ?_) (fun c9 => ?_)
    · have hc22 : ¬ (v19.toInt = 999) := fun h9 => c9 ((fi_eq rfl (show (999 : Int32).toInt = 999 by decide)).mpr h9)
      refine lv_aload_n hx hb dX13_dawnNow_21 rfl (lv_at hl 0 rfl) ?_
      refine lv_iconst (v := 3) hx hb dX13_dawnNow_22 (by decide) ?_
      have hk_3 : (3 : Int32).toInt = 3 := by decide
      refine mz_Vv (As := [.int 3]) (rest := []) ⟨hx, hb, hml, hown, hts⟩ hK hM hS (k_X13_remember l D cy ld ad am hD _ _ _ _ 3 hIF hIG hIR (by omega) (by omega)) ⟨callB_of 1 hts (wl_in mw_1079) rfl rfl rfl (htl _ mw_5) (htl _ mw_1076) hd_yX13_remember ⟨(Nat.le_of_ble_eq_true rfl), (Nat.le_of_ble_eq_true rfl)⟩, htl _ mw_1077, htl _ mw_1078⟩ rfl hl.1 rfl (Nat.le_of_ble_eq_true rfl) dX13_dawnNow_23 ⟨(Nat.le_of_ble_eq_true rfl), (Nat.le_of_ble_eq_true rfl)⟩ (fun H locs F G R S hpo hM hS => ?_)
      obtain ⟨hIF, hIG, hIR, hfr9, hrr9, hgr9⟩ := hpo
      have hFF := mz_fr (K := [8, 34, 38]) (Fa := Fa) hfr9 (fun _ _ => rfl) (by decide)
      have hRR := mz_fr (K := [3, 6, 7, 42]) (Fa := Ra) hrr9 (fun _ _ => rfl) (by decide)
      have hGG := mz_fr (K := [39, 40]) (Fa := Ga) hgr9 (fun _ _ => rfl) (by decide)
      have hrel : rK1 (Ra 3) (R 3) := (rK1.refl rfl).trans (rK1.refl (hrr9 3 (by decide)))
      have hf1 : R 3 12 = _ := (congrFun (hrr9 3 (by decide)) 12).trans hf1
      have hf17 : R 3 6 = _ := (congrFun (hrr9 3 (by decide)) 6).trans hf17
      refine lv_aload_n hx hb dX13_dawnNow_26 rfl (lv_at hl 0 rfl) ?_
      refine mz_Vi (As := []) (rest := []) ⟨hx, hb, hml, hown, hts⟩ hK hM hS (k_X13_dawnIt l D cy ld ad am hD _ _ _ _ hIF hIG hIR) ⟨callB_of 0 hts (wl_in mw_1149) rfl rfl rfl (htl _ mw_5) (htl _ mw_1146) hd_yX13_dawnIt ⟨(Nat.le_of_ble_eq_true rfl), (Nat.le_of_ble_eq_true rfl)⟩, htl _ mw_1147, htl _ mw_1148⟩ rfl hl.1 rfl (Nat.le_of_ble_eq_true rfl) dX13_dawnNow_27 ⟨(Nat.le_of_ble_eq_true rfl), (Nat.le_of_ble_eq_true rfl)⟩ (fun v24 H locs F G R S hpo hM hS => ?_)
      obtain ⟨hIF, hIG, hIR, hfr9, hrr9, hgr9, hrel9, hpo25, hpo26, hpo27⟩ := hpo
      have hq_v24 := tk_rng v24
      have hFF := mz_fr (K := [8, 34, 38]) (Fa := Fa) hfr9 hFF (by decide)
      have hRR := mz_fr (K := [3, 6, 7, 42]) (Fa := Ra) hrr9 hRR (by decide)
      have hGG := mz_fr (K := [39, 40]) (Fa := Ga) hgr9 hGG (by decide)
      have hrel := hrel.trans hrel9.k1
      exact mz_iret (v := v24) hx hb hr rfl hlocks ⟨hIF, hIG, hIR, hFF, hRR, hGG, hrel, (by omega), (by omega)⟩ hM hS dX13_dawnNow_30
    · have hc22 : v19.toInt = 999 := (fi_eq rfl (show (999 : Int32).toInt = 999 by decide)).mp c9
      refine lv_bipush (v := (-3)) hx hb dX13_dawnNow_18 (by decide) ?_
      have hk_m3 : ((-3) : Int32).toInt = (-3) := by decide
      exact mz_iret (v := (-3)) hx hb hr rfl hlocks ⟨hIF, hIG, hIR, (fun _ _ => rfl), (fun _ _ => rfl), (fun _ _ => rfl), (rK1.refl rfl), (by omega), (by omega)⟩ hM hS dX13_dawnNow_20
