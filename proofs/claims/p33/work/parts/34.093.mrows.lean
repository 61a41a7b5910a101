theorem hd_yX13_endDuel : yX13_endDuel.cls ≠ "java/lang/invoke/MethodHandle" ∧ yX13_endDuel.cls ≠ "java/lang/invoke/VarHandle" ∧ (parseMethodDescriptor yX13_endDuel.desc).map (fun d => d.parameters.length) = some 0 := by decide +kernel
theorem dX13_partNow_0 : decode cX13_partNow 0 = .ok (.aload_n 0, 1) := by decide +kernel
theorem dX13_partNow_1 : decode cX13_partNow 1 = .ok (.invokevirtual 434, 3) := by decide +kernel
theorem dX13_partNow_4 : decode cX13_partNow 4 = .ok (.ifCond .ne 6, 3) := by decide +kernel
theorem dX13_partNow_10 : decode cX13_partNow 10 = .ok (.aload_n 0, 1) := by decide +kernel
theorem dX13_partNow_11 : decode cX13_partNow 11 = .ok (.iconst 2, 1) := by decide +kernel
theorem dX13_partNow_12 : decode cX13_partNow 12 = .ok (.invokevirtual 455, 3) := by decide +kernel
theorem dX13_partNow_15 : decode cX13_partNow 15 = .ok (.aload_n 0, 1) := by decide +kernel
theorem dX13_partNow_16 : decode cX13_partNow 16 = .ok (.iconst 2, 1) := by decide +kernel
theorem dX13_partNow_17 : decode cX13_partNow 17 = .ok (.invokevirtual 194, 3) := by decide +kernel
theorem dX13_partNow_20 : decode cX13_partNow 20 = .ok (.istore_n 1, 1) := by decide +kernel
theorem dX13_partNow_21 : decode cX13_partNow 21 = .ok (.aload_n 0, 1) := by decide +kernel
theorem dX13_partNow_22 : decode cX13_partNow 22 = .ok (.invokevirtual 167, 3) := by decide +kernel
theorem dX13_partNow_25 : decode cX13_partNow 25 = .ok (.iload_n 1, 1) := by decide +kernel
theorem dX13_partNow_26 : decode cX13_partNow 26 = .ok (.ireturn, 1) := by decide +kernel
theorem dX13_partNow_7 : decode cX13_partNow 7 = .ok (.bipush (-3), 2) := by decide +kernel
theorem dX13_partNow_9 : decode cX13_partNow 9 = .ok (.ireturn, 1) := by decide +kernel
set_option maxHeartbeats 4000000 in
set_option maxRecDepth 100000 in
theorem k_X13_partNow (l : Launch) (D : va_G) (cy : Nat → ClassId) (ld ad : Nat → Nat) (am : Nat) (hD : mz_D ad am) (Fa : Nat → Int32) (Ga : Nat → Int64) (Ra : Nat → Nat → Int32) (Sa : Nat → Nat → Int64) (hIF : mz_IF true Fa) (hIG : mz_IG Ga) (hIR : mz_IR [] true Ra) : Met l yX13_partNow (wl yX13_partNow cX13_partNow 2 (some .int)) ({ frames := 5, cells := 0, slots := 0, locals := 280 }) (mz_p D cy ld ad am Fa Ga Ra Sa [.ref am]) (mz_i D cy ad am (fun r F G R S => mz_IF true F ∧ mz_IG G ∧ mz_IR [] true R ∧ (∀ k : Nat, k ∉ ([8] : List Nat) → F k = Fa k) ∧ (∀ k : Nat, k ∉ ([3, 6, 7] : List Nat) → R k = Ra k) ∧ (∀ k : Nat, k ∉ ([] : List Nat) → G k = Ga k) ∧ rK1 (Ra 3) (R 3) ∧ (-3) ≤ r.toInt ∧ r.toInt ≤ 99)) 0 0 (mz_W ad am) := by
  refine mz_met (y := yX13_partNow) (cc := cX13_partNow) (maxL := 2) (ret := (some .int)) (av := [.ref am]) _ (by decide) (Nat.le_of_ble_eq_true rfl) ?_
  intro p e s m args below meth c hx hb hr hml hts htl hown hlocks hK H locs hM hS ls hl
  have hown : s.vm.findClass RX13 = some m.cls := hown
  have hl : lv_has ls 2 [(0, .ref am)] := hl
  refine lv_aload_n hx hb dX13_partNow_0 rfl (lv_at hl 0 rfl) ?_
  obtain ⟨v2, hf1⟩ : ∃ z : Int32, Ra 3 12 = z := ⟨_, rfl⟩
  have hq_v2 := tk_rng v2
  have hr_v2 : (-1) ≤ v2.toInt ∧ v2.toInt ≤ 7 := by have h9 := hIR.d; unfold dO at h9; rw [hf1] at h9; omega
  refine mz_Vj (As := []) (rest := []) ⟨hx, hb, hml, hown, hts⟩ hK hM hS (k_X13_isDuel l D cy ld ad am hD _ _ _ _ v2 (hIF.weak) hIG hIR hf1) ⟨callB_of 0 hts (wl_in mw_1071) rfl rfl rfl (htl _ mw_5) (htl _ mw_1068) hd_yX13_isDuel ⟨(Nat.le_of_ble_eq_true rfl), (Nat.le_of_ble_eq_true rfl)⟩, htl _ mw_1069, htl _ mw_1070⟩ rfl hl.1 rfl (Nat.le_of_ble_eq_true rfl) dX13_partNow_1 ⟨(Nat.le_of_ble_eq_true rfl), (Nat.le_of_ble_eq_true rfl)⟩ (fun v3 H locs hpo hM hS => ?_)
  obtain ⟨hpo4, hpo5, hpo6, hpo10, hpo11, hpo12⟩ := hpo
  have hq_v3 := tk_rng v3
  refine lv_if_ne (tgt := 10) hx hb dX13_partNow_4 (by decide) (fun c9 => ?_) (fun c9 => ?_)
  · have hc14 : ¬ (v3.toInt = 0) := fun h9 => c9 ((fi_eq rfl (show (0 : Int32).toInt = 0 by decide)).mpr h9)
    have hwk_15 : 0 ≤ v2.toInt := by omega
    refine lv_aload_n hx hb dX13_partNow_10 rfl (lv_at hl 0 rfl) ?_
    refine lv_iconst (v := 2) hx hb dX13_partNow_11 (by decide) ?_
    have hk_2 : (2 : Int32).toInt = 2 := by decide
    refine mz_Vv (As := [.int 2]) (rest := []) ⟨hx, hb, hml, hown, hts⟩ hK hM hS (k_X13_remember l D cy ld ad am hD _ _ _ _ 2 hIF hIG hIR (by omega) (by omega)) ⟨callB_of 1 hts (wl_in mw_1079) rfl rfl rfl (htl _ mw_5) (htl _ mw_1076) hd_yX13_remember ⟨(Nat.le_of_ble_eq_true rfl), (Nat.le_of_ble_eq_true rfl)⟩, htl _ mw_1077, htl _ mw_1078⟩ rfl hl.1 rfl (Nat.le_of_ble_eq_true rfl) dX13_partNow_12 ⟨(Nat.le_of_ble_eq_true rfl), (Nat.le_of_ble_eq_true rfl)⟩ (fun H locs F G R S hpo hM hS => ?_)
    obtain ⟨hIF, hIG, hIR, hfr9, hrr9, hgr9⟩ := hpo
    have hFF := mz_fr (K := [8]) (Fa := Fa) hfr9 (fun _ _ => rfl) (by decide)
    have hRR := mz_fr (K := [3, 6, 7]) (Fa := Ra) hrr9 (fun _ _ => rfl) (by decide)
    have hGG := mz_fr (K := []) (Fa := Ga) hgr9 (fun _ _ => rfl) (by decide)
    have hrel : rK1 (Ra 3) (R 3) := (rK1.refl rfl).trans (rK1.refl (hrr9 3 (by decide)))
    have hf1 : R 3 12 = _ := (congrFun (hrr9 3 (by decide)) 12).trans hf1
    refine lv_aload_n hx hb dX13_partNow_15 rfl (lv_at hl 0 rfl) ?_
    refine lv_iconst (v := 2) hx hb dX13_partNow_16 (by decide) ?_
    obtain ⟨v18, hf17⟩ : ∃ z : Int32, R 3 14 = z := ⟨_, rfl⟩
    have hq_v18 := tk_rng v18
    have hr_v18 : (-1) ≤ v18.toInt ∧ v18.toInt ≤ 99 := by have h9 := hIR.d; unfold dO at h9; rw [hf17] at h9; omega
    have hk_2 : (2 : Int32).toInt = 2 := by decide
    refine mz_Vj (As := [.int 2]) (rest := []) ⟨hx, hb, hml, hown, hts⟩ hK hM hS (k_X13_inDuel_2 l D cy ld ad am hD _ _ _ _ v18 hf17) ⟨callB_of 1 hts (wl_in mw_1046) rfl rfl rfl (htl _ mw_5) (htl _ mw_1043) hd_yX13_inDuel ⟨(Nat.le_of_ble_eq_true rfl), (Nat.le_of_ble_eq_true rfl)⟩, htl _ mw_1044, htl _ mw_1045⟩ rfl hl.1 rfl (Nat.le_of_ble_eq_true rfl) dX13_partNow_17 ⟨(Nat.le_of_ble_eq_true rfl), (Nat.le_of_ble_eq_true rfl)⟩ (fun v19 H locs hpo hM hS => ?_)
    have hpo20 := hpo
    have hq_v19 := tk_rng v19
    refine lv_istore_n (lv' := [(1, .int v19), (0, .ref am)]) hx hb dX13_partNow_20 rfl hl (by decide) rfl (fun ls hl => ?_)
    refine lv_aload_n hx hb dX13_partNow_21 rfl (lv_at hl 1 rfl) ?_
    have hIR := hIR.bare
    refine mz_Vv (As := []) (rest := []) ⟨hx, hb, hml, hown, hts⟩ hK hM hS (k_X13_endDuel l D cy ld ad am hD _ _ _ _ hIF hIG hIR) ⟨callB_of 0 hts (wl_in mw_248) rfl rfl rfl (htl _ mw_5) (htl _ mw_245) hd_yX13_endDuel ⟨(Nat.le_of_ble_eq_true rfl), (Nat.le_of_ble_eq_true rfl)⟩, htl _ mw_246, htl _ mw_247⟩ rfl hl.1 rfl (Nat.le_of_ble_eq_true rfl) dX13_partNow_22 ⟨(Nat.le_of_ble_eq_true rfl), (Nat.le_of_ble_eq_true rfl)⟩ (fun H locs F G R S hpo hM hS => ?_)
    obtain ⟨hIF, hIG, hIR, hfr9, hrr9, hgr9, hrel9, hf22, hf23, hf24, hf25, hf26⟩ := hpo
    have hFF := mz_fr (K := [8]) (Fa := Fa) hfr9 hFF (by decide)
    have hRR := mz_fr (K := [3, 6, 7]) (Fa := Ra) hrr9 hRR (by decide)
    have hGG := mz_fr (K := []) (Fa := Ga) hgr9 hGG (by decide)
    have hrel := hrel.trans hrel9.k1
    refine lv_iload_n hx hb dX13_partNow_25 rfl (lv_at hl 0 rfl) ?_
    exact mz_iret (v := v19) hx hb hr rfl hlocks ⟨hIF, hIG, hIR, hFF, hRR, hGG, hrel, (by omega), (by omega)⟩ hM hS dX13_partNow_26
  · have hc14 : v3.toInt = 0 := (fi_eq rfl (show (0 : Int32).toInt = 0 by decide)).mp c9
    have hwk_28 : v2.toInt ≤ (-1) := by omega
    refine lv_bipush (v := (-3)) hx hb dX13_partNow_7 (by decide) ?_
    have hk_m3 : ((-3) : Int32).toInt = (-3) := by decide
    exact mz_iret (v := (-3)) hx hb hr rfl hlocks ⟨hIF, hIG, hIR, (fun _ _ => rfl), (fun _ _ => rfl), (fun _ _ => rfl), (rK1.refl rfl), (by omega), (by omega)⟩ hM hS dX13_partNow_9
