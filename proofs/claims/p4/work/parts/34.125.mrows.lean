theorem hd_yX13_result : yX13_result.cls ≠ "java/lang/invoke/MethodHandle" ∧ yX13_result.cls ≠ "java/lang/invoke/VarHandle" ∧ (parseMethodDescriptor yX13_result.desc).map (fun d => d.parameters.length) = some 5 := by decide +kernel
theorem dX13_resultOnPaper_0 : decode cX13_resultOnPaper 0 = .ok (.aload_n 0, 1) := by decide +kernel
theorem dX13_resultOnPaper_1 : decode cX13_resultOnPaper 1 = .ok (.bipush 20, 2) := by decide +kernel
theorem dX13_resultOnPaper_3 : decode cX13_resultOnPaper 3 = .ok (.invokevirtual 179, 3) := by decide +kernel
theorem dX13_resultOnPaper_6 : decode cX13_resultOnPaper 6 = .ok (.aload_n 0, 1) := by decide +kernel
theorem dX13_resultOnPaper_7 : decode cX13_resultOnPaper 7 = .ok (.iload_n 1, 1) := by decide +kernel
theorem dX13_resultOnPaper_8 : decode cX13_resultOnPaper 8 = .ok (.iload_n 2, 1) := by decide +kernel
theorem dX13_resultOnPaper_9 : decode cX13_resultOnPaper 9 = .ok (.iconst 1, 1) := by decide +kernel
theorem dX13_resultOnPaper_10 : decode cX13_resultOnPaper 10 = .ok (.iload_n 3, 1) := by decide +kernel
theorem dX13_resultOnPaper_11 : decode cX13_resultOnPaper 11 = .ok (.iload 4, 2) := by decide +kernel
theorem dX13_resultOnPaper_13 : decode cX13_resultOnPaper 13 = .ok (.invokevirtual 525, 3) := by decide +kernel
theorem dX13_resultOnPaper_16 : decode cX13_resultOnPaper 16 = .ok (.istore 5, 2) := by decide +kernel
theorem dX13_resultOnPaper_18 : decode cX13_resultOnPaper 18 = .ok (.aload_n 0, 1) := by decide +kernel
theorem dX13_resultOnPaper_19 : decode cX13_resultOnPaper 19 = .ok (.bipush 20, 2) := by decide +kernel
theorem dX13_resultOnPaper_21 : decode cX13_resultOnPaper 21 = .ok (.invokevirtual 187, 3) := by decide +kernel
theorem dX13_resultOnPaper_24 : decode cX13_resultOnPaper 24 = .ok (.iload 5, 2) := by decide +kernel
theorem dX13_resultOnPaper_26 : decode cX13_resultOnPaper 26 = .ok (.ireturn, 1) := by decide +kernel
set_option maxHeartbeats 4000000 in
set_option maxRecDepth 100000 in
theorem k_X13_resultOnPaper (l : Launch) (D : va_G) (cy : Nat → ClassId) (ld ad : Nat → Nat) (am : Nat) (hD : mz_D ad am) (Fa : Nat → Int32) (Ga : Nat → Int64) (Ra : Nat → Nat → Int32) (Sa : Nat → Nat → Int64) (p1 : Int32) (p2 : Int32) (p3 : Int32) (p4 : Int32) (hIF : mz_IF true Fa) (hIG : mz_IG Ga) (hIR : mz_IR [] true Ra) (hp_0 : 0 ≤ p1.toInt) (hp_1 : p1.toInt ≤ 7) (hp_2 : 0 ≤ p2.toInt) (hp_3 : p2.toInt ≤ 7) (hp_4 : (-2) ≤ p3.toInt) (hp_5 : p3.toInt ≤ 9) (hp_6 : (-2) ≤ p4.toInt) (hp_7 : p4.toInt ≤ 9) : Met l yX13_resultOnPaper (wl yX13_resultOnPaper cX13_resultOnPaper 6 (some .int)) ({ frames := 12, cells := 0, slots := 0, locals := 770 }) (mz_p D cy ld ad am Fa Ga Ra Sa [.ref am, .int p1, .int p2, .int p3, .int p4]) (mz_i D cy ad am (fun r F G R S => mz_IF true F ∧ mz_IG G ∧ mz_IR [] true R ∧ (∀ k : Nat, k ∉ ([34, 38, 41] : List Nat) → F k = Fa k) ∧ (∀ k : Nat, k ∉ ([3, 6] : List Nat) → R k = Ra k) ∧ (∀ k : Nat, k ∉ ([39, 40, 47] : List Nat) → G k = Ga k) ∧ rK1 (Ra 3) (R 3) ∧ (-1) ≤ r.toInt ∧ r.toInt ≤ 1)) 0 0 (mz_W ad am) := by
  refine mz_met (y := yX13_resultOnPaper) (cc := cX13_resultOnPaper) (maxL := 6) (ret := (some .int)) (av := [.ref am, .int p1, .int p2, .int p3, .int p4]) _ (by decide) (Nat.le_of_ble_eq_true rfl) ?_
  intro p e s m args below meth c hx hb hr hml hts htl hown hlocks hK H locs hM hS ls hl
  have hown : s.vm.findClass RX13 = some m.cls := hown
  have hl : lv_has ls 6 [(0, .ref am), (1, .int p1), (2, .int p2), (3, .int p3), (4, .int p4)] := hl
  have hr_p1 := tk_rng p1
  have hr_p2 := tk_rng p2
  have hr_p3 := tk_rng p3
  have hr_p4 := tk_rng p4
  refine lv_aload_n hx hb dX13_resultOnPaper_0 rfl (lv_at hl 0 rfl) ?_
  refine lv_bipush (v := 20) hx hb dX13_resultOnPaper_1 (by decide) ?_
  have hk_20 : (20 : Int32).toInt = 20 := by decide
  refine mz_Vv (As := [.int 20]) (rest := []) ⟨hx, hb, hml, hown, hts⟩ hK hM hS (k_X13_keepAll l D cy ld ad am hD _ _ _ _ 20 hIF hIG hIR (by omega) (by omega)) ⟨callB_of 1 hts (wl_in mw_1033) rfl rfl rfl (htl _ mw_5) (htl _ mw_1030) hd_yX13_keepAll ⟨(Nat.le_of_ble_eq_true rfl), (Nat.le_of_ble_eq_true rfl)⟩, htl _ mw_1031, htl _ mw_1032⟩ rfl hl.1 rfl (Nat.le_of_ble_eq_true rfl) dX13_resultOnPaper_3 ⟨(Nat.le_of_ble_eq_true rfl), (Nat.le_of_ble_eq_true rfl)⟩ (fun H locs F G R S hpo hM hS => ?_)
  obtain ⟨hIF, hIG, hIR, hfr9, hrr9, hgr9⟩ := hpo
  have hFF := mz_fr (K := [34, 38, 41]) (Fa := Fa) hfr9 (fun _ _ => rfl) (by decide)
  have hRR := mz_fr (K := [3, 6]) (Fa := Ra) hrr9 (fun _ _ => rfl) (by decide)
  have hGG := mz_fr (K := [39, 40, 47]) (Fa := Ga) hgr9 (fun _ _ => rfl) (by decide)
  have hrel : rK1 (Ra 3) (R 3) := (rK1.refl rfl).trans (rK1.refl (hrr9 3 (by decide)))
  refine lv_aload_n hx hb dX13_resultOnPaper_6 rfl (lv_at hl 0 rfl) ?_
  refine lv_iload_n hx hb dX13_resultOnPaper_7 rfl (lv_at hl 1 rfl) ?_
  refine lv_iload_n hx hb dX13_resultOnPaper_8 rfl (lv_at hl 2 rfl) ?_
  refine lv_iconst (v := 1) hx hb dX13_resultOnPaper_9 (by decide) ?_
  refine lv_iload_n hx hb dX13_resultOnPaper_10 rfl (lv_at hl 3 rfl) ?_
  refine lv_iload hx hb dX13_resultOnPaper_11 (lv_at hl 4 rfl) ?_
  have hk_1 : (1 : Int32).toInt = 1 := by decide
  refine mz_Vi (As := [.int p1, .int p2, .int 1, .int p3, .int p4]) (rest := []) ⟨hx, hb, hml, hown, hts⟩ hK hM hS (k_X13_result l D cy ld ad am hD _ _ _ _ p1 p2 1 p3 p4 hIF hIG hIR (by omega) (by omega) (by omega) (by omega) (by omega) (by omega) (by omega) (by omega) (by omega) (by omega)) ⟨callB_of 5 hts (wl_in mw_1373) rfl rfl rfl (htl _ mw_5) (htl _ mw_1370) hd_yX13_result ⟨(Nat.le_of_ble_eq_true rfl), (Nat.le_of_ble_eq_true rfl)⟩, htl _ mw_1371, htl _ mw_1372⟩ rfl hl.1 rfl (Nat.le_of_ble_eq_true rfl) dX13_resultOnPaper_13 ⟨(Nat.le_of_ble_eq_true rfl), (Nat.le_of_ble_eq_true rfl)⟩ (fun v2 H locs F G R S hpo hM hS => ?_)
  obtain ⟨hIF, hIG, hIR, hfr9, hrr9, hgr9, hrel9, hpo3, hpo4⟩ := hpo
  have hq_v2 := tk_rng v2
  have hFF := mz_fr (K := [34, 38, 41]) (Fa := Fa) hfr9 hFF (by decide)
  have hRR := mz_fr (K := [3, 6]) (Fa := Ra) hrr9 hRR (by decide)
  have hGG := mz_fr (K := [39, 40, 47]) (Fa := Ga) hgr9 hGG (by decide)
  have hrel := hrel.trans hrel9.k1
  refine lv_istore (lv' := [(5, .int v2), (0, .ref am), (1, .int p1), (2, .int p2), (3, .int p3), (4, .int p4)]) hx hb dX13_resultOnPaper_16 hl (by decide) rfl (fun ls hl => ?_)
  refine lv_aload_n hx hb dX13_resultOnPaper_18 rfl (lv_at hl 1 rfl) ?_
  refine lv_bipush (v := 20) hx hb dX13_resultOnPaper_19 (by decide) ?_
  have hk_20 : (20 : Int32).toInt = 20 := by decide
  refine mz_Vv (As := [.int 20]) (rest := []) ⟨hx, hb, hml, hown, hts⟩ hK hM hS (k_X13_putBack l D cy ld ad am hD _ _ _ _ 20 hIF hIG hIR (by omega) (by omega)) ⟨callB_of 1 hts (wl_in mw_1162) rfl rfl rfl (htl _ mw_5) (htl _ mw_1159) hd_yX13_putBack ⟨(Nat.le_of_ble_eq_true rfl), (Nat.le_of_ble_eq_true rfl)⟩, htl _ mw_1160, htl _ mw_1161⟩ rfl hl.1 rfl (Nat.le_of_ble_eq_true rfl) dX13_resultOnPaper_21 ⟨(Nat.le_of_ble_eq_true rfl), (Nat.le_of_ble_eq_true rfl)⟩ (fun H locs F G R S hpo hM hS => ?_)
  obtain ⟨hIF, hIG, hIR, hfr9, hrr9, hgr9, hrel9⟩ := hpo
  have hFF := mz_fr (K := [34, 38, 41]) (Fa := Fa) hfr9 hFF (by decide)
  have hRR := mz_fr (K := [3, 6]) (Fa := Ra) hrr9 hRR (by decide)
  have hGG := mz_fr (K := [39, 40, 47]) (Fa := Ga) hgr9 hGG (by decide)
  have hrel := hrel.trans hrel9
  refine lv_iload hx hb dX13_resultOnPaper_24 (lv_at hl 0 rfl) ?_
  exact mz_iret (v := v2) hx hb hr rfl hlocks ⟨hIF, hIG, hIR, hFF, hRR, hGG, hrel, (by omega), (by omega)⟩ hM hS dX13_resultOnPaper_26
