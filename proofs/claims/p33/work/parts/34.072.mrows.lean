theorem dX13_tiresSet_0 : decode cX13_tiresSet 0 = .ok (.aload_n 0, 1) := by decide +kernel
theorem dX13_tiresSet_1 : decode cX13_tiresSet 1 = .ok (.iconst 1, 1) := by decide +kernel
theorem dX13_tiresSet_2 : decode cX13_tiresSet 2 = .ok (.aload_n 0, 1) := by decide +kernel
theorem dX13_tiresSet_3 : decode cX13_tiresSet 3 = .ok (.getfield 101, 3) := by decide +kernel
theorem dX13_tiresSet_6 : decode cX13_tiresSet 6 = .ok (.iconst 2, 1) := by decide +kernel
theorem dX13_tiresSet_7 : decode cX13_tiresSet 7 = .ok (.laload, 1) := by decide +kernel
theorem dX13_tiresSet_8 : decode cX13_tiresSet 8 = .ok (.ldc2_w 205, 3) := by decide +kernel
theorem dX13_tiresSet_11 : decode cX13_tiresSet 11 = .ok (.ldiv, 1) := by decide +kernel
theorem dX13_tiresSet_12 : decode cX13_tiresSet 12 = .ok (.invokevirtual 417, 3) := by decide +kernel
theorem dX13_tiresSet_15 : decode cX13_tiresSet 15 = .ok (.iconst 0, 1) := by decide +kernel
theorem dX13_tiresSet_16 : decode cX13_tiresSet 16 = .ok (.bipush 99, 2) := by decide +kernel
theorem dX13_tiresSet_18 : decode cX13_tiresSet 18 = .ok (.invokestatic 421, 3) := by decide +kernel
theorem dX13_tiresSet_21 : decode cX13_tiresSet 21 = .ok (.ireturn, 1) := by decide +kernel
set_option maxHeartbeats 4000000 in
set_option maxRecDepth 100000 in
theorem k_X13_tiresSet (l : Launch) (D : va_G) (cy : Nat → ClassId) (ld ad : Nat → Nat) (am : Nat) (hD : mz_D ad am) (Fa : Nat → Int32) (Ga : Nat → Int64) (Ra : Nat → Nat → Int32) (Sa : Nat → Nat → Int64) (hIF : mz_IF true Fa) (hIG : mz_IG Ga) (hIR : mz_IR [] true Ra) : Met l yX13_tiresSet (wl yX13_tiresSet cX13_tiresSet 1 (some .int)) ({ frames := 8, cells := 0, slots := 0, locals := 490 }) (mz_p D cy ld ad am Fa Ga Ra Sa [.ref am]) (mz_i D cy ad am (fun r F G R S => mz_IF true F ∧ mz_IG G ∧ mz_IR [] true R ∧ (∀ k : Nat, k ∉ ([34, 38] : List Nat) → F k = Fa k) ∧ (∀ k : Nat, k ∉ ([] : List Nat) → R k = Ra k) ∧ (∀ k : Nat, k ∉ ([39, 40] : List Nat) → G k = Ga k) ∧ 0 ≤ r.toInt ∧ r.toInt ≤ 99)) 0 0 (mz_W ad am) := by
  refine mz_met (y := yX13_tiresSet) (cc := cX13_tiresSet) (maxL := 1) (ret := (some .int)) (av := [.ref am]) _ (by decide) (Nat.le_of_ble_eq_true rfl) ?_
  intro p e s m args below meth c hx hb hr hml hts htl hown hlocks hK H locs hM hS ls hl
  have hown : s.vm.findClass RX13 = some m.cls := hown
  have hl : lv_has ls 1 [(0, .ref am)] := hl
  refine lv_aload_n hx hb dX13_tiresSet_0 rfl (lv_at hl 0 rfl) ?_
  refine lv_iconst (v := 1) hx hb dX13_tiresSet_1 (by decide) ?_
  refine lv_aload_n hx hb dX13_tiresSet_2 rfl (lv_at hl 0 rfl) ?_
  refine mz_getR hx hb htl hown hK hM 35 (Nat.le_of_ble_eq_true rfl) (Nat.le_of_ble_eq_true rfl) (htl _ mw_223) (fun _ h9 => h9) dX13_tiresSet_3 ?_
  refine lv_iconst (v := 2) hx hb dX13_tiresSet_6 (by decide) ?_
  refine mz_lald hx hb hK hM 35 (Nat.le_of_ble_eq_true rfl) rfl (nn := 13) rfl (I := 2) (by decide) (by decide) (by decide) dX13_tiresSet_7 (fun w1 _ => ?_)
  refine lv_ldc2 hx hb hown (htl _ mw_316) dX13_tiresSet_8 ?_
  refine lv_ldiv hx hb dX13_tiresSet_11 (by decide) ?_
  refine tk_anyl (fun w2 => ?_)
  have hk_1 : (1 : Int32).toInt = 1 := by decide
  refine mz_Vl (As := [.int 1, .long w2]) (rest := []) ⟨hx, hb, hml, hown, hts⟩ hK hM hS (k_X13_tells l D cy ld ad am hD _ _ _ _ 1 w2 hIF hIG hIR) ⟨callB_of 2 hts (wl_in mw_1107) rfl rfl rfl (htl _ mw_5) (htl _ mw_1104) hd_yX13_tells ⟨(Nat.le_of_ble_eq_true rfl), (Nat.le_of_ble_eq_true rfl)⟩, htl _ mw_1105, htl _ mw_1106⟩ rfl hl.1 rfl (Nat.le_of_ble_eq_true rfl) dX13_tiresSet_12 ⟨(Nat.le_of_ble_eq_true rfl), (Nat.le_of_ble_eq_true rfl)⟩ (fun w3 H locs F G R S hpo hM hS => ?_)
  obtain ⟨hIF, hIG, hIR, hfr9, hrr9, hgr9⟩ := hpo
  have hq_w3 := tk_rngL w3
  have hFF := mz_fr (K := [34, 38]) (Fa := Fa) hfr9 (fun _ _ => rfl) (by decide)
  have hRR := mz_fr (K := []) (Fa := Ra) hrr9 (fun _ _ => rfl) (by decide)
  have hGG := mz_fr (K := [39, 40]) (Fa := Ga) hgr9 (fun _ _ => rfl) (by decide)
  refine lv_iconst (v := 0) hx hb dX13_tiresSet_15 (by decide) ?_
  refine lv_bipush (v := 99) hx hb dX13_tiresSet_16 (by decide) ?_
  have hk_0 : (0 : Int32).toInt = 0 := by decide
  have hk_99 : (99 : Int32).toInt = 99 := by decide
  refine mz_Sj (As := [.long w3, .int 0, .int 99]) (rest := []) ⟨hx, hb, hml, hown, hts⟩ hK hM hS (k_X13_within l D cy ld ad am hD _ _ _ _ w3 0 99 (by omega)) ⟨callB_of 3 hts (wl_in mw_1125) rfl rfl rfl (htl _ mw_5) (htl _ mw_1123) hd_yX13_within ⟨(Nat.le_of_ble_eq_true rfl), (Nat.le_of_ble_eq_true rfl)⟩, htl _ mw_1124⟩ rfl hl.1 rfl (Nat.le_of_ble_eq_true rfl) dX13_tiresSet_18 ⟨(Nat.le_of_ble_eq_true rfl), (Nat.le_of_ble_eq_true rfl)⟩ (fun v5 H locs hpo hM hS => ?_)
  obtain ⟨hpo6, hpo10⟩ := hpo
  have hq_v5 := tk_rng v5
  exact mz_iret (v := v5) hx hb hr rfl hlocks ⟨hIF, hIG, hIR, hFF, hRR, hGG, (by omega), (by omega)⟩ hM hS dX13_tiresSet_21
