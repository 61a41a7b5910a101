theorem hd_yX13_setSung : yX13_setSung.cls ≠ "java/lang/invoke/MethodHandle" ∧ yX13_setSung.cls ≠ "java/lang/invoke/VarHandle" ∧ (parseMethodDescriptor yX13_setSung.desc).map (fun d => d.parameters.length) = some 6 := by decide +kernel
theorem dX13_wakesOf_0 : decode cX13_wakesOf 0 = .ok (.aload_n 0, 1) := by decide +kernel
theorem dX13_wakesOf_1 : decode cX13_wakesOf 1 = .ok (.iconst (-1), 1) := by decide +kernel
theorem dX13_wakesOf_2 : decode cX13_wakesOf 2 = .ok (.aload_n 0, 1) := by decide +kernel
theorem dX13_wakesOf_3 : decode cX13_wakesOf 3 = .ok (.iload_n 1, 1) := by decide +kernel
theorem dX13_wakesOf_4 : decode cX13_wakesOf 4 = .ok (.iconst 1, 1) := by decide +kernel
theorem dX13_wakesOf_5 : decode cX13_wakesOf 5 = .ok (.invokevirtual 207, 3) := by decide +kernel
theorem dX13_wakesOf_8 : decode cX13_wakesOf 8 = .ok (.iconst (-1), 1) := by decide +kernel
theorem dX13_wakesOf_9 : decode cX13_wakesOf 9 = .ok (.iconst (-1), 1) := by decide +kernel
theorem dX13_wakesOf_10 : decode cX13_wakesOf 10 = .ok (.aload_n 0, 1) := by decide +kernel
theorem dX13_wakesOf_11 : decode cX13_wakesOf 11 = .ok (.iload_n 1, 1) := by decide +kernel
theorem dX13_wakesOf_12 : decode cX13_wakesOf 12 = .ok (.iconst 0, 1) := by decide +kernel
theorem dX13_wakesOf_13 : decode cX13_wakesOf 13 = .ok (.invokevirtual 207, 3) := by decide +kernel
theorem dX13_wakesOf_16 : decode cX13_wakesOf 16 = .ok (.iconst (-1), 1) := by decide +kernel
theorem dX13_wakesOf_17 : decode cX13_wakesOf 17 = .ok (.invokevirtual 425, 3) := by decide +kernel
theorem dX13_wakesOf_20 : decode cX13_wakesOf 20 = .ok (.aload_n 0, 1) := by decide +kernel
theorem dX13_wakesOf_21 : decode cX13_wakesOf 21 = .ok (.iconst 2, 1) := by decide +kernel
theorem dX13_wakesOf_22 : decode cX13_wakesOf 22 = .ok (.ldc2_w 429, 3) := by decide +kernel
theorem dX13_wakesOf_25 : decode cX13_wakesOf 25 = .ok (.invokevirtual 417, 3) := by decide +kernel
theorem dX13_wakesOf_28 : decode cX13_wakesOf 28 = .ok (.iconst 0, 1) := by decide +kernel
theorem dX13_wakesOf_29 : decode cX13_wakesOf 29 = .ok (.sipush 999, 3) := by decide +kernel
theorem dX13_wakesOf_32 : decode cX13_wakesOf 32 = .ok (.invokestatic 421, 3) := by decide +kernel
theorem dX13_wakesOf_35 : decode cX13_wakesOf 35 = .ok (.ireturn, 1) := by decide +kernel
set_option maxHeartbeats 4000000 in
set_option maxRecDepth 100000 in
theorem k_X13_wakesOf (l : Launch) (D : va_G) (cy : Nat → ClassId) (ld ad : Nat → Nat) (am : Nat) (hD : mz_D ad am) (Fa : Nat → Int32) (Ga : Nat → Int64) (Ra : Nat → Nat → Int32) (Sa : Nat → Nat → Int64) (p1 : Int32) (hIF : mz_IF true Fa) (hIG : mz_IG Ga) (hIR : mz_IR [] true Ra) (hp_0 : 0 ≤ p1.toInt) (hp_1 : p1.toInt ≤ 7) : Met l yX13_wakesOf (wl yX13_wakesOf cX13_wakesOf 2 (some .int)) ({ frames := 8, cells := 0, slots := 0, locals := 490 }) (mz_p D cy ld ad am Fa Ga Ra Sa [.ref am, .int p1]) (mz_i D cy ad am (fun r F G R S => mz_IF true F ∧ mz_IG G ∧ mz_IR [] true R ∧ (∀ k : Nat, k ∉ ([34, 38] : List Nat) → F k = Fa k) ∧ (∀ k : Nat, k ∉ ([] : List Nat) → R k = Ra k) ∧ (∀ k : Nat, k ∉ ([39, 40] : List Nat) → G k = Ga k) ∧ 0 ≤ r.toInt ∧ r.toInt ≤ 999)) 0 0 (mz_W ad am) := by
  refine mz_met (y := yX13_wakesOf) (cc := cX13_wakesOf) (maxL := 2) (ret := (some .int)) (av := [.ref am, .int p1]) _ (by decide) (Nat.le_of_ble_eq_true rfl) ?_
  intro p e s m args below meth c hx hb hr hml hts htl hown hlocks hK H locs hM hS ls hl
  have hown : s.vm.findClass RX13 = some m.cls := hown
  have hl : lv_has ls 2 [(0, .ref am), (1, .int p1)] := hl
  have hr_p1 := tk_rng p1
  refine lv_aload_n hx hb dX13_wakesOf_0 rfl (lv_at hl 0 rfl) ?_
  refine lv_iconst (v := (-1)) hx hb dX13_wakesOf_1 (by decide) ?_
  refine lv_aload_n hx hb dX13_wakesOf_2 rfl (lv_at hl 0 rfl) ?_
  refine lv_iload_n hx hb dX13_wakesOf_3 rfl (lv_at hl 1 rfl) ?_
  refine lv_iconst (v := 1) hx hb dX13_wakesOf_4 (by decide) ?_
  have hk_1 : (1 : Int32).toInt = 1 := by decide
  refine mz_Vj (As := [.int p1, .int 1]) (rest := [.int (-1), .ref am]) ⟨hx, hb, hml, hown, hts⟩ hK hM hS (k_X13_ofSinger_1 l D cy ld ad am hD _ _ _ _ p1 (hIF.weak) hIG hIR (by omega) (by omega)) ⟨callB_of 2 hts (wl_in mw_324) rfl rfl rfl (htl _ mw_5) (htl _ mw_321) hd_yX13_ofSinger ⟨(Nat.le_of_ble_eq_true rfl), (Nat.le_of_ble_eq_true rfl)⟩, htl _ mw_322, htl _ mw_323⟩ rfl hl.1 rfl (Nat.le_of_ble_eq_true rfl) dX13_wakesOf_5 ⟨(Nat.le_of_ble_eq_true rfl), (Nat.le_of_ble_eq_true rfl)⟩ (fun v1 H locs hpo hM hS => ?_)
  have hq_v1 := tk_rng v1
  refine lv_iconst (v := (-1)) hx hb dX13_wakesOf_8 (by decide) ?_
  refine lv_iconst (v := (-1)) hx hb dX13_wakesOf_9 (by decide) ?_
  refine lv_aload_n hx hb dX13_wakesOf_10 rfl (lv_at hl 0 rfl) ?_
  refine lv_iload_n hx hb dX13_wakesOf_11 rfl (lv_at hl 1 rfl) ?_
  refine lv_iconst (v := 0) hx hb dX13_wakesOf_12 (by decide) ?_
  have hk_0 : (0 : Int32).toInt = 0 := by decide
  refine mz_Vj (As := [.int p1, .int 0]) (rest := [.int (-1), .int (-1), .int v1, .int (-1), .ref am]) ⟨hx, hb, hml, hown, hts⟩ hK hM hS (k_X13_ofSinger_0 l D cy ld ad am hD _ _ _ _ p1 (hIF.weak) hIG hIR (by omega) (by omega)) ⟨callB_of 2 hts (wl_in mw_324) rfl rfl rfl (htl _ mw_5) (htl _ mw_321) hd_yX13_ofSinger ⟨(Nat.le_of_ble_eq_true rfl), (Nat.le_of_ble_eq_true rfl)⟩, htl _ mw_322, htl _ mw_323⟩ rfl hl.1 rfl (Nat.le_of_ble_eq_true rfl) dX13_wakesOf_13 ⟨(Nat.le_of_ble_eq_true rfl), (Nat.le_of_ble_eq_true rfl)⟩ (fun v3 H locs hpo hM hS => ?_)
  have hq_v3 := tk_rng v3
  refine lv_iconst (v := (-1)) hx hb dX13_wakesOf_16 (by decide) ?_
  have hk_m1 : ((-1) : Int32).toInt = (-1) := by decide
  have hk_m1 : ((-1) : Int32).toInt = (-1) := by decide
  have hk_m1 : ((-1) : Int32).toInt = (-1) := by decide
  have hk_m1 : ((-1) : Int32).toInt = (-1) := by decide
  refine mz_Vv (As := [.int (-1), .int v1, .int (-1), .int (-1), .int v3, .int (-1)]) (rest := []) ⟨hx, hb, hml, hown, hts⟩ hK hM hS (k_X13_setSung l D cy ld ad am hD _ _ _ _ (-1) v1 (-1) (-1) v3 (-1) hIF hIG hIR (by omega) (by omega)) ⟨callB_of 6 hts (wl_in mw_1099) rfl rfl rfl (htl _ mw_5) (htl _ mw_1096) hd_yX13_setSung ⟨(Nat.le_of_ble_eq_true rfl), (Nat.le_of_ble_eq_true rfl)⟩, htl _ mw_1097, htl _ mw_1098⟩ rfl hl.1 rfl (Nat.le_of_ble_eq_true rfl) dX13_wakesOf_17 ⟨(Nat.le_of_ble_eq_true rfl), (Nat.le_of_ble_eq_true rfl)⟩ (fun H locs F G R S hpo hM hS => ?_)
  obtain ⟨hIF, hIG, hIR, hfr9, hrr9, hgr9⟩ := hpo
  have hFF := mz_fr (K := [34, 38]) (Fa := Fa) hfr9 (fun _ _ => rfl) (by decide)
  have hRR := mz_fr (K := []) (Fa := Ra) hrr9 (fun _ _ => rfl) (by decide)
  have hGG := mz_fr (K := [39, 40]) (Fa := Ga) hgr9 (fun _ _ => rfl) (by decide)
  refine lv_aload_n hx hb dX13_wakesOf_20 rfl (lv_at hl 0 rfl) ?_
  refine lv_iconst (v := 2) hx hb dX13_wakesOf_21 (by decide) ?_
  refine lv_ldc2 hx hb hown (htl _ mw_1154) dX13_wakesOf_22 ?_
  have hk_2 : (2 : Int32).toInt = 2 := by decide
  have hk_100 : (100 : Int64).toInt = 100 := by decide
  refine mz_Vl (As := [.int 2, .long 100]) (rest := []) ⟨hx, hb, hml, hown, hts⟩ hK hM hS (k_X13_tells l D cy ld ad am hD _ _ _ _ 2 100 hIF hIG hIR) ⟨callB_of 2 hts (wl_in mw_1107) rfl rfl rfl (htl _ mw_5) (htl _ mw_1104) hd_yX13_tells ⟨(Nat.le_of_ble_eq_true rfl), (Nat.le_of_ble_eq_true rfl)⟩, htl _ mw_1105, htl _ mw_1106⟩ rfl hl.1 rfl (Nat.le_of_ble_eq_true rfl) dX13_wakesOf_25 ⟨(Nat.le_of_ble_eq_true rfl), (Nat.le_of_ble_eq_true rfl)⟩ (fun w6 H locs F G R S hpo hM hS => ?_)
  obtain ⟨hIF, hIG, hIR, hfr9, hrr9, hgr9⟩ := hpo
  have hq_w6 := tk_rngL w6
  have hFF := mz_fr (K := [34, 38]) (Fa := Fa) hfr9 hFF (by decide)
  have hRR := mz_fr (K := []) (Fa := Ra) hrr9 hRR (by decide)
  have hGG := mz_fr (K := [39, 40]) (Fa := Ga) hgr9 hGG (by decide)
  refine lv_iconst (v := 0) hx hb dX13_wakesOf_28 (by decide) ?_
  refine lv_sipush (v := 999) hx hb dX13_wakesOf_29 (by decide) ?_
  have hk_0 : (0 : Int32).toInt = 0 := by decide
  have hk_999 : (999 : Int32).toInt = 999 := by decide
  refine mz_Sj (As := [.long w6, .int 0, .int 999]) (rest := []) ⟨hx, hb, hml, hown, hts⟩ hK hM hS (k_X13_within l D cy ld ad am hD _ _ _ _ w6 0 999 (by omega)) ⟨callB_of 3 hts (wl_in mw_1125) rfl rfl rfl (htl _ mw_5) (htl _ mw_1123) hd_yX13_within ⟨(Nat.le_of_ble_eq_true rfl), (Nat.le_of_ble_eq_true rfl)⟩, htl _ mw_1124⟩ rfl hl.1 rfl (Nat.le_of_ble_eq_true rfl) dX13_wakesOf_32 ⟨(Nat.le_of_ble_eq_true rfl), (Nat.le_of_ble_eq_true rfl)⟩ (fun v11 H locs hpo hM hS => ?_)
  obtain ⟨hpo12, hpo13⟩ := hpo
  have hq_v11 := tk_rng v11
  exact mz_iret (v := v11) hx hb hr rfl hlocks ⟨hIF, hIG, hIR, hFF, hRR, hGG, (by omega), (by omega)⟩ hM hS dX13_wakesOf_35
