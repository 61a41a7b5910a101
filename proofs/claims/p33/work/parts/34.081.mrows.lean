theorem hd_yX13_listener : yX13_listener.cls ≠ "java/lang/invoke/MethodHandle" ∧ yX13_listener.cls ≠ "java/lang/invoke/VarHandle" ∧ (parseMethodDescriptor yX13_listener.desc).map (fun d => d.parameters.length) = some 0 := by decide +kernel
theorem dX13_layVerse_0 : decode cX13_layVerse 0 = .ok (.aload_n 0, 1) := by decide +kernel
theorem dX13_layVerse_1 : decode cX13_layVerse 1 = .ok (.iconst 4, 1) := by decide +kernel
theorem dX13_layVerse_2 : decode cX13_layVerse 2 = .ok (.invokevirtual 194, 3) := by decide +kernel
theorem dX13_layVerse_5 : decode cX13_layVerse 5 = .ok (.istore_n 2, 1) := by decide +kernel
theorem dX13_layVerse_6 : decode cX13_layVerse 6 = .ok (.aload_n 0, 1) := by decide +kernel
theorem dX13_layVerse_7 : decode cX13_layVerse 7 = .ok (.invokevirtual 431, 3) := by decide +kernel
theorem dX13_layVerse_10 : decode cX13_layVerse 10 = .ok (.istore_n 3, 1) := by decide +kernel
theorem dX13_layVerse_11 : decode cX13_layVerse 11 = .ok (.aload_n 0, 1) := by decide +kernel
theorem dX13_layVerse_12 : decode cX13_layVerse 12 = .ok (.iload_n 1, 1) := by decide +kernel
theorem dX13_layVerse_13 : decode cX13_layVerse 13 = .ok (.aload_n 0, 1) := by decide +kernel
theorem dX13_layVerse_14 : decode cX13_layVerse 14 = .ok (.iload_n 2, 1) := by decide +kernel
theorem dX13_layVerse_15 : decode cX13_layVerse 15 = .ok (.iconst 1, 1) := by decide +kernel
theorem dX13_layVerse_16 : decode cX13_layVerse 16 = .ok (.invokevirtual 207, 3) := by decide +kernel
theorem dX13_layVerse_19 : decode cX13_layVerse 19 = .ok (.aload_n 0, 1) := by decide +kernel
theorem dX13_layVerse_20 : decode cX13_layVerse 20 = .ok (.getfield 13, 3) := by decide +kernel
theorem dX13_layVerse_23 : decode cX13_layVerse 23 = .ok (.bipush 58, 2) := by decide +kernel
theorem dX13_layVerse_25 : decode cX13_layVerse 25 = .ok (.iconst 2, 1) := by decide +kernel
theorem dX13_layVerse_26 : decode cX13_layVerse 26 = .ok (.iload_n 1, 1) := by decide +kernel
theorem dX13_layVerse_27 : decode cX13_layVerse 27 = .ok (.imul, 1) := by decide +kernel
theorem dX13_layVerse_28 : decode cX13_layVerse 28 = .ok (.iadd, 1) := by decide +kernel
theorem dX13_layVerse_29 : decode cX13_layVerse 29 = .ok (.iconst 1, 1) := by decide +kernel
theorem dX13_layVerse_30 : decode cX13_layVerse 30 = .ok (.iadd, 1) := by decide +kernel
theorem dX13_layVerse_31 : decode cX13_layVerse 31 = .ok (.iaload, 1) := by decide +kernel
theorem dX13_layVerse_32 : decode cX13_layVerse 32 = .ok (.aload_n 0, 1) := by decide +kernel
theorem dX13_layVerse_33 : decode cX13_layVerse 33 = .ok (.iconst 5, 1) := by decide +kernel
theorem dX13_layVerse_34 : decode cX13_layVerse 34 = .ok (.invokevirtual 194, 3) := by decide +kernel
theorem dX13_layVerse_45 : decode cX13_layVerse 45 = .ok (.aload_n 0, 1) := by decide +kernel
theorem dX13_layVerse_46 : decode cX13_layVerse 46 = .ok (.iconst 3, 1) := by decide +kernel
theorem dX13_layVerse_47 : decode cX13_layVerse 47 = .ok (.invokevirtual 194, 3) := by decide +kernel
theorem dX13_layVerse_50 : decode cX13_layVerse 50 = .ok (.aload_n 0, 1) := by decide +kernel
theorem dX13_layVerse_51 : decode cX13_layVerse 51 = .ok (.iload_n 3, 1) := by decide +kernel
theorem dX13_layVerse_52 : decode cX13_layVerse 52 = .ok (.iconst 0, 1) := by decide +kernel
theorem dX13_layVerse_53 : decode cX13_layVerse 53 = .ok (.invokevirtual 207, 3) := by decide +kernel
theorem dX13_layVerse_56 : decode cX13_layVerse 56 = .ok (.aload_n 0, 1) := by decide +kernel
theorem dX13_layVerse_57 : decode cX13_layVerse 57 = .ok (.iload_n 3, 1) := by decide +kernel
theorem dX13_layVerse_58 : decode cX13_layVerse 58 = .ok (.iconst 1, 1) := by decide +kernel
theorem dX13_layVerse_59 : decode cX13_layVerse 59 = .ok (.invokevirtual 207, 3) := by decide +kernel
theorem dX13_layVerse_62 : decode cX13_layVerse 62 = .ok (.invokevirtual 425, 3) := by decide +kernel
theorem dX13_layVerse_65 : decode cX13_layVerse 65 = .ok (.return_, 1) := by decide +kernel
theorem dX13_layVerse_37 : decode cX13_layVerse 37 = .ok (.if_icmp .ne 7, 3) := by decide +kernel
theorem dX13_layVerse_44 : decode cX13_layVerse 44 = .ok (.iconst 0, 1) := by decide +kernel
theorem dX13_layVerse_40 : decode cX13_layVerse 40 = .ok (.iconst 1, 1) := by decide +kernel
theorem dX13_layVerse_41 : decode cX13_layVerse 41 = .ok (.goto 4, 3) := by decide +kernel
set_option maxHeartbeats 4000000 in
set_option maxRecDepth 100000 in
theorem k_X13_layVerse (l : Launch) (D : va_G) (cy : Nat → ClassId) (ld ad : Nat → Nat) (am : Nat) (hD : mz_D ad am) (Fa : Nat → Int32) (Ga : Nat → Int64) (Ra : Nat → Nat → Int32) (Sa : Nat → Nat → Int64) (p1 : Int32) (hIF : mz_IF true Fa) (hIG : mz_IG Ga) (hIR : mz_IR [] true Ra) (hp_0 : 0 ≤ p1.toInt) (hp_1 : p1.toInt ≤ 9) : Met l yX13_layVerse (wl yX13_layVerse cX13_layVerse 4 none) ({ frames := 5, cells := 0, slots := 0, locals := 280 }) (mz_p D cy ld ad am Fa Ga Ra Sa [.ref am, .int p1]) (mz_w D cy ad am (fun F G R S => mz_IF true F ∧ mz_IG G ∧ mz_IR [] true R ∧ (∀ k : Nat, k ∉ ([] : List Nat) → F k = Fa k) ∧ (∀ k : Nat, k ∉ ([] : List Nat) → R k = Ra k) ∧ (∀ k : Nat, k ∉ ([] : List Nat) → G k = Ga k))) 0 0 (mz_W ad am) := by
  refine mz_met (y := yX13_layVerse) (cc := cX13_layVerse) (maxL := 4) (ret := none) (av := [.ref am, .int p1]) _ (by decide) (Nat.le_of_ble_eq_true rfl) ?_
  intro p e s m args below meth c hx hb hr hml hts htl hown hlocks hK H locs hM hS ls hl
  have hown : s.vm.findClass RX13 = some m.cls := hown
  have hl : lv_has ls 4 [(0, .ref am), (1, .int p1)] := hl
  have hr_p1 := tk_rng p1
  refine lv_aload_n hx hb dX13_layVerse_0 rfl (lv_at hl 0 rfl) ?_
  refine lv_iconst (v := 4) hx hb dX13_layVerse_1 (by decide) ?_
  obtain ⟨v2, hf1⟩ : ∃ z : Int32, Ra 3 16 = z := ⟨_, rfl⟩
  have hq_v2 := tk_rng v2
  have hr_v2 : (-1) ≤ v2.toInt ∧ v2.toInt ≤ 7 := by have h9 := hIR.d; unfold dO at h9; rw [hf1] at h9; omega
  have hk_4 : (4 : Int32).toInt = 4 := by decide
  refine mz_Vj (As := [.int 4]) (rest := []) ⟨hx, hb, hml, hown, hts⟩ hK hM hS (k_X13_inDuel_4 l D cy ld ad am hD _ _ _ _ v2 hf1) ⟨callB_of 1 hts (wl_in mw_1046) rfl rfl rfl (htl _ mw_5) (htl _ mw_1043) hd_yX13_inDuel ⟨(Nat.le_of_ble_eq_true rfl), (Nat.le_of_ble_eq_true rfl)⟩, htl _ mw_1044, htl _ mw_1045⟩ rfl hl.1 rfl (Nat.le_of_ble_eq_true rfl) dX13_layVerse_2 ⟨(Nat.le_of_ble_eq_true rfl), (Nat.le_of_ble_eq_true rfl)⟩ (fun v3 H locs hpo hM hS => ?_)
  have hpo4 := hpo
  have hq_v3 := tk_rng v3
  refine lv_istore_n (lv' := [(2, .int v3), (0, .ref am), (1, .int p1)]) hx hb dX13_layVerse_5 rfl hl (by decide) rfl (fun ls hl => ?_)
  refine lv_aload_n hx hb dX13_layVerse_6 rfl (lv_at hl 1 rfl) ?_
  obtain ⟨v10, hf6⟩ : ∃ z : Int32, Ra 3 12 = z := ⟨_, rfl⟩
  have hq_v10 := tk_rng v10
  have hr_v10 : (-1) ≤ v10.toInt ∧ v10.toInt ≤ 7 := by have h9 := hIR.d; unfold dO at h9; rw [hf6] at h9; omega
  have hti_10 : v10.toInt ≠ -1 → v2.toInt ≠ -1 := by have h9 := hIR.d.2.2.2.2.2; rw [hf6, hf1] at h9; exact fun h8 => (h9 h8).2.2
  obtain ⟨v13, hf12⟩ : ∃ z : Int32, Ra 3 13 = z := ⟨_, rfl⟩
  have hq_v13 := tk_rng v13
  have hr_v13 : (-1) ≤ v13.toInt ∧ v13.toInt ≤ 7 := by have h9 := hIR.d; unfold dO at h9; rw [hf12] at h9; omega
  have hti_13 : v10.toInt ≠ -1 → v13.toInt ≠ -1 := by have h9 := hIR.d.2.2.2.2.2; rw [hf6, hf12] at h9; exact fun h8 => (h9 h8).1
  refine mz_Vj (As := []) (rest := []) ⟨hx, hb, hml, hown, hts⟩ hK hM hS (k_X13_listener l D cy ld ad am hD _ _ _ _ v10 v13 v2 (hIF.weak) hIG hIR hf6 hf12 hf1) ⟨callB_of 0 hts (wl_in mw_1095) rfl rfl rfl (htl _ mw_5) (htl _ mw_1092) hd_yX13_listener ⟨(Nat.le_of_ble_eq_true rfl), (Nat.le_of_ble_eq_true rfl)⟩, htl _ mw_1093, htl _ mw_1094⟩ rfl hl.1 rfl (Nat.le_of_ble_eq_true rfl) dX13_layVerse_7 ⟨(Nat.le_of_ble_eq_true rfl), (Nat.le_of_ble_eq_true rfl)⟩ (fun v15 H locs hpo hM hS => ?_)
  obtain ⟨hpo16, hpo17, hpo18, hpo19, hpo20, hpo21⟩ := hpo
  have hq_v15 := tk_rng v15
  refine lv_istore_n (lv' := [(3, .int v15), (2, .int v3), (0, .ref am), (1, .int p1)]) hx hb dX13_layVerse_10 rfl hl (by decide) rfl (fun ls hl => ?_)
  refine lv_aload_n hx hb dX13_layVerse_11 rfl (lv_at hl 2 rfl) ?_
  refine lv_iload_n hx hb dX13_layVerse_12 rfl (lv_at hl 3 rfl) ?_
  refine lv_aload_n hx hb dX13_layVerse_13 rfl (lv_at hl 2 rfl) ?_
  refine lv_iload_n hx hb dX13_layVerse_14 rfl (lv_at hl 1 rfl) ?_
  refine lv_iconst (v := 1) hx hb dX13_layVerse_15 (by decide) ?_
  have hk_1 : (1 : Int32).toInt = 1 := by decide
  refine mz_Vj (As := [.int v3, .int 1]) (rest := [.int p1, .ref am]) ⟨hx, hb, hml, hown, hts⟩ hK hM hS (k_X13_ofSinger_1 l D cy ld ad am hD _ _ _ _ v3 (hIF.weak) hIG hIR (by omega) (by omega)) ⟨callB_of 2 hts (wl_in mw_324) rfl rfl rfl (htl _ mw_5) (htl _ mw_321) hd_yX13_ofSinger ⟨(Nat.le_of_ble_eq_true rfl), (Nat.le_of_ble_eq_true rfl)⟩, htl _ mw_322, htl _ mw_323⟩ rfl hl.1 rfl (Nat.le_of_ble_eq_true rfl) dX13_layVerse_16 ⟨(Nat.le_of_ble_eq_true rfl), (Nat.le_of_ble_eq_true rfl)⟩ (fun v23 H locs hpo hM hS => ?_)
  have hq_v23 := tk_rng v23
  refine lv_aload_n hx hb dX13_layVerse_19 rfl (lv_at hl 2 rfl) ?_
  refine mz_getR hx hb htl hown hK hM 3 (Nat.le_of_ble_eq_true rfl) (Nat.le_of_ble_eq_true rfl) (htl _ mw_188) (fun _ h9 => h9) dX13_layVerse_20 ?_
  refine lv_bipush (v := 58) hx hb dX13_layVerse_23 (by decide) ?_
  refine lv_iconst (v := 2) hx hb dX13_layVerse_25 (by decide) ?_
  refine lv_iload_n hx hb dX13_layVerse_26 rfl (lv_at hl 3 rfl) ?_
  refine lv_imul hx hb dX13_layVerse_27 ?_
  refine tk_mul (show (2 : Int32).toInt = 2 by decide) rfl (by omega) (by omega) (fun v25 h_v25 => ?_)
  refine lv_iadd hx hb dX13_layVerse_28 ?_
  refine tk_add (show (58 : Int32).toInt = 58 by decide) rfl (by omega) (by omega) (fun v26 h_v26 => ?_)
  refine lv_iconst (v := 1) hx hb dX13_layVerse_29 (by decide) ?_
  refine lv_iadd hx hb dX13_layVerse_30 ?_
  refine tk_add rfl (show (1 : Int32).toInt = 1 by decide) (by omega) (by omega) (fun v27 h_v27 => ?_)
  refine mz_iald hx hb hK hM 3 (Nat.le_of_ble_eq_true rfl) rfl (nn := 5560) rfl rfl (by omega) (by omega) dX13_layVerse_31 (fun v28 e_v28 => ?_)
  have hq_v28 := tk_rng v28
  refine lv_aload_n hx hb dX13_layVerse_32 rfl (lv_at hl 2 rfl) ?_
  refine lv_iconst (v := 5) hx hb dX13_layVerse_33 (by decide) ?_
  obtain ⟨v30, hf29⟩ : ∃ z : Int32, Ra 3 17 = z := ⟨_, rfl⟩
  have hq_v30 := tk_rng v30
  have hk_5 : (5 : Int32).toInt = 5 := by decide
  refine mz_Vj (As := [.int 5]) (rest := [.int v28, .int v23, .int p1, .ref am]) ⟨hx, hb, hml, hown, hts⟩ hK hM hS (k_X13_inDuel_5 l D cy ld ad am hD _ _ _ _ v30 hf29) ⟨callB_of 1 hts (wl_in mw_1046) rfl rfl rfl (htl _ mw_5) (htl _ mw_1043) hd_yX13_inDuel ⟨(Nat.le_of_ble_eq_true rfl), (Nat.le_of_ble_eq_true rfl)⟩, htl _ mw_1044, htl _ mw_1045⟩ rfl hl.1 rfl (Nat.le_of_ble_eq_true rfl) dX13_layVerse_34 ⟨(Nat.le_of_ble_eq_true rfl), (Nat.le_of_ble_eq_true rfl)⟩ (fun v31 H locs hpo hM hS => ?_)
  have hpo32 := hpo
  have hq_v31 := tk_rng v31
  have hj37 : ∀ (v36 : Int32), (0 ≤ v36.toInt) → (v36.toInt ≤ 1) → ∀ ls : Array Slot, lv_has ls 4 [(3, .int v15), (0, .ref am)] → W p l e ({ frames := 5, cells := 0, slots := 0, locals := 280 }) s m args below meth c H locs 0 0 (MQ below (mz_w D cy ad am (fun F G R S => mz_IF true F ∧ mz_IG G ∧ mz_IR [] true R ∧ (∀ k : Nat, k ∉ ([] : List Nat) → F k = Fa k) ∧ (∀ k : Nat, k ∉ ([] : List Nat) → R k = Ra k) ∧ (∀ k : Nat, k ∉ ([] : List Nat) → G k = Ga k))) args s 0 0 (mz_W ad am)) (F0 m 45 ls [.int v36, .int v23, .int p1, .ref am]) := by
    intro v36 hq0_j37 hq1_j37 ls hl
    have hti_37 : v10.toInt ≠ -1 → v13.toInt ≠ -1 := by have h9 := hIR.d.2.2.2.2.2; rw [hf6, hf12] at h9; exact fun h8 => (h9 h8).1
    have hti_38 : v10.toInt ≠ -1 → v2.toInt ≠ -1 := by have h9 := hIR.d.2.2.2.2.2; rw [hf6, hf1] at h9; exact fun h8 => (h9 h8).2.2
    refine lv_aload_n hx hb dX13_layVerse_45 rfl (lv_at hl 1 rfl) ?_
    refine lv_iconst (v := 3) hx hb dX13_layVerse_46 (by decide) ?_
    obtain ⟨v41, hf40⟩ : ∃ z : Int32, Ra 3 15 = z := ⟨_, rfl⟩
    have hq_v41 := tk_rng v41
    have hr_v41 : (-1) ≤ v41.toInt ∧ v41.toInt ≤ 11 := by have h9 := hIR.d; unfold dO at h9; rw [hf40] at h9; omega
    have hti_41 : v10.toInt ≠ -1 → v41.toInt ≠ -1 := by have h9 := hIR.d.2.2.2.2.2; rw [hf6, hf40] at h9; exact fun h8 => (h9 h8).2.1
    have hk_3 : (3 : Int32).toInt = 3 := by decide
    refine mz_Vj (As := [.int 3]) (rest := [.int v36, .int v23, .int p1, .ref am]) ⟨hx, hb, hml, hown, hts⟩ hK hM hS (k_X13_inDuel_3 l D cy ld ad am hD _ _ _ _ v41 hf40) ⟨callB_of 1 hts (wl_in mw_1046) rfl rfl rfl (htl _ mw_5) (htl _ mw_1043) hd_yX13_inDuel ⟨(Nat.le_of_ble_eq_true rfl), (Nat.le_of_ble_eq_true rfl)⟩, htl _ mw_1044, htl _ mw_1045⟩ rfl hl.1 rfl (Nat.le_of_ble_eq_true rfl) dX13_layVerse_47 ⟨(Nat.le_of_ble_eq_true rfl), (Nat.le_of_ble_eq_true rfl)⟩ (fun v43 H locs hpo hM hS => ?_)
    have hpo44 := hpo
    have hq_v43 := tk_rng v43
    refine lv_aload_n hx hb dX13_layVerse_50 rfl (lv_at hl 1 rfl) ?_
    refine lv_iload_n hx hb dX13_layVerse_51 rfl (lv_at hl 0 rfl) ?_
    refine lv_iconst (v := 0) hx hb dX13_layVerse_52 (by decide) ?_
    have hk_0 : (0 : Int32).toInt = 0 := by decide
    refine mz_Vj (As := [.int v15, .int 0]) (rest := [.int v43, .int v36, .int v23, .int p1, .ref am]) ⟨hx, hb, hml, hown, hts⟩ hK hM hS (k_X13_ofSinger_0 l D cy ld ad am hD _ _ _ _ v15 (hIF.weak) hIG hIR (by omega) (by omega)) ⟨callB_of 2 hts (wl_in mw_324) rfl rfl rfl (htl _ mw_5) (htl _ mw_321) hd_yX13_ofSinger ⟨(Nat.le_of_ble_eq_true rfl), (Nat.le_of_ble_eq_true rfl)⟩, htl _ mw_322, htl _ mw_323⟩ rfl hl.1 rfl (Nat.le_of_ble_eq_true rfl) dX13_layVerse_53 ⟨(Nat.le_of_ble_eq_true rfl), (Nat.le_of_ble_eq_true rfl)⟩ (fun v46 H locs hpo hM hS => ?_)
    have hq_v46 := tk_rng v46
    refine lv_aload_n hx hb dX13_layVerse_56 rfl (lv_at hl 1 rfl) ?_
    refine lv_iload_n hx hb dX13_layVerse_57 rfl (lv_at hl 0 rfl) ?_
    refine lv_iconst (v := 1) hx hb dX13_layVerse_58 (by decide) ?_
    have hk_1 : (1 : Int32).toInt = 1 := by decide
    refine mz_Vj (As := [.int v15, .int 1]) (rest := [.int v46, .int v43, .int v36, .int v23, .int p1, .ref am]) ⟨hx, hb, hml, hown, hts⟩ hK hM hS (k_X13_ofSinger_1 l D cy ld ad am hD _ _ _ _ v15 (hIF.weak) hIG hIR (by omega) (by omega)) ⟨callB_of 2 hts (wl_in mw_324) rfl rfl rfl (htl _ mw_5) (htl _ mw_321) hd_yX13_ofSinger ⟨(Nat.le_of_ble_eq_true rfl), (Nat.le_of_ble_eq_true rfl)⟩, htl _ mw_322, htl _ mw_323⟩ rfl hl.1 rfl (Nat.le_of_ble_eq_true rfl) dX13_layVerse_59 ⟨(Nat.le_of_ble_eq_true rfl), (Nat.le_of_ble_eq_true rfl)⟩ (fun v48 H locs hpo hM hS => ?_)
    have hq_v48 := tk_rng v48
    refine mz_Vv (As := [.int p1, .int v23, .int v36, .int v43, .int v46, .int v48]) (rest := []) ⟨hx, hb, hml, hown, hts⟩ hK hM hS (k_X13_setSung l D cy ld ad am hD _ _ _ _ p1 v23 v36 v43 v46 v48 hIF hIG hIR (by omega) (by omega)) ⟨callB_of 6 hts (wl_in mw_1099) rfl rfl rfl (htl _ mw_5) (htl _ mw_1096) hd_yX13_setSung ⟨(Nat.le_of_ble_eq_true rfl), (Nat.le_of_ble_eq_true rfl)⟩, htl _ mw_1097, htl _ mw_1098⟩ rfl hl.1 rfl (Nat.le_of_ble_eq_true rfl) dX13_layVerse_62 ⟨(Nat.le_of_ble_eq_true rfl), (Nat.le_of_ble_eq_true rfl)⟩ (fun H locs F G R S hpo hM hS => ?_)
    obtain ⟨hIF, hIG, hIR, hfr9, hrr9, hgr9⟩ := hpo
    have hFF := mz_fr (K := []) (Fa := Fa) hfr9 (fun _ _ => rfl) (by decide)
    have hRR := mz_fr (K := []) (Fa := Ra) hrr9 (fun _ _ => rfl) (by decide)
    have hGG := mz_fr (K := []) (Fa := Ga) hgr9 (fun _ _ => rfl) (by decide)
    have hf1 : R 3 16 = _ := (congrFun (hrr9 3 (by decide)) 16).trans hf1
    have hf6 : R 3 12 = _ := (congrFun (hrr9 3 (by decide)) 12).trans hf6
    have hf12 : R 3 13 = _ := (congrFun (hrr9 3 (by decide)) 13).trans hf12
    have hf29 : R 3 17 = _ := (congrFun (hrr9 3 (by decide)) 17).trans hf29
    have hf40 : R 3 15 = _ := (congrFun (hrr9 3 (by decide)) 15).trans hf40
    exact mz_vret hx hb hr hlocks ⟨hIF, hIG, hIR, hFF, hRR, hGG⟩ hM hS dX13_layVerse_65
  refine lv_icmp_ne (tgt := 44) hx hb dX13_layVerse_37 (by decide) (fun c9 => ?_) (fun c9 => ?_)
  · have hc34 : ¬ (v28.toInt = v31.toInt) := fun h9 => c9 ((fi_eq rfl rfl).mpr h9)
    refine lv_iconst (v := 0) hx hb dX13_layVerse_44 (by decide) ?_
    have hk_0 : (0 : Int32).toInt = 0 := by decide
    exact hj37 0 (by omega) (by omega) _ (lv_sub hl [0, 2] rfl)
  · have hc34 : v28.toInt = v31.toInt := (fi_eq rfl rfl).mp c9
    refine lv_iconst (v := 1) hx hb dX13_layVerse_40 (by decide) ?_
    refine lv_goto (tgt := 45) hx hb dX13_layVerse_41 (by decide) ?_
    have hk_1 : (1 : Int32).toInt = 1 := by decide
    exact hj37 1 (by omega) (by omega) _ (lv_sub hl [0, 2] rfl)
