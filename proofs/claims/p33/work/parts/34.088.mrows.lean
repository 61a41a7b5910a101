theorem hd_yX13_isUp : yX13_isUp.cls ≠ "java/lang/invoke/MethodHandle" ∧ yX13_isUp.cls ≠ "java/lang/invoke/VarHandle" ∧ (parseMethodDescriptor yX13_isUp.desc).map (fun d => d.parameters.length) = some 1 := by decide +kernel
theorem hd_yX13_remember : yX13_remember.cls ≠ "java/lang/invoke/MethodHandle" ∧ yX13_remember.cls ≠ "java/lang/invoke/VarHandle" ∧ (parseMethodDescriptor yX13_remember.desc).map (fun d => d.parameters.length) = some 1 := by decide +kernel
theorem hd_yX13_layDuel : yX13_layDuel.cls ≠ "java/lang/invoke/MethodHandle" ∧ yX13_layDuel.cls ≠ "java/lang/invoke/VarHandle" ∧ (parseMethodDescriptor yX13_layDuel.desc).map (fun d => d.parameters.length) = some 3 := by decide +kernel
theorem dX13_beginNow_0 : decode cX13_beginNow 0 = .ok (.iload_n 3, 1) := by decide +kernel
theorem dX13_beginNow_1 : decode cX13_beginNow 1 = .ok (.i2l, 1) := by decide +kernel
theorem dX13_beginNow_2 : decode cX13_beginNow 2 = .ok (.lconst 1, 1) := by decide +kernel
theorem dX13_beginNow_3 : decode cX13_beginNow 3 = .ok (.ldc2_w 211, 3) := by decide +kernel
theorem dX13_beginNow_6 : decode cX13_beginNow 6 = .ok (.invokestatic 190, 3) := by decide +kernel
theorem dX13_beginNow_9 : decode cX13_beginNow 9 = .ok (.ifCond .ne 5, 3) := by decide +kernel
theorem dX13_beginNow_14 : decode cX13_beginNow 14 = .ok (.aload_n 0, 1) := by decide +kernel
theorem dX13_beginNow_15 : decode cX13_beginNow 15 = .ok (.iload_n 1, 1) := by decide +kernel
theorem dX13_beginNow_16 : decode cX13_beginNow 16 = .ok (.invokevirtual 201, 3) := by decide +kernel
theorem dX13_beginNow_19 : decode cX13_beginNow 19 = .ok (.ifCond .eq 11, 3) := by decide +kernel
theorem dX13_beginNow_30 : decode cX13_beginNow 30 = .ok (.bipush (-2), 2) := by decide +kernel
theorem dX13_beginNow_32 : decode cX13_beginNow 32 = .ok (.ireturn, 1) := by decide +kernel
theorem dX13_beginNow_22 : decode cX13_beginNow 22 = .ok (.aload_n 0, 1) := by decide +kernel
theorem dX13_beginNow_23 : decode cX13_beginNow 23 = .ok (.iload_n 2, 1) := by decide +kernel
theorem dX13_beginNow_24 : decode cX13_beginNow 24 = .ok (.invokevirtual 201, 3) := by decide +kernel
theorem dX13_beginNow_27 : decode cX13_beginNow 27 = .ok (.ifCond .ne 6, 3) := by decide +kernel
theorem dX13_beginNow_33 : decode cX13_beginNow 33 = .ok (.aload_n 0, 1) := by decide +kernel
theorem dX13_beginNow_34 : decode cX13_beginNow 34 = .ok (.invokevirtual 434, 3) := by decide +kernel
theorem dX13_beginNow_37 : decode cX13_beginNow 37 = .ok (.ifCond .ne 34, 3) := by decide +kernel
theorem dX13_beginNow_71 : decode cX13_beginNow 71 = .ok (.bipush (-3), 2) := by decide +kernel
theorem dX13_beginNow_73 : decode cX13_beginNow 73 = .ok (.ireturn, 1) := by decide +kernel
theorem dX13_beginNow_40 : decode cX13_beginNow 40 = .ok (.aload_n 0, 1) := by decide +kernel
theorem dX13_beginNow_41 : decode cX13_beginNow 41 = .ok (.iload_n 1, 1) := by decide +kernel
theorem dX13_beginNow_42 : decode cX13_beginNow 42 = .ok (.iconst 2, 1) := by decide +kernel
theorem dX13_beginNow_43 : decode cX13_beginNow 43 = .ok (.invokevirtual 207, 3) := by decide +kernel
theorem dX13_beginNow_46 : decode cX13_beginNow 46 = .ok (.aload_n 0, 1) := by decide +kernel
theorem dX13_beginNow_47 : decode cX13_beginNow 47 = .ok (.iload_n 2, 1) := by decide +kernel
theorem dX13_beginNow_48 : decode cX13_beginNow 48 = .ok (.iconst 2, 1) := by decide +kernel
theorem dX13_beginNow_49 : decode cX13_beginNow 49 = .ok (.invokevirtual 207, 3) := by decide +kernel
theorem dX13_beginNow_52 : decode cX13_beginNow 52 = .ok (.if_icmp .eq 19, 3) := by decide +kernel
theorem dX13_beginNow_55 : decode cX13_beginNow 55 = .ok (.aload_n 0, 1) := by decide +kernel
theorem dX13_beginNow_56 : decode cX13_beginNow 56 = .ok (.iload_n 1, 1) := by decide +kernel
theorem dX13_beginNow_57 : decode cX13_beginNow 57 = .ok (.invokevirtual 452, 3) := by decide +kernel
theorem dX13_beginNow_60 : decode cX13_beginNow 60 = .ok (.ifCond .eq 11, 3) := by decide +kernel
theorem dX13_beginNow_63 : decode cX13_beginNow 63 = .ok (.aload_n 0, 1) := by decide +kernel
theorem dX13_beginNow_64 : decode cX13_beginNow 64 = .ok (.iload_n 2, 1) := by decide +kernel
theorem dX13_beginNow_65 : decode cX13_beginNow 65 = .ok (.invokevirtual 452, 3) := by decide +kernel
theorem dX13_beginNow_68 : decode cX13_beginNow 68 = .ok (.ifCond .ne 6, 3) := by decide +kernel
theorem dX13_beginNow_74 : decode cX13_beginNow 74 = .ok (.aload_n 0, 1) := by decide +kernel
theorem dX13_beginNow_75 : decode cX13_beginNow 75 = .ok (.iconst 0, 1) := by decide +kernel
theorem dX13_beginNow_76 : decode cX13_beginNow 76 = .ok (.invokevirtual 455, 3) := by decide +kernel
theorem dX13_beginNow_79 : decode cX13_beginNow 79 = .ok (.aload_n 0, 1) := by decide +kernel
theorem dX13_beginNow_80 : decode cX13_beginNow 80 = .ok (.iload_n 1, 1) := by decide +kernel
theorem dX13_beginNow_81 : decode cX13_beginNow 81 = .ok (.iload_n 2, 1) := by decide +kernel
theorem dX13_beginNow_82 : decode cX13_beginNow 82 = .ok (.iload_n 3, 1) := by decide +kernel
theorem dX13_beginNow_83 : decode cX13_beginNow 83 = .ok (.invokevirtual 458, 3) := by decide +kernel
theorem dX13_beginNow_86 : decode cX13_beginNow 86 = .ok (.iconst 0, 1) := by decide +kernel
theorem dX13_beginNow_87 : decode cX13_beginNow 87 = .ok (.ireturn, 1) := by decide +kernel
theorem dX13_beginNow_12 : decode cX13_beginNow 12 = .ok (.iconst (-1), 1) := by decide +kernel
theorem dX13_beginNow_13 : decode cX13_beginNow 13 = .ok (.ireturn, 1) := by decide +kernel
set_option maxHeartbeats 4000000 in
set_option maxRecDepth 100000 in
theorem k_X13_beginNow (l : Launch) (D : va_G) (cy : Nat → ClassId) (ld ad : Nat → Nat) (am : Nat) (hD : mz_D ad am) (Fa : Nat → Int32) (Ga : Nat → Int64) (Ra : Nat → Nat → Int32) (Sa : Nat → Nat → Int64) (p1 : Int32) (p2 : Int32) (p3 : Int32) (hIF : mz_IF true Fa) (hIG : mz_IG Ga) (hIR : mz_IR [] true Ra) : Met l yX13_beginNow (wl yX13_beginNow cX13_beginNow 4 (some .int)) ({ frames := 5, cells := 0, slots := 0, locals := 280 }) (mz_p D cy ld ad am Fa Ga Ra Sa [.ref am, .int p1, .int p2, .int p3]) (mz_i D cy ad am (fun r F G R S => mz_IF true F ∧ mz_IG G ∧ mz_IR [] true R ∧ (∀ k : Nat, k ∉ ([8] : List Nat) → F k = Fa k) ∧ (∀ k : Nat, k ∉ ([3, 6, 7] : List Nat) → R k = Ra k) ∧ (∀ k : Nat, k ∉ ([] : List Nat) → G k = Ga k) ∧ rK1 (Ra 3) (R 3) ∧ (-3) ≤ r.toInt ∧ r.toInt ≤ 0)) 0 0 (mz_W ad am) := by
  refine mz_met (y := yX13_beginNow) (cc := cX13_beginNow) (maxL := 4) (ret := (some .int)) (av := [.ref am, .int p1, .int p2, .int p3]) _ (by decide) (Nat.le_of_ble_eq_true rfl) ?_
  intro p e s m args below meth c hx hb hr hml hts htl hown hlocks hK H locs hM hS ls hl
  have hown : s.vm.findClass RX13 = some m.cls := hown
  have hl : lv_has ls 4 [(0, .ref am), (1, .int p1), (2, .int p2), (3, .int p3)] := hl
  have hr_p1 := tk_rng p1
  have hr_p2 := tk_rng p2
  have hr_p3 := tk_rng p3
  refine lv_iload_n hx hb dX13_beginNow_0 rfl (lv_at hl 3 rfl) ?_
  obtain ⟨w1, e_w1, h_w1⟩ : ∃ z : Int64, p3.toInt64 = z ∧ z.toInt = p3.toInt := ⟨_, rfl, fl_w _⟩
  refine lv_i2l (v := w1) hx hb dX13_beginNow_1 e_w1 ?_
  refine lv_lconst (v := 1) hx hb dX13_beginNow_2 (by decide) ?_
  refine lv_ldc2 hx hb hown (htl _ mw_342) dX13_beginNow_3 ?_
  have hk_1 : (1 : Int64).toInt = 1 := by decide
  have hk_99 : (99 : Int64).toInt = 99 := by decide
  refine mz_Sj (As := [.long w1, .long 1, .long 99]) (rest := []) ⟨hx, hb, hml, hown, hts⟩ hK hM hS (k_X13_in l D cy ld ad am hD _ _ _ _ w1 1 99) ⟨callB_of 3 hts (wl_in mw_292) rfl rfl rfl (htl _ mw_5) (htl _ mw_290) hd_yX13_in ⟨(Nat.le_of_ble_eq_true rfl), (Nat.le_of_ble_eq_true rfl)⟩, htl _ mw_291⟩ rfl hl.1 rfl (Nat.le_of_ble_eq_true rfl) dX13_beginNow_6 ⟨(Nat.le_of_ble_eq_true rfl), (Nat.le_of_ble_eq_true rfl)⟩ (fun v2 H locs hpo hM hS => ?_)
  obtain ⟨hpo3, hpo4, hpo5, hpo6, hpo10, hpo11⟩ := hpo
  have hq_v2 := tk_rng v2
  refine lv_if_ne (tgt := 14) hx hb dX13_beginNow_9 (by decide) (fun c9 => ?_) (fun c9 => ?_)
  · have hc13 : ¬ (v2.toInt = 0) := fun h9 => c9 ((fi_eq rfl (show (0 : Int32).toInt = 0 by decide)).mpr h9)
    have hwk_14 : 1 ≤ w1.toInt ∧ w1.toInt ≤ 99 := by omega
    refine lv_aload_n hx hb dX13_beginNow_14 rfl (lv_at hl 0 rfl) ?_
    refine lv_iload_n hx hb dX13_beginNow_15 rfl (lv_at hl 1 rfl) ?_
    refine mz_Vj (As := [.int p1]) (rest := []) ⟨hx, hb, hml, hown, hts⟩ hK hM hS (k_X13_isSinger l D cy ld ad am hD _ _ _ _ p1 (hIF.weak) hIG hIR) ⟨callB_of 1 hts (wl_in mw_320) rfl rfl rfl (htl _ mw_5) (htl _ mw_317) hd_yX13_isSinger ⟨(Nat.le_of_ble_eq_true rfl), (Nat.le_of_ble_eq_true rfl)⟩, htl _ mw_318, htl _ mw_319⟩ rfl hl.1 rfl (Nat.le_of_ble_eq_true rfl) dX13_beginNow_16 ⟨(Nat.le_of_ble_eq_true rfl), (Nat.le_of_ble_eq_true rfl)⟩ (fun v15 H locs hpo hM hS => ?_)
    obtain ⟨hpo16, hpo17, hpo18, hpo19, hpo20⟩ := hpo
    have hq_v15 := tk_rng v15
    refine lv_if_eq (tgt := 30) hx hb dX13_beginNow_19 (by decide) (fun c9 => ?_) (fun c9 => ?_)
    · have hc22 : v15.toInt = 0 := (fi_eq rfl (show (0 : Int32).toInt = 0 by decide)).mp c9
      refine lv_bipush (v := (-2)) hx hb dX13_beginNow_30 (by decide) ?_
      have hk_m2 : ((-2) : Int32).toInt = (-2) := by decide
      exact mz_iret (v := (-2)) hx hb hr rfl hlocks ⟨hIF, hIG, hIR, (fun _ _ => rfl), (fun _ _ => rfl), (fun _ _ => rfl), (rK1.refl rfl), (by omega), (by omega)⟩ hM hS dX13_beginNow_32
    · have hc22 : ¬ (v15.toInt = 0) := fun h9 => c9 ((fi_eq rfl (show (0 : Int32).toInt = 0 by decide)).mpr h9)
      have hwk_23 : 0 ≤ p1.toInt ∧ p1.toInt ≤ 7 := by omega
      refine lv_aload_n hx hb dX13_beginNow_22 rfl (lv_at hl 0 rfl) ?_
      refine lv_iload_n hx hb dX13_beginNow_23 rfl (lv_at hl 2 rfl) ?_
      refine mz_Vj (As := [.int p2]) (rest := []) ⟨hx, hb, hml, hown, hts⟩ hK hM hS (k_X13_isSinger l D cy ld ad am hD _ _ _ _ p2 (hIF.weak) hIG hIR) ⟨callB_of 1 hts (wl_in mw_320) rfl rfl rfl (htl _ mw_5) (htl _ mw_317) hd_yX13_isSinger ⟨(Nat.le_of_ble_eq_true rfl), (Nat.le_of_ble_eq_true rfl)⟩, htl _ mw_318, htl _ mw_319⟩ rfl hl.1 rfl (Nat.le_of_ble_eq_true rfl) dX13_beginNow_24 ⟨(Nat.le_of_ble_eq_true rfl), (Nat.le_of_ble_eq_true rfl)⟩ (fun v24 H locs hpo hM hS => ?_)
      obtain ⟨hpo25, hpo26, hpo27, hpo28, hpo29⟩ := hpo
      have hq_v24 := tk_rng v24
      refine lv_if_ne (tgt := 33) hx hb dX13_beginNow_27 (by decide) (fun c9 => ?_) (fun c9 => ?_)
      · have hc31 : ¬ (v24.toInt = 0) := fun h9 => c9 ((fi_eq rfl (show (0 : Int32).toInt = 0 by decide)).mpr h9)
        have hwk_32 : 0 ≤ p2.toInt ∧ p2.toInt ≤ 7 := by omega
        refine lv_aload_n hx hb dX13_beginNow_33 rfl (lv_at hl 0 rfl) ?_
        obtain ⟨v34, hf33⟩ : ∃ z : Int32, Ra 3 12 = z := ⟨_, rfl⟩
        have hq_v34 := tk_rng v34
        have hr_v34 : (-1) ≤ v34.toInt ∧ v34.toInt ≤ 7 := by have h9 := hIR.d; unfold dO at h9; rw [hf33] at h9; omega
        refine mz_Vj (As := []) (rest := []) ⟨hx, hb, hml, hown, hts⟩ hK hM hS (k_X13_isDuel l D cy ld ad am hD _ _ _ _ v34 (hIF.weak) hIG hIR hf33) ⟨callB_of 0 hts (wl_in mw_1071) rfl rfl rfl (htl _ mw_5) (htl _ mw_1068) hd_yX13_isDuel ⟨(Nat.le_of_ble_eq_true rfl), (Nat.le_of_ble_eq_true rfl)⟩, htl _ mw_1069, htl _ mw_1070⟩ rfl hl.1 rfl (Nat.le_of_ble_eq_true rfl) dX13_beginNow_34 ⟨(Nat.le_of_ble_eq_true rfl), (Nat.le_of_ble_eq_true rfl)⟩ (fun v35 H locs hpo hM hS => ?_)
        obtain ⟨hpo36, hpo37, hpo38, hpo39, hpo40, hpo41⟩ := hpo
        have hq_v35 := tk_rng v35
        refine lv_if_ne (tgt := 71) hx hb dX13_beginNow_37 (by decide) (fun c9 => ?_) (fun c9 => ?_)
        · have hc43 : ¬ (v35.toInt = 0) := fun h9 => c9 ((fi_eq rfl (show (0 : Int32).toInt = 0 by decide)).mpr h9)
          have hwk_44 : 0 ≤ v34.toInt := by omega
          refine lv_bipush (v := (-3)) hx hb dX13_beginNow_71 (by decide) ?_
          have hk_m3 : ((-3) : Int32).toInt = (-3) := by decide
          exact mz_iret (v := (-3)) hx hb hr rfl hlocks ⟨hIF, hIG, hIR, (fun _ _ => rfl), (fun _ _ => rfl), (fun _ _ => rfl), (rK1.refl rfl), (by omega), (by omega)⟩ hM hS dX13_beginNow_73
        · have hc43 : v35.toInt = 0 := (fi_eq rfl (show (0 : Int32).toInt = 0 by decide)).mp c9
          have hwk_45 : v34.toInt ≤ (-1) := by omega
          refine lv_aload_n hx hb dX13_beginNow_40 rfl (lv_at hl 0 rfl) ?_
          refine lv_iload_n hx hb dX13_beginNow_41 rfl (lv_at hl 1 rfl) ?_
          refine lv_iconst (v := 2) hx hb dX13_beginNow_42 (by decide) ?_
          have hk_2 : (2 : Int32).toInt = 2 := by decide
          refine mz_Vj (As := [.int p1, .int 2]) (rest := []) ⟨hx, hb, hml, hown, hts⟩ hK hM hS (k_X13_ofSinger_2 l D cy ld ad am hD _ _ _ _ p1 (hIF.weak) hIG hIR (by omega) (by omega)) ⟨callB_of 2 hts (wl_in mw_324) rfl rfl rfl (htl _ mw_5) (htl _ mw_321) hd_yX13_ofSinger ⟨(Nat.le_of_ble_eq_true rfl), (Nat.le_of_ble_eq_true rfl)⟩, htl _ mw_322, htl _ mw_323⟩ rfl hl.1 rfl (Nat.le_of_ble_eq_true rfl) dX13_beginNow_43 ⟨(Nat.le_of_ble_eq_true rfl), (Nat.le_of_ble_eq_true rfl)⟩ (fun v46 H locs hpo hM hS => ?_)
          obtain ⟨hpo47, hpo48⟩ := hpo
          have hq_v46 := tk_rng v46
          refine lv_aload_n hx hb dX13_beginNow_46 rfl (lv_at hl 0 rfl) ?_
          refine lv_iload_n hx hb dX13_beginNow_47 rfl (lv_at hl 2 rfl) ?_
          refine lv_iconst (v := 2) hx hb dX13_beginNow_48 (by decide) ?_
          have hk_2 : (2 : Int32).toInt = 2 := by decide
          refine mz_Vj (As := [.int p2, .int 2]) (rest := [.int v46]) ⟨hx, hb, hml, hown, hts⟩ hK hM hS (k_X13_ofSinger_2 l D cy ld ad am hD _ _ _ _ p2 (hIF.weak) hIG hIR (by omega) (by omega)) ⟨callB_of 2 hts (wl_in mw_324) rfl rfl rfl (htl _ mw_5) (htl _ mw_321) hd_yX13_ofSinger ⟨(Nat.le_of_ble_eq_true rfl), (Nat.le_of_ble_eq_true rfl)⟩, htl _ mw_322, htl _ mw_323⟩ rfl hl.1 rfl (Nat.le_of_ble_eq_true rfl) dX13_beginNow_49 ⟨(Nat.le_of_ble_eq_true rfl), (Nat.le_of_ble_eq_true rfl)⟩ (fun v50 H locs hpo hM hS => ?_)
          obtain ⟨hpo51, hpo52⟩ := hpo
          have hq_v50 := tk_rng v50
          refine lv_icmp_eq (tgt := 71) hx hb dX13_beginNow_52 (by decide) (fun c9 => ?_) (fun c9 => ?_)
          · have hc54 : v46.toInt = v50.toInt := (fi_eq rfl rfl).mp c9
            refine lv_bipush (v := (-3)) hx hb dX13_beginNow_71 (by decide) ?_
            have hk_m3 : ((-3) : Int32).toInt = (-3) := by decide
            exact mz_iret (v := (-3)) hx hb hr rfl hlocks ⟨hIF, hIG, hIR, (fun _ _ => rfl), (fun _ _ => rfl), (fun _ _ => rfl), (rK1.refl rfl), (by omega), (by omega)⟩ hM hS dX13_beginNow_73
          · have hc54 : ¬ (v46.toInt = v50.toInt) := fun h9 => c9 ((fi_eq rfl rfl).mpr h9)
            refine lv_aload_n hx hb dX13_beginNow_55 rfl (lv_at hl 0 rfl) ?_
            refine lv_iload_n hx hb dX13_beginNow_56 rfl (lv_at hl 1 rfl) ?_
            refine mz_Vj (As := [.int p1]) (rest := []) ⟨hx, hb, hml, hown, hts⟩ hK hM hS (k_X13_isUp l D cy ld ad am hD _ _ _ _ p1 (hIF.weak) hIG hIR (by omega) (by omega)) ⟨callB_of 1 hts (wl_in mw_1075) rfl rfl rfl (htl _ mw_5) (htl _ mw_1072) hd_yX13_isUp ⟨(Nat.le_of_ble_eq_true rfl), (Nat.le_of_ble_eq_true rfl)⟩, htl _ mw_1073, htl _ mw_1074⟩ rfl hl.1 rfl (Nat.le_of_ble_eq_true rfl) dX13_beginNow_57 ⟨(Nat.le_of_ble_eq_true rfl), (Nat.le_of_ble_eq_true rfl)⟩ (fun v55 H locs hpo hM hS => ?_)
            obtain ⟨hpo56, hpo57, hpo58, hpo59⟩ := hpo
            have hq_v55 := tk_rng v55
            refine lv_if_eq (tgt := 71) hx hb dX13_beginNow_60 (by decide) (fun c9 => ?_) (fun c9 => ?_)
            · have hc61 : v55.toInt = 0 := (fi_eq rfl (show (0 : Int32).toInt = 0 by decide)).mp c9
              refine lv_bipush (v := (-3)) hx hb dX13_beginNow_71 (by decide) ?_
              have hk_m3 : ((-3) : Int32).toInt = (-3) := by decide
              exact mz_iret (v := (-3)) hx hb hr rfl hlocks ⟨hIF, hIG, hIR, (fun _ _ => rfl), (fun _ _ => rfl), (fun _ _ => rfl), (rK1.refl rfl), (by omega), (by omega)⟩ hM hS dX13_beginNow_73
            · have hc61 : ¬ (v55.toInt = 0) := fun h9 => c9 ((fi_eq rfl (show (0 : Int32).toInt = 0 by decide)).mpr h9)
              refine lv_aload_n hx hb dX13_beginNow_63 rfl (lv_at hl 0 rfl) ?_
              refine lv_iload_n hx hb dX13_beginNow_64 rfl (lv_at hl 2 rfl) ?_
              refine mz_Vj (As := [.int p2]) (rest := []) ⟨hx, hb, hml, hown, hts⟩ hK hM hS (k_X13_isUp l D cy ld ad am hD _ _ _ _ p2 (hIF.weak) hIG hIR (by omega) (by omega)) ⟨callB_of 1 hts (wl_in mw_1075) rfl rfl rfl (htl _ mw_5) (htl _ mw_1072) hd_yX13_isUp ⟨(Nat.le_of_ble_eq_true rfl), (Nat.le_of_ble_eq_true rfl)⟩, htl _ mw_1073, htl _ mw_1074⟩ rfl hl.1 rfl (Nat.le_of_ble_eq_true rfl) dX13_beginNow_65 ⟨(Nat.le_of_ble_eq_true rfl), (Nat.le_of_ble_eq_true rfl)⟩ (fun v62 H locs hpo hM hS => ?_)
              obtain ⟨hpo63, hpo64, hpo65, hpo66⟩ := hpo
              have hq_v62 := tk_rng v62
              refine lv_if_ne (tgt := 74) hx hb dX13_beginNow_68 (by decide) (fun c9 => ?_) (fun c9 => ?_)
              · have hc68 : ¬ (v62.toInt = 0) := fun h9 => c9 ((fi_eq rfl (show (0 : Int32).toInt = 0 by decide)).mpr h9)
                refine lv_aload_n hx hb dX13_beginNow_74 rfl (lv_at hl 0 rfl) ?_
                refine lv_iconst (v := 0) hx hb dX13_beginNow_75 (by decide) ?_
                have hk_0 : (0 : Int32).toInt = 0 := by decide
                refine mz_Vv (As := [.int 0]) (rest := []) ⟨hx, hb, hml, hown, hts⟩ hK hM hS (k_X13_remember l D cy ld ad am hD _ _ _ _ 0 hIF hIG hIR (by omega) (by omega)) ⟨callB_of 1 hts (wl_in mw_1079) rfl rfl rfl (htl _ mw_5) (htl _ mw_1076) hd_yX13_remember ⟨(Nat.le_of_ble_eq_true rfl), (Nat.le_of_ble_eq_true rfl)⟩, htl _ mw_1077, htl _ mw_1078⟩ rfl hl.1 rfl (Nat.le_of_ble_eq_true rfl) dX13_beginNow_76 ⟨(Nat.le_of_ble_eq_true rfl), (Nat.le_of_ble_eq_true rfl)⟩ (fun H locs F G R S hpo hM hS => ?_)
                obtain ⟨hIF, hIG, hIR, hfr9, hrr9, hgr9⟩ := hpo
                have hFF := mz_fr (K := [8]) (Fa := Fa) hfr9 (fun _ _ => rfl) (by decide)
                have hRR := mz_fr (K := [3, 6, 7]) (Fa := Ra) hrr9 (fun _ _ => rfl) (by decide)
                have hGG := mz_fr (K := []) (Fa := Ga) hgr9 (fun _ _ => rfl) (by decide)
                have hrel : rK1 (Ra 3) (R 3) := (rK1.refl rfl).trans (rK1.refl (hrr9 3 (by decide)))
                have hf33 : R 3 12 = _ := (congrFun (hrr9 3 (by decide)) 12).trans hf33
                refine lv_aload_n hx hb dX13_beginNow_79 rfl (lv_at hl 0 rfl) ?_
                refine lv_iload_n hx hb dX13_beginNow_80 rfl (lv_at hl 1 rfl) ?_
                refine lv_iload_n hx hb dX13_beginNow_81 rfl (lv_at hl 2 rfl) ?_
                refine lv_iload_n hx hb dX13_beginNow_82 rfl (lv_at hl 3 rfl) ?_
                have hIR := hIR.bare
                refine mz_Vv (As := [.int p1, .int p2, .int p3]) (rest := []) ⟨hx, hb, hml, hown, hts⟩ hK hM hS (k_X13_layDuel l D cy ld ad am hD _ _ _ _ p1 p2 p3 hIF hIG hIR (by omega) (by omega) (by omega) (by omega) (by omega) (by omega)) ⟨callB_of 3 hts (wl_in mw_1083) rfl rfl rfl (htl _ mw_5) (htl _ mw_1080) hd_yX13_layDuel ⟨(Nat.le_of_ble_eq_true rfl), (Nat.le_of_ble_eq_true rfl)⟩, htl _ mw_1081, htl _ mw_1082⟩ rfl hl.1 rfl (Nat.le_of_ble_eq_true rfl) dX13_beginNow_83 ⟨(Nat.le_of_ble_eq_true rfl), (Nat.le_of_ble_eq_true rfl)⟩ (fun H locs F G R S hpo hM hS => ?_)
                obtain ⟨hIF, hIG, hIR, hfr9, hrr9, hgr9, hrel9, hf70, hf71, hf72, hf73⟩ := hpo
                have hFF := mz_fr (K := [8]) (Fa := Fa) hfr9 hFF (by decide)
                have hRR := mz_fr (K := [3, 6, 7]) (Fa := Ra) hrr9 hRR (by decide)
                have hGG := mz_fr (K := []) (Fa := Ga) hgr9 hGG (by decide)
                have hrel := hrel.trans hrel9.k1
                have hr_p1 : (-1) ≤ p1.toInt ∧ p1.toInt ≤ 7 := by have h9 := hIR.d; unfold dO at h9; rw [hf70] at h9; omega
                have hr_p2 : (-1) ≤ p2.toInt ∧ p2.toInt ≤ 7 := by have h9 := hIR.d; unfold dO at h9; rw [hf71] at h9; omega
                have hti_74 : p1.toInt ≠ -1 → p2.toInt ≠ -1 := by have h9 := hIR.d.2.2.2.2.2; rw [hf70, hf71] at h9; exact fun h8 => (h9 h8).1
                have hr_p1 : (-1) ≤ p1.toInt ∧ p1.toInt ≤ 7 := by have h9 := hIR.d; unfold dO at h9; rw [hf73] at h9; omega
                have hk_0 : (0 : Int32).toInt = 0 := by decide
                skip
                have hti_76 : p1.toInt ≠ -1 → p1.toInt ≠ -1 := by have h9 := hIR.d.2.2.2.2.2; rw [hf70, hf73] at h9; exact fun h8 => (h9 h8).2.2
                refine lv_iconst (v := 0) hx hb dX13_beginNow_86 (by decide) ?_
                have hk_0 : (0 : Int32).toInt = 0 := by decide
                exact mz_iret (v := 0) hx hb hr rfl hlocks ⟨hIF, hIG, hIR, hFF, hRR, hGG, hrel, (by omega), (by omega)⟩ hM hS dX13_beginNow_87
              · have hc68 : v62.toInt = 0 := (fi_eq rfl (show (0 : Int32).toInt = 0 by decide)).mp c9
                refine lv_bipush (v := (-3)) hx hb dX13_beginNow_71 (by decide) ?_
                have hk_m3 : ((-3) : Int32).toInt = (-3) := by decide
                exact mz_iret (v := (-3)) hx hb hr rfl hlocks ⟨hIF, hIG, hIR, (fun _ _ => rfl), (fun _ _ => rfl), (fun _ _ => rfl), (rK1.refl rfl), (by omega), (by omega)⟩ hM hS dX13_beginNow_73
      · have hc31 : v24.toInt = 0 := (fi_eq rfl (show (0 : Int32).toInt = 0 by decide)).mp c9
        refine lv_bipush (v := (-2)) hx hb dX13_beginNow_30 (by decide) ?_
        have hk_m2 : ((-2) : Int32).toInt = (-2) := by decide
        exact mz_iret (v := (-2)) hx hb hr rfl hlocks ⟨hIF, hIG, hIR, (fun _ _ => rfl), (fun _ _ => rfl), (fun _ _ => rfl), (rK1.refl rfl), (by omega), (by omega)⟩ hM hS dX13_beginNow_32
  · have hc13 : v2.toInt = 0 := (fi_eq rfl (show (0 : Int32).toInt = 0 by decide)).mp c9
    refine lv_iconst (v := (-1)) hx hb dX13_beginNow_12 (by decide) ?_
    have hk_m1 : ((-1) : Int32).toInt = (-1) := by decide
    exact mz_iret (v := (-1)) hx hb hr rfl hlocks ⟨hIF, hIG, hIR, (fun _ _ => rfl), (fun _ _ => rfl), (fun _ _ => rfl), (rK1.refl rfl), (by omega), (by omega)⟩ hM hS dX13_beginNow_13
