theorem hd_yX13_play : yX13_play.cls ≠ "java/lang/invoke/MethodHandle" ∧ yX13_play.cls ≠ "java/lang/invoke/VarHandle" ∧ (parseMethodDescriptor yX13_play.desc).map (fun d => d.parameters.length) = some 1 := by decide +kernel
theorem dX13_game_0 : decode cX13_game 0 = .ok (.aload_n 0, 1) := by decide +kernel
theorem dX13_game_1 : decode cX13_game 1 = .ok (.iconst 0, 1) := by decide +kernel
theorem dX13_game_2 : decode cX13_game 2 = .ok (.putfield 170, 3) := by decide +kernel
theorem dX13_game_5 : decode cX13_game 5 = .ok (.aload_n 0, 1) := by decide +kernel
theorem dX13_game_6 : decode cX13_game 6 = .ok (.invokevirtual 434, 3) := by decide +kernel
theorem dX13_game_9 : decode cX13_game 9 = .ok (.ifCond .eq 27, 3) := by decide +kernel
theorem dX13_game_36 : decode cX13_game 36 = .ok (.sipush (-1000), 3) := by decide +kernel
theorem dX13_game_39 : decode cX13_game 39 = .ok (.ireturn, 1) := by decide +kernel
theorem dX13_game_12 : decode cX13_game 12 = .ok (.iload_n 1, 1) := by decide +kernel
theorem dX13_game_13 : decode cX13_game 13 = .ok (.i2l, 1) := by decide +kernel
theorem dX13_game_14 : decode cX13_game 14 = .ok (.lconst 1, 1) := by decide +kernel
theorem dX13_game_15 : decode cX13_game 15 = .ok (.ldc2_w 205, 3) := by decide +kernel
theorem dX13_game_18 : decode cX13_game 18 = .ok (.invokestatic 190, 3) := by decide +kernel
theorem dX13_game_21 : decode cX13_game 21 = .ok (.ifCond .eq 15, 3) := by decide +kernel
theorem dX13_game_24 : decode cX13_game 24 = .ok (.iload_n 2, 1) := by decide +kernel
theorem dX13_game_25 : decode cX13_game 25 = .ok (.i2l, 1) := by decide +kernel
theorem dX13_game_26 : decode cX13_game 26 = .ok (.lconst 0, 1) := by decide +kernel
theorem dX13_game_27 : decode cX13_game 27 = .ok (.ldc2_w 415, 3) := by decide +kernel
theorem dX13_game_30 : decode cX13_game 30 = .ok (.invokestatic 190, 3) := by decide +kernel
theorem dX13_game_33 : decode cX13_game 33 = .ok (.ifCond .ne 7, 3) := by decide +kernel
theorem dX13_game_40 : decode cX13_game 40 = .ok (.aload_n 0, 1) := by decide +kernel
theorem dX13_game_41 : decode cX13_game 41 = .ok (.iload_n 1, 1) := by decide +kernel
theorem dX13_game_42 : decode cX13_game 42 = .ok (.invokevirtual 504, 3) := by decide +kernel
theorem dX13_game_45 : decode cX13_game 45 = .ok (.iload_n 2, 1) := by decide +kernel
theorem dX13_game_46 : decode cX13_game 46 = .ok (.ifCond .ne 15, 3) := by decide +kernel
theorem dX13_game_61 : decode cX13_game 61 = .ok (.iload_n 2, 1) := by decide +kernel
theorem dX13_game_62 : decode cX13_game 62 = .ok (.iconst 1, 1) := by decide +kernel
theorem dX13_game_63 : decode cX13_game 63 = .ok (.if_icmp .ne 28, 3) := by decide +kernel
theorem dX13_game_91 : decode cX13_game 91 = .ok (.aload_n 0, 1) := by decide +kernel
theorem dX13_game_92 : decode cX13_game 92 = .ok (.getfield 119, 3) := by decide +kernel
theorem dX13_game_95 : decode cX13_game 95 = .ok (.iconst 0, 1) := by decide +kernel
theorem dX13_game_96 : decode cX13_game 96 = .ok (.iaload, 1) := by decide +kernel
theorem dX13_game_97 : decode cX13_game 97 = .ok (.ireturn, 1) := by decide +kernel
theorem dX13_game_66 : decode cX13_game 66 = .ok (.aload_n 0, 1) := by decide +kernel
theorem dX13_game_67 : decode cX13_game 67 = .ok (.getfield 116, 3) := by decide +kernel
theorem dX13_game_70 : decode cX13_game 70 = .ok (.iconst 0, 1) := by decide +kernel
theorem dX13_game_71 : decode cX13_game 71 = .ok (.iaload, 1) := by decide +kernel
theorem dX13_game_72 : decode cX13_game 72 = .ok (.ifCond .ne 7, 3) := by decide +kernel
theorem dX13_game_79 : decode cX13_game 79 = .ok (.aload_n 0, 1) := by decide +kernel
theorem dX13_game_80 : decode cX13_game 80 = .ok (.getfield 116, 3) := by decide +kernel
theorem dX13_game_83 : decode cX13_game 83 = .ok (.iconst 0, 1) := by decide +kernel
theorem dX13_game_84 : decode cX13_game 84 = .ok (.iaload, 1) := by decide +kernel
theorem dX13_game_85 : decode cX13_game 85 = .ok (.bipush 10, 2) := by decide +kernel
theorem dX13_game_87 : decode cX13_game 87 = .ok (.irem, 1) := by decide +kernel
theorem dX13_game_88 : decode cX13_game 88 = .ok (.goto 9, 3) := by decide +kernel
theorem dX13_game_75 : decode cX13_game 75 = .ok (.iconst (-1), 1) := by decide +kernel
theorem dX13_game_76 : decode cX13_game 76 = .ok (.goto 21, 3) := by decide +kernel
theorem dX13_game_49 : decode cX13_game 49 = .ok (.aload_n 0, 1) := by decide +kernel
theorem dX13_game_50 : decode cX13_game 50 = .ok (.getfield 116, 3) := by decide +kernel
theorem dX13_game_53 : decode cX13_game 53 = .ok (.iconst 0, 1) := by decide +kernel
theorem dX13_game_54 : decode cX13_game 54 = .ok (.iaload, 1) := by decide +kernel
theorem dX13_game_55 : decode cX13_game 55 = .ok (.bipush 10, 2) := by decide +kernel
theorem dX13_game_57 : decode cX13_game 57 = .ok (.idiv, 1) := by decide +kernel
theorem dX13_game_58 : decode cX13_game 58 = .ok (.goto 39, 3) := by decide +kernel
set_option maxHeartbeats 4000000 in
set_option maxRecDepth 100000 in
theorem k_X13_game (l : Launch) (D : va_G) (cy : Nat → ClassId) (ld ad : Nat → Nat) (am : Nat) (hD : mz_D ad am) (Fa : Nat → Int32) (Ga : Nat → Int64) (Ra : Nat → Nat → Int32) (Sa : Nat → Nat → Int64) (p1 : Int32) (p2 : Int32) (hIF : mz_IF true Fa) (hIG : mz_IG Ga) (hIR : mz_IR [] true Ra) : Met l yX13_game (wl yX13_game cX13_game 3 (some .int)) ({ frames := 11, cells := 0, slots := 0, locals := 700 }) (mz_p D cy ld ad am Fa Ga Ra Sa [.ref am, .int p1, .int p2]) (mz_i D cy ad am (fun r F G R S => mz_IF true F ∧ mz_IG G ∧ mz_IR [] true R ∧ (∀ k : Nat, k ∉ ([0, 34, 38, 41] : List Nat) → F k = Fa k) ∧ (∀ k : Nat, k ∉ ([3, 6, 43, 44, 45, 46] : List Nat) → R k = Ra k) ∧ (∀ k : Nat, k ∉ ([39, 40] : List Nat) → G k = Ga k) ∧ rK1 (Ra 3) (R 3))) 0 0 (mz_W ad am) := by
  refine mz_met (y := yX13_game) (cc := cX13_game) (maxL := 3) (ret := (some .int)) (av := [.ref am, .int p1, .int p2]) _ (by decide) (Nat.le_of_ble_eq_true rfl) ?_
  intro p e s m args below meth c hx hb hr hml hts htl hown hlocks hK H locs hM hS ls hl
  have hown : s.vm.findClass RX13 = some m.cls := hown
  have hl : lv_has ls 3 [(0, .ref am), (1, .int p1), (2, .int p2)] := hl
  have hr_p1 := tk_rng p1
  have hr_p2 := tk_rng p2
  refine lv_aload_n hx hb dX13_game_0 rfl (lv_at hl 0 rfl) ?_
  refine lv_iconst (v := 0) hx hb dX13_game_1 (by decide) ?_
  have hk_0 : (0 : Int32).toInt = 0 := by decide
  refine mz_putI (ty := .int) (x := 0) hx hb htl hown hK hD hM hS 0 (Nat.le_of_ble_eq_true rfl) rfl (htl _ mw_286) (fun _ h9 => h9) rfl (tyX13_ok 0 (by decide)) rfl rfl dX13_game_2 (fun H locs F hM hS hf9 hj9 => ?_)
  have hIF := hIF.put hf9 hj9 (tk_rng _).1 (tk_rng _).2 (by decide)
  have hFF := mz_frp (K := [0, 34, 38, 41]) (Fa := Fa) hj9 (fun _ _ => rfl) (by decide)
  have hf2 := hf9
  refine lv_aload_n hx hb dX13_game_5 rfl (lv_at hl 0 rfl) ?_
  obtain ⟨v4, hf3⟩ : ∃ z : Int32, Ra 3 12 = z := ⟨_, rfl⟩
  have hq_v4 := tk_rng v4
  have hr_v4 : (-1) ≤ v4.toInt ∧ v4.toInt ≤ 7 := by have h9 := hIR.d; unfold dO at h9; rw [hf3] at h9; omega
  refine mz_Vj (As := []) (rest := []) ⟨hx, hb, hml, hown, hts⟩ hK hM hS (k_X13_isDuel l D cy ld ad am hD _ _ _ _ v4 (hIF.weak) hIG hIR hf3) ⟨callB_of 0 hts (wl_in mw_1071) rfl rfl rfl (htl _ mw_5) (htl _ mw_1068) hd_yX13_isDuel ⟨(Nat.le_of_ble_eq_true rfl), (Nat.le_of_ble_eq_true rfl)⟩, htl _ mw_1069, htl _ mw_1070⟩ rfl hl.1 rfl (Nat.le_of_ble_eq_true rfl) dX13_game_6 ⟨(Nat.le_of_ble_eq_true rfl), (Nat.le_of_ble_eq_true rfl)⟩ (fun v5 H locs hpo hM hS => ?_)
  obtain ⟨hpo6, hpo10, hpo11, hpo12, hpo13, hpo14⟩ := hpo
  have hq_v5 := tk_rng v5
  refine lv_if_eq (tgt := 36) hx hb dX13_game_9 (by decide) (fun c9 => ?_) (fun c9 => ?_)
  · have hc16 : v5.toInt = 0 := (fi_eq rfl (show (0 : Int32).toInt = 0 by decide)).mp c9
    have hwk_17 : v4.toInt ≤ (-1) := by omega
    refine lv_sipush (v := (-1000)) hx hb dX13_game_36 (by decide) ?_
    have hk_m1000 : ((-1000) : Int32).toInt = (-1000) := by decide
    exact mz_iret (v := (-1000)) hx hb hr rfl hlocks ⟨hIF, hIG, hIR, hFF, (fun _ _ => rfl), (fun _ _ => rfl), (rK1.refl rfl)⟩ hM hS dX13_game_39
  · have hc16 : ¬ (v5.toInt = 0) := fun h9 => c9 ((fi_eq rfl (show (0 : Int32).toInt = 0 by decide)).mpr h9)
    have hwk_18 : 0 ≤ v4.toInt := by omega
    refine lv_iload_n hx hb dX13_game_12 rfl (lv_at hl 1 rfl) ?_
    obtain ⟨w19, e_w19, h_w19⟩ : ∃ z : Int64, p1.toInt64 = z ∧ z.toInt = p1.toInt := ⟨_, rfl, fl_w _⟩
    refine lv_i2l (v := w19) hx hb dX13_game_13 e_w19 ?_
    refine lv_lconst (v := 1) hx hb dX13_game_14 (by decide) ?_
    refine lv_ldc2 hx hb hown (htl _ mw_316) dX13_game_15 ?_
    have hk_1 : (1 : Int64).toInt = 1 := by decide
    have hk_4 : (4 : Int64).toInt = 4 := by decide
    refine mz_Sj (As := [.long w19, .long 1, .long 4]) (rest := []) ⟨hx, hb, hml, hown, hts⟩ hK hM hS (k_X13_in l D cy ld ad am hD _ _ _ _ w19 1 4) ⟨callB_of 3 hts (wl_in mw_292) rfl rfl rfl (htl _ mw_5) (htl _ mw_290) hd_yX13_in ⟨(Nat.le_of_ble_eq_true rfl), (Nat.le_of_ble_eq_true rfl)⟩, htl _ mw_291⟩ rfl hl.1 rfl (Nat.le_of_ble_eq_true rfl) dX13_game_18 ⟨(Nat.le_of_ble_eq_true rfl), (Nat.le_of_ble_eq_true rfl)⟩ (fun v20 H locs hpo hM hS => ?_)
    obtain ⟨hpo21, hpo22, hpo23, hpo24, hpo25, hpo26⟩ := hpo
    have hq_v20 := tk_rng v20
    refine lv_if_eq (tgt := 36) hx hb dX13_game_21 (by decide) (fun c9 => ?_) (fun c9 => ?_)
    · have hc28 : v20.toInt = 0 := (fi_eq rfl (show (0 : Int32).toInt = 0 by decide)).mp c9
      refine lv_sipush (v := (-1000)) hx hb dX13_game_36 (by decide) ?_
      have hk_m1000 : ((-1000) : Int32).toInt = (-1000) := by decide
      exact mz_iret (v := (-1000)) hx hb hr rfl hlocks ⟨hIF, hIG, hIR, hFF, (fun _ _ => rfl), (fun _ _ => rfl), (rK1.refl rfl)⟩ hM hS dX13_game_39
    · have hc28 : ¬ (v20.toInt = 0) := fun h9 => c9 ((fi_eq rfl (show (0 : Int32).toInt = 0 by decide)).mpr h9)
      have hwk_29 : 1 ≤ w19.toInt ∧ w19.toInt ≤ 4 := by omega
      refine lv_iload_n hx hb dX13_game_24 rfl (lv_at hl 2 rfl) ?_
      obtain ⟨w30, e_w30, h_w30⟩ : ∃ z : Int64, p2.toInt64 = z ∧ z.toInt = p2.toInt := ⟨_, rfl, fl_w _⟩
      refine lv_i2l (v := w30) hx hb dX13_game_25 e_w30 ?_
      refine lv_lconst (v := 0) hx hb dX13_game_26 (by decide) ?_
      refine lv_ldc2 hx hb hown (htl _ mw_1122) dX13_game_27 ?_
      have hk_0 : (0 : Int64).toInt = 0 := by decide
      have hk_2 : (2 : Int64).toInt = 2 := by decide
      refine mz_Sj (As := [.long w30, .long 0, .long 2]) (rest := []) ⟨hx, hb, hml, hown, hts⟩ hK hM hS (k_X13_in l D cy ld ad am hD _ _ _ _ w30 0 2) ⟨callB_of 3 hts (wl_in mw_292) rfl rfl rfl (htl _ mw_5) (htl _ mw_290) hd_yX13_in ⟨(Nat.le_of_ble_eq_true rfl), (Nat.le_of_ble_eq_true rfl)⟩, htl _ mw_291⟩ rfl hl.1 rfl (Nat.le_of_ble_eq_true rfl) dX13_game_30 ⟨(Nat.le_of_ble_eq_true rfl), (Nat.le_of_ble_eq_true rfl)⟩ (fun v31 H locs hpo hM hS => ?_)
      obtain ⟨hpo32, hpo33, hpo34, hpo35, hpo36, hpo37⟩ := hpo
      have hq_v31 := tk_rng v31
      refine lv_if_ne (tgt := 40) hx hb dX13_game_33 (by decide) (fun c9 => ?_) (fun c9 => ?_)
      · have hc39 : ¬ (v31.toInt = 0) := fun h9 => c9 ((fi_eq rfl (show (0 : Int32).toInt = 0 by decide)).mpr h9)
        have hwk_40 : 0 ≤ w30.toInt ∧ w30.toInt ≤ 2 := by omega
        refine lv_aload_n hx hb dX13_game_40 rfl (lv_at hl 0 rfl) ?_
        refine lv_iload_n hx hb dX13_game_41 rfl (lv_at hl 1 rfl) ?_
        obtain ⟨v42, hf41⟩ : ∃ z : Int32, Ra 3 1 = z := ⟨_, rfl⟩
        have hq_v42 := tk_rng v42
        have hr_v42 : 0 ≤ v42.toInt ∧ v42.toInt ≤ 10 := by have h9 := mz_r3c 1 (hIR.at 3) hf41 (by decide); unfold mE at h9; omega
        refine mz_Vv (As := [.int p1]) (rest := []) ⟨hx, hb, hml, hown, hts⟩ hK hM hS (k_X13_play l D cy ld ad am hD _ _ _ _ p1 v4 v42 hIF hIG hIR hf3 hf41 (by omega) (by omega) (by omega)) ⟨callB_of 1 hts (wl_in mw_1311) rfl rfl rfl (htl _ mw_5) (htl _ mw_1308) hd_yX13_play ⟨(Nat.le_of_ble_eq_true rfl), (Nat.le_of_ble_eq_true rfl)⟩, htl _ mw_1309, htl _ mw_1310⟩ rfl hl.1 rfl (Nat.le_of_ble_eq_true rfl) dX13_game_42 ⟨(Nat.le_of_ble_eq_true rfl), (Nat.le_of_ble_eq_true rfl)⟩ (fun H locs F G R S hpo hM hS => ?_)
        obtain ⟨hIF, hIG, hIR, hfr9, hrr9, hgr9, hrel9⟩ := hpo
        have hFF := mz_fr (K := [0, 34, 38, 41]) (Fa := Fa) hfr9 hFF (by decide)
        have hRR := mz_fr (K := [3, 6, 43, 44, 45, 46]) (Fa := Ra) hrr9 (fun _ _ => rfl) (by decide)
        have hGG := mz_fr (K := [39, 40]) (Fa := Ga) hgr9 (fun _ _ => rfl) (by decide)
        have hrel := (rK1.refl rfl).trans hrel9
        have hf2 := (hfr9 0 (by decide)).trans hf2
        have hf41 : R 3 1 = _ := (hrel9 1 (by omega)).trans hf41
        refine lv_iload_n hx hb dX13_game_45 rfl (lv_at hl 2 rfl) ?_
        refine lv_if_ne (tgt := 61) hx hb dX13_game_46 (by decide) (fun c9 => ?_) (fun c9 => ?_)
        · have hc44 : ¬ (p2.toInt = 0) := fun h9 => c9 ((fi_eq rfl (show (0 : Int32).toInt = 0 by decide)).mpr h9)
          refine lv_iload_n hx hb dX13_game_61 rfl (lv_at hl 2 rfl) ?_
          refine lv_iconst (v := 1) hx hb dX13_game_62 (by decide) ?_
          refine lv_icmp_ne (tgt := 91) hx hb dX13_game_63 (by decide) (fun c9 => ?_) (fun c9 => ?_)
          · have hc45 : ¬ (p2.toInt = 1) := fun h9 => c9 ((fi_eq rfl (show (1 : Int32).toInt = 1 by decide)).mpr h9)
            refine lv_aload_n hx hb dX13_game_91 rfl (lv_at hl 0 rfl) ?_
            refine mz_getR hx hb htl hown hK hM 45 (Nat.le_of_ble_eq_true rfl) (Nat.le_of_ble_eq_true rfl) (htl _ mw_229) (fun _ h9 => h9) dX13_game_92 ?_
            refine lv_iconst (v := 0) hx hb dX13_game_95 (by decide) ?_
            refine mz_iald hx hb hK hM 45 (Nat.le_of_ble_eq_true rfl) rfl (nn := 5) rfl (I := 0) (by decide) (by decide) (by decide) dX13_game_96 (fun v47 hf46 => ?_)
            have hf46 : R 45 0 = v47 := hf46
            have hq_v47 := tk_rng v47
            exact mz_iret (v := v47) hx hb hr rfl hlocks ⟨hIF, hIG, hIR, hFF, hRR, hGG, hrel⟩ hM hS dX13_game_97
          · have hc45 : p2.toInt = 1 := (fi_eq rfl (show (1 : Int32).toInt = 1 by decide)).mp c9
            refine lv_aload_n hx hb dX13_game_66 rfl (lv_at hl 0 rfl) ?_
            refine mz_getR hx hb htl hown hK hM 44 (Nat.le_of_ble_eq_true rfl) (Nat.le_of_ble_eq_true rfl) (htl _ mw_228) (fun _ h9 => h9) dX13_game_67 ?_
            refine lv_iconst (v := 0) hx hb dX13_game_70 (by decide) ?_
            refine mz_iald hx hb hK hM 44 (Nat.le_of_ble_eq_true rfl) rfl (nn := 5) rfl (I := 0) (by decide) (by decide) (by decide) dX13_game_71 (fun v49 hf48 => ?_)
            have hf48 : R 44 0 = v49 := hf48
            have hq_v49 := tk_rng v49
            refine lv_if_ne (tgt := 79) hx hb dX13_game_72 (by decide) (fun c9 => ?_) (fun c9 => ?_)
            · have hc50 : ¬ (v49.toInt = 0) := fun h9 => c9 ((fi_eq rfl (show (0 : Int32).toInt = 0 by decide)).mpr h9)
              refine lv_aload_n hx hb dX13_game_79 rfl (lv_at hl 0 rfl) ?_
              refine mz_getR hx hb htl hown hK hM 44 (Nat.le_of_ble_eq_true rfl) (Nat.le_of_ble_eq_true rfl) (htl _ mw_228) (fun _ h9 => h9) dX13_game_80 ?_
              refine lv_iconst (v := 0) hx hb dX13_game_83 (by decide) ?_
              refine mz_iald hx hb hK hM 44 (Nat.le_of_ble_eq_true rfl) rfl (nn := 5) rfl (I := 0) (by decide) (by decide) (by decide) dX13_game_84 (fun v52 hf51 => ?_)
              have hf51 : R 44 0 = v52 := hf51
              have hq_v52 := tk_rng v52
              refine lv_bipush (v := 10) hx hb dX13_game_85 (by decide) ?_
              refine lv_irem hx hb dX13_game_87 (by decide) ?_
              refine tk_any (fun v53 => ?_)
              refine lv_goto (tgt := 97) hx hb dX13_game_88 (by decide) ?_
              exact mz_iret (v := v53) hx hb hr rfl hlocks ⟨hIF, hIG, hIR, hFF, hRR, hGG, hrel⟩ hM hS dX13_game_97
            · have hc50 : v49.toInt = 0 := (fi_eq rfl (show (0 : Int32).toInt = 0 by decide)).mp c9
              refine lv_iconst (v := (-1)) hx hb dX13_game_75 (by decide) ?_
              refine lv_goto (tgt := 97) hx hb dX13_game_76 (by decide) ?_
              have hk_m1 : ((-1) : Int32).toInt = (-1) := by decide
              exact mz_iret (v := (-1)) hx hb hr rfl hlocks ⟨hIF, hIG, hIR, hFF, hRR, hGG, hrel⟩ hM hS dX13_game_97
        · have hc44 : p2.toInt = 0 := (fi_eq rfl (show (0 : Int32).toInt = 0 by decide)).mp c9
          refine lv_aload_n hx hb dX13_game_49 rfl (lv_at hl 0 rfl) ?_
          refine mz_getR hx hb htl hown hK hM 44 (Nat.le_of_ble_eq_true rfl) (Nat.le_of_ble_eq_true rfl) (htl _ mw_228) (fun _ h9 => h9) dX13_game_50 ?_
          refine lv_iconst (v := 0) hx hb dX13_game_53 (by decide) ?_
          refine mz_iald hx hb hK hM 44 (Nat.le_of_ble_eq_true rfl) rfl (nn := 5) rfl (I := 0) (by decide) (by decide) (by decide) dX13_game_54 (fun v55 hf54 => ?_)
          have hf54 : R 44 0 = v55 := hf54
          have hq_v55 := tk_rng v55
          refine lv_bipush (v := 10) hx hb dX13_game_55 (by decide) ?_
          refine lv_idiv hx hb dX13_game_57 (by decide) ?_
          refine tk_any (fun v56 => ?_)
          refine lv_goto (tgt := 97) hx hb dX13_game_58 (by decide) ?_
          exact mz_iret (v := v56) hx hb hr rfl hlocks ⟨hIF, hIG, hIR, hFF, hRR, hGG, hrel⟩ hM hS dX13_game_97
      · have hc39 : v31.toInt = 0 := (fi_eq rfl (show (0 : Int32).toInt = 0 by decide)).mp c9
        refine lv_sipush (v := (-1000)) hx hb dX13_game_36 (by decide) ?_
        have hk_m1000 : ((-1000) : Int32).toInt = (-1000) := by decide
        exact mz_iret (v := (-1000)) hx hb hr rfl hlocks ⟨hIF, hIG, hIR, hFF, (fun _ _ => rfl), (fun _ _ => rfl), (rK1.refl rfl)⟩ hM hS dX13_game_39
