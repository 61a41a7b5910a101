theorem dX13_drawn_0 : decode cX13_drawn 0 = .ok (.aload_n 0, 1) := by decide +kernel
theorem dX13_drawn_1 : decode cX13_drawn 1 = .ok (.iconst 0, 1) := by decide +kernel
theorem dX13_drawn_2 : decode cX13_drawn 2 = .ok (.putfield 170, 3) := by decide +kernel
theorem dX13_drawn_5 : decode cX13_drawn 5 = .ok (.aload_n 0, 1) := by decide +kernel
theorem dX13_drawn_6 : decode cX13_drawn 6 = .ok (.getfield 164, 3) := by decide +kernel
theorem dX13_drawn_9 : decode cX13_drawn 9 = .ok (.iconst (-1), 1) := by decide +kernel
theorem dX13_drawn_10 : decode cX13_drawn 10 = .ok (.if_icmp .eq 40, 3) := by decide +kernel
theorem dX13_drawn_50 : decode cX13_drawn 50 = .ok (.iconst (-1), 1) := by decide +kernel
theorem dX13_drawn_51 : decode cX13_drawn 51 = .ok (.ireturn, 1) := by decide +kernel
theorem dX13_drawn_13 : decode cX13_drawn 13 = .ok (.iload_n 2, 1) := by decide +kernel
theorem dX13_drawn_14 : decode cX13_drawn 14 = .ok (.i2l, 1) := by decide +kernel
theorem dX13_drawn_15 : decode cX13_drawn 15 = .ok (.lconst 0, 1) := by decide +kernel
theorem dX13_drawn_16 : decode cX13_drawn 16 = .ok (.ldc2_w 415, 3) := by decide +kernel
theorem dX13_drawn_19 : decode cX13_drawn 19 = .ok (.invokestatic 190, 3) := by decide +kernel
theorem dX13_drawn_22 : decode cX13_drawn 22 = .ok (.ifCond .eq 28, 3) := by decide +kernel
theorem dX13_drawn_25 : decode cX13_drawn 25 = .ok (.iload_n 1, 1) := by decide +kernel
theorem dX13_drawn_26 : decode cX13_drawn 26 = .ok (.i2l, 1) := by decide +kernel
theorem dX13_drawn_27 : decode cX13_drawn 27 = .ok (.lconst 0, 1) := by decide +kernel
theorem dX13_drawn_28 : decode cX13_drawn 28 = .ok (.iload_n 2, 1) := by decide +kernel
theorem dX13_drawn_29 : decode cX13_drawn 29 = .ok (.iconst 1, 1) := by decide +kernel
theorem dX13_drawn_30 : decode cX13_drawn 30 = .ok (.if_icmp .ne 7, 3) := by decide +kernel
theorem dX13_drawn_37 : decode cX13_drawn 37 = .ok (.aload_n 0, 1) := by decide +kernel
theorem dX13_drawn_38 : decode cX13_drawn 38 = .ok (.getfield 164, 3) := by decide +kernel
theorem dX13_drawn_41 : decode cX13_drawn 41 = .ok (.i2l, 1) := by decide +kernel
theorem dX13_drawn_42 : decode cX13_drawn 42 = .ok (.lconst 1, 1) := by decide +kernel
theorem dX13_drawn_43 : decode cX13_drawn 43 = .ok (.lsub, 1) := by decide +kernel
theorem dX13_drawn_44 : decode cX13_drawn 44 = .ok (.invokestatic 190, 3) := by decide +kernel
theorem dX13_drawn_47 : decode cX13_drawn 47 = .ok (.ifCond .ne 5, 3) := by decide +kernel
theorem dX13_drawn_52 : decode cX13_drawn 52 = .ok (.iload_n 2, 1) := by decide +kernel
theorem dX13_drawn_53 : decode cX13_drawn 53 = .ok (.ifCond .ne 12, 3) := by decide +kernel
theorem dX13_drawn_65 : decode cX13_drawn 65 = .ok (.iload_n 2, 1) := by decide +kernel
theorem dX13_drawn_66 : decode cX13_drawn 66 = .ok (.iconst 1, 1) := by decide +kernel
theorem dX13_drawn_67 : decode cX13_drawn 67 = .ok (.if_icmp .ne 12, 3) := by decide +kernel
theorem dX13_drawn_79 : decode cX13_drawn 79 = .ok (.aload_n 0, 1) := by decide +kernel
theorem dX13_drawn_80 : decode cX13_drawn 80 = .ok (.getfield 161, 3) := by decide +kernel
theorem dX13_drawn_83 : decode cX13_drawn 83 = .ok (.iload_n 1, 1) := by decide +kernel
theorem dX13_drawn_84 : decode cX13_drawn 84 = .ok (.iaload, 1) := by decide +kernel
theorem dX13_drawn_85 : decode cX13_drawn 85 = .ok (.ireturn, 1) := by decide +kernel
theorem dX13_drawn_56 : decode cX13_drawn 56 = .ok (.aload_n 0, 1) := by decide +kernel
theorem dX13_drawn_57 : decode cX13_drawn 57 = .ok (.getfield 155, 3) := by decide +kernel
theorem dX13_drawn_60 : decode cX13_drawn 60 = .ok (.iload_n 1, 1) := by decide +kernel
theorem dX13_drawn_61 : decode cX13_drawn 61 = .ok (.iaload, 1) := by decide +kernel
theorem dX13_drawn_62 : decode cX13_drawn 62 = .ok (.goto 23, 3) := by decide +kernel
theorem dX13_drawn_33 : decode cX13_drawn 33 = .ok (.lconst 1, 1) := by decide +kernel
theorem dX13_drawn_34 : decode cX13_drawn 34 = .ok (.goto 10, 3) := by decide +kernel
theorem dX13_drawn_70 : decode cX13_drawn 70 = .ok (.aload_n 0, 1) := by decide +kernel
theorem dX13_drawn_71 : decode cX13_drawn 71 = .ok (.getfield 158, 3) := by decide +kernel
theorem dX13_drawn_74 : decode cX13_drawn 74 = .ok (.iload_n 1, 1) := by decide +kernel
theorem dX13_drawn_75 : decode cX13_drawn 75 = .ok (.iaload, 1) := by decide +kernel
theorem dX13_drawn_76 : decode cX13_drawn 76 = .ok (.goto 9, 3) := by decide +kernel
set_option maxHeartbeats 4000000 in
set_option maxRecDepth 100000 in
theorem k_X13_drawn (l : Launch) (D : va_G) (cy : Nat → ClassId) (ld ad : Nat → Nat) (am : Nat) (hD : mz_D ad am) (Fa : Nat → Int32) (Ga : Nat → Int64) (Ra : Nat → Nat → Int32) (Sa : Nat → Nat → Int64) (p1 : Int32) (p2 : Int32) (hIF : mz_IF true Fa) (hIG : mz_IG Ga) (hIR : mz_IR [] true Ra) : Met l yX13_drawn (wl yX13_drawn cX13_drawn 3 (some .int)) ({ frames := 4, cells := 0, slots := 0, locals := 210 }) (mz_p D cy ld ad am Fa Ga Ra Sa [.ref am, .int p1, .int p2]) (mz_i D cy ad am (fun r F G R S => mz_IF true F ∧ mz_IG G ∧ mz_IR [] true R ∧ (∀ k : Nat, k ∉ ([0] : List Nat) → F k = Fa k) ∧ (∀ k : Nat, k ∉ ([] : List Nat) → R k = Ra k) ∧ (∀ k : Nat, k ∉ ([] : List Nat) → G k = Ga k))) 0 0 (mz_W ad am) := by
  refine mz_met (y := yX13_drawn) (cc := cX13_drawn) (maxL := 3) (ret := (some .int)) (av := [.ref am, .int p1, .int p2]) _ (by decide) (Nat.le_of_ble_eq_true rfl) ?_
  intro p e s m args below meth c hx hb hr hml hts htl hown hlocks hK H locs hM hS ls hl
  have hown : s.vm.findClass RX13 = some m.cls := hown
  have hl : lv_has ls 3 [(0, .ref am), (1, .int p1), (2, .int p2)] := hl
  have hr_p1 := tk_rng p1
  have hr_p2 := tk_rng p2
  refine lv_aload_n hx hb dX13_drawn_0 rfl (lv_at hl 0 rfl) ?_
  refine lv_iconst (v := 0) hx hb dX13_drawn_1 (by decide) ?_
  have hk_0 : (0 : Int32).toInt = 0 := by decide
  refine mz_putI (ty := .int) (x := 0) hx hb htl hown hK hD hM hS 0 (Nat.le_of_ble_eq_true rfl) rfl (htl _ mw_286) (fun _ h9 => h9) rfl (tyX13_ok 0 (by decide)) rfl rfl dX13_drawn_2 (fun H locs F hM hS hf9 hj9 => ?_)
  have hIF := hIF.put hf9 hj9 (tk_rng _).1 (tk_rng _).2 (by decide)
  have hFF := mz_frp (K := [0]) (Fa := Fa) hj9 (fun _ _ => rfl) (by decide)
  have hf2 := hf9
  refine lv_aload_n hx hb dX13_drawn_5 rfl (lv_at hl 0 rfl) ?_
  refine mz_getI hx hb htl hown hK hM 69 (Nat.le_of_ble_eq_true rfl) rfl (htl _ mw_244) (fun _ h9 => h9) dX13_drawn_6 (fun v4 hf3 => ?_)
  have hq_v4 := tk_rng v4
  have hr_v4 : (-1) ≤ v4.toInt ∧ v4.toInt ≤ 8 := hIF.at hf3
  refine lv_iconst (v := (-1)) hx hb dX13_drawn_9 (by decide) ?_
  refine lv_icmp_eq (tgt := 50) hx hb dX13_drawn_10 (by decide) (fun c9 => ?_) (fun c9 => ?_)
  · have hc5 : v4.toInt = (-1) := (fi_eq rfl (show ((-1) : Int32).toInt = (-1) by decide)).mp c9
    refine lv_iconst (v := (-1)) hx hb dX13_drawn_50 (by decide) ?_
    have hk_m1 : ((-1) : Int32).toInt = (-1) := by decide
    exact mz_iret (v := (-1)) hx hb hr rfl hlocks ⟨hIF, hIG, hIR, hFF, (fun _ _ => rfl), (fun _ _ => rfl)⟩ hM hS dX13_drawn_51
  · have hc5 : ¬ (v4.toInt = (-1)) := fun h9 => c9 ((fi_eq rfl (show ((-1) : Int32).toInt = (-1) by decide)).mpr h9)
    refine lv_iload_n hx hb dX13_drawn_13 rfl (lv_at hl 2 rfl) ?_
    obtain ⟨w6, e_w6, h_w6⟩ : ∃ z : Int64, p2.toInt64 = z ∧ z.toInt = p2.toInt := ⟨_, rfl, fl_w _⟩
    refine lv_i2l (v := w6) hx hb dX13_drawn_14 e_w6 ?_
    refine lv_lconst (v := 0) hx hb dX13_drawn_15 (by decide) ?_
    refine lv_ldc2 hx hb hown (htl _ mw_1122) dX13_drawn_16 ?_
    have hk_0 : (0 : Int64).toInt = 0 := by decide
    have hk_2 : (2 : Int64).toInt = 2 := by decide
    refine mz_Sj (As := [.long w6, .long 0, .long 2]) (rest := []) ⟨hx, hb, hml, hown, hts⟩ hK hM hS (k_X13_in l D cy ld ad am hD _ _ _ _ w6 0 2) ⟨callB_of 3 hts (wl_in mw_292) rfl rfl rfl (htl _ mw_5) (htl _ mw_290) hd_yX13_in ⟨(Nat.le_of_ble_eq_true rfl), (Nat.le_of_ble_eq_true rfl)⟩, htl _ mw_291⟩ rfl hl.1 rfl (Nat.le_of_ble_eq_true rfl) dX13_drawn_19 ⟨(Nat.le_of_ble_eq_true rfl), (Nat.le_of_ble_eq_true rfl)⟩ (fun v10 H locs hpo hM hS => ?_)
    obtain ⟨hpo11, hpo12, hpo13, hpo14, hpo15, hpo16⟩ := hpo
    have hq_v10 := tk_rng v10
    refine lv_if_eq (tgt := 50) hx hb dX13_drawn_22 (by decide) (fun c9 => ?_) (fun c9 => ?_)
    · have hc18 : v10.toInt = 0 := (fi_eq rfl (show (0 : Int32).toInt = 0 by decide)).mp c9
      refine lv_iconst (v := (-1)) hx hb dX13_drawn_50 (by decide) ?_
      have hk_m1 : ((-1) : Int32).toInt = (-1) := by decide
      exact mz_iret (v := (-1)) hx hb hr rfl hlocks ⟨hIF, hIG, hIR, hFF, (fun _ _ => rfl), (fun _ _ => rfl)⟩ hM hS dX13_drawn_51
    · have hc18 : ¬ (v10.toInt = 0) := fun h9 => c9 ((fi_eq rfl (show (0 : Int32).toInt = 0 by decide)).mpr h9)
      have hwk_19 : 0 ≤ w6.toInt ∧ w6.toInt ≤ 2 := by omega
      refine lv_iload_n hx hb dX13_drawn_25 rfl (lv_at hl 1 rfl) ?_
      obtain ⟨w20, e_w20, h_w20⟩ : ∃ z : Int64, p1.toInt64 = z ∧ z.toInt = p1.toInt := ⟨_, rfl, fl_w _⟩
      refine lv_i2l (v := w20) hx hb dX13_drawn_26 e_w20 ?_
      refine lv_lconst (v := 0) hx hb dX13_drawn_27 (by decide) ?_
      refine lv_iload_n hx hb dX13_drawn_28 rfl (lv_at hl 2 rfl) ?_
      refine lv_iconst (v := 1) hx hb dX13_drawn_29 (by decide) ?_
      refine lv_icmp_ne (tgt := 37) hx hb dX13_drawn_30 (by decide) (fun c9 => ?_) (fun c9 => ?_)
      · have hc21 : ¬ (p2.toInt = 1) := fun h9 => c9 ((fi_eq rfl (show (1 : Int32).toInt = 1 by decide)).mpr h9)
        refine lv_aload_n hx hb dX13_drawn_37 rfl (lv_at hl 0 rfl) ?_
        refine mz_getI hx hb htl hown hK hM 69 (Nat.le_of_ble_eq_true rfl) rfl (htl _ mw_244) (fun _ h9 => h9) dX13_drawn_38 (fun v9 e9 => ?_)
        refine fx_ti (v := v4) (e9.symm.trans hf3) ?_
        obtain ⟨w22, e_w22, h_w22⟩ : ∃ z : Int64, v4.toInt64 = z ∧ z.toInt = v4.toInt := ⟨_, rfl, fl_w _⟩
        refine lv_i2l (v := w22) hx hb dX13_drawn_41 e_w22 ?_
        refine lv_lconst (v := 1) hx hb dX13_drawn_42 (by decide) ?_
        refine lv_lsub hx hb dX13_drawn_43 ?_
        refine tk_lsub rfl (show (1 : Int64).toInt = 1 by decide) (by omega) (by omega) (fun w23 h_w23 => ?_)
        have hk_0 : (0 : Int64).toInt = 0 := by decide
        refine mz_Sj (As := [.long w20, .long 0, .long w23]) (rest := []) ⟨hx, hb, hml, hown, hts⟩ hK hM hS (k_X13_in l D cy ld ad am hD _ _ _ _ w20 0 w23) ⟨callB_of 3 hts (wl_in mw_292) rfl rfl rfl (htl _ mw_5) (htl _ mw_290) hd_yX13_in ⟨(Nat.le_of_ble_eq_true rfl), (Nat.le_of_ble_eq_true rfl)⟩, htl _ mw_291⟩ rfl hl.1 rfl (Nat.le_of_ble_eq_true rfl) dX13_drawn_44 ⟨(Nat.le_of_ble_eq_true rfl), (Nat.le_of_ble_eq_true rfl)⟩ (fun v24 H locs hpo hM hS => ?_)
        obtain ⟨hpo25, hpo26, hpo27, hpo28, hpo29, hpo30⟩ := hpo
        have hq_v24 := tk_rng v24
        refine lv_if_ne (tgt := 52) hx hb dX13_drawn_47 (by decide) (fun c9 => ?_) (fun c9 => ?_)
        · have hc32 : ¬ (v24.toInt = 0) := fun h9 => c9 ((fi_eq rfl (show (0 : Int32).toInt = 0 by decide)).mpr h9)
          have hwk_33 : 0 ≤ w20.toInt ∧ 0 ≤ (-1) * w20.toInt + w23.toInt := by omega
          refine lv_iload_n hx hb dX13_drawn_52 rfl (lv_at hl 2 rfl) ?_
          refine lv_if_ne (tgt := 65) hx hb dX13_drawn_53 (by decide) (fun c9 => ?_) (fun c9 => ?_)
          · have hc34 : ¬ (p2.toInt = 0) := fun h9 => c9 ((fi_eq rfl (show (0 : Int32).toInt = 0 by decide)).mpr h9)
            refine lv_iload_n hx hb dX13_drawn_65 rfl (lv_at hl 2 rfl) ?_
            refine lv_iconst (v := 1) hx hb dX13_drawn_66 (by decide) ?_
            refine lv_icmp_ne (tgt := 79) hx hb dX13_drawn_67 (by decide) (fun _ => ?_) (fun c9 => absurd (show p2.toInt = 1 from (fi_eq rfl (show (1 : Int32).toInt = 1 by decide)).mp c9) (by omega))
            refine lv_aload_n hx hb dX13_drawn_79 rfl (lv_at hl 0 rfl) ?_
            refine mz_getR hx hb htl hown hK hM 68 (Nat.le_of_ble_eq_true rfl) (Nat.le_of_ble_eq_true rfl) (htl _ mw_243) (fun _ h9 => h9) dX13_drawn_80 ?_
            refine lv_iload_n hx hb dX13_drawn_83 rfl (lv_at hl 1 rfl) ?_
            refine mz_iald hx hb hK hM 68 (Nat.le_of_ble_eq_true rfl) rfl (nn := 8) rfl rfl (by omega) (by omega) dX13_drawn_84 (fun v35 e_v35 => ?_)
            have hq_v35 := tk_rng v35
            exact mz_iret (v := v35) hx hb hr rfl hlocks ⟨hIF, hIG, hIR, hFF, (fun _ _ => rfl), (fun _ _ => rfl)⟩ hM hS dX13_drawn_85
          · have hc34 : p2.toInt = 0 := (fi_eq rfl (show (0 : Int32).toInt = 0 by decide)).mp c9
            refine lv_aload_n hx hb dX13_drawn_56 rfl (lv_at hl 0 rfl) ?_
            refine mz_getR hx hb htl hown hK hM 66 (Nat.le_of_ble_eq_true rfl) (Nat.le_of_ble_eq_true rfl) (htl _ mw_241) (fun _ h9 => h9) dX13_drawn_57 ?_
            refine lv_iload_n hx hb dX13_drawn_60 rfl (lv_at hl 1 rfl) ?_
            refine mz_iald hx hb hK hM 66 (Nat.le_of_ble_eq_true rfl) rfl (nn := 8) rfl rfl (by omega) (by omega) dX13_drawn_61 (fun v36 e_v36 => ?_)
            have hq_v36 := tk_rng v36
            refine lv_goto (tgt := 85) hx hb dX13_drawn_62 (by decide) ?_
            exact mz_iret (v := v36) hx hb hr rfl hlocks ⟨hIF, hIG, hIR, hFF, (fun _ _ => rfl), (fun _ _ => rfl)⟩ hM hS dX13_drawn_85
        · have hc32 : v24.toInt = 0 := (fi_eq rfl (show (0 : Int32).toInt = 0 by decide)).mp c9
          refine lv_iconst (v := (-1)) hx hb dX13_drawn_50 (by decide) ?_
          have hk_m1 : ((-1) : Int32).toInt = (-1) := by decide
          exact mz_iret (v := (-1)) hx hb hr rfl hlocks ⟨hIF, hIG, hIR, hFF, (fun _ _ => rfl), (fun _ _ => rfl)⟩ hM hS dX13_drawn_51
      · have hc21 : p2.toInt = 1 := (fi_eq rfl (show (1 : Int32).toInt = 1 by decide)).mp c9
        refine lv_lconst (v := 1) hx hb dX13_drawn_33 (by decide) ?_
        refine lv_goto (tgt := 44) hx hb dX13_drawn_34 (by decide) ?_
        have hk_0 : (0 : Int64).toInt = 0 := by decide
        have hk_1 : (1 : Int64).toInt = 1 := by decide
        refine mz_Sj (As := [.long w20, .long 0, .long 1]) (rest := []) ⟨hx, hb, hml, hown, hts⟩ hK hM hS (k_X13_in l D cy ld ad am hD _ _ _ _ w20 0 1) ⟨callB_of 3 hts (wl_in mw_292) rfl rfl rfl (htl _ mw_5) (htl _ mw_290) hd_yX13_in ⟨(Nat.le_of_ble_eq_true rfl), (Nat.le_of_ble_eq_true rfl)⟩, htl _ mw_291⟩ rfl hl.1 rfl (Nat.le_of_ble_eq_true rfl) dX13_drawn_44 ⟨(Nat.le_of_ble_eq_true rfl), (Nat.le_of_ble_eq_true rfl)⟩ (fun v37 H locs hpo hM hS => ?_)
        obtain ⟨hpo38, hpo39, hpo40, hpo41, hpo42, hpo43⟩ := hpo
        have hq_v37 := tk_rng v37
        refine lv_if_ne (tgt := 52) hx hb dX13_drawn_47 (by decide) (fun c9 => ?_) (fun c9 => ?_)
        · have hc45 : ¬ (v37.toInt = 0) := fun h9 => c9 ((fi_eq rfl (show (0 : Int32).toInt = 0 by decide)).mpr h9)
          have hwk_46 : 0 ≤ w20.toInt ∧ w20.toInt ≤ 1 := by omega
          refine lv_iload_n hx hb dX13_drawn_52 rfl (lv_at hl 2 rfl) ?_
          refine lv_if_ne (tgt := 65) hx hb dX13_drawn_53 (by decide) (fun _ => ?_) (fun c9 => absurd (show p2.toInt = 0 from (fi_eq rfl (show (0 : Int32).toInt = 0 by decide)).mp c9) (by omega))
          refine lv_iload_n hx hb dX13_drawn_65 rfl (lv_at hl 2 rfl) ?_
          refine lv_iconst (v := 1) hx hb dX13_drawn_66 (by decide) ?_
          refine lv_icmp_ne (tgt := 79) hx hb dX13_drawn_67 (by decide) (fun c9 => absurd ((fi_eq rfl (show (1 : Int32).toInt = 1 by decide)).mpr (show p2.toInt = 1 by omega)) c9) (fun _ => ?_)
          refine lv_aload_n hx hb dX13_drawn_70 rfl (lv_at hl 0 rfl) ?_
          refine mz_getR hx hb htl hown hK hM 67 (Nat.le_of_ble_eq_true rfl) (Nat.le_of_ble_eq_true rfl) (htl _ mw_242) (fun _ h9 => h9) dX13_drawn_71 ?_
          refine lv_iload_n hx hb dX13_drawn_74 rfl (lv_at hl 1 rfl) ?_
          refine mz_iald hx hb hK hM 67 (Nat.le_of_ble_eq_true rfl) rfl (nn := 2) rfl rfl (by omega) (by omega) dX13_drawn_75 (fun v47 e_v47 => ?_)
          have hq_v47 := tk_rng v47
          refine lv_goto (tgt := 85) hx hb dX13_drawn_76 (by decide) ?_
          exact mz_iret (v := v47) hx hb hr rfl hlocks ⟨hIF, hIG, hIR, hFF, (fun _ _ => rfl), (fun _ _ => rfl)⟩ hM hS dX13_drawn_85
        · have hc45 : v37.toInt = 0 := (fi_eq rfl (show (0 : Int32).toInt = 0 by decide)).mp c9
          refine lv_iconst (v := (-1)) hx hb dX13_drawn_50 (by decide) ?_
          have hk_m1 : ((-1) : Int32).toInt = (-1) := by decide
          exact mz_iret (v := (-1)) hx hb hr rfl hlocks ⟨hIF, hIG, hIR, hFF, (fun _ _ => rfl), (fun _ _ => rfl)⟩ hM hS dX13_drawn_51
