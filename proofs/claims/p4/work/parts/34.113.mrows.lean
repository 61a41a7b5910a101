section
theorem dX13_manyOf_0 : decode cX13_manyOf 0 = .ok (.iconst 0, 1) := by decide +kernel
theorem dX13_manyOf_1 : decode cX13_manyOf 1 = .ok (.istore_n 2, 1) := by decide +kernel
theorem dX13_manyOf_2 : decode cX13_manyOf 2 = .ok (.iconst 0, 1) := by decide +kernel
theorem dX13_manyOf_3 : decode cX13_manyOf 3 = .ok (.istore_n 3, 1) := by decide +kernel
theorem dX13_manyOf_4 : decode cX13_manyOf 4 = .ok (.iload_n 3, 1) := by decide +kernel
theorem dX13_manyOf_5 : decode cX13_manyOf 5 = .ok (.aload_n 0, 1) := by decide +kernel
theorem dX13_manyOf_6 : decode cX13_manyOf 6 = .ok (.getfield 13, 3) := by decide +kernel
theorem dX13_manyOf_9 : decode cX13_manyOf 9 = .ok (.iconst 0, 1) := by decide +kernel
theorem dX13_manyOf_10 : decode cX13_manyOf 10 = .ok (.iaload, 1) := by decide +kernel
theorem dX13_manyOf_11 : decode cX13_manyOf 11 = .ok (.if_icmp .ge 27, 3) := by decide +kernel
theorem dX13_manyOf_38 : decode cX13_manyOf 38 = .ok (.iload_n 2, 1) := by decide +kernel
theorem dX13_manyOf_39 : decode cX13_manyOf 39 = .ok (.ireturn, 1) := by decide +kernel
theorem dX13_manyOf_14 : decode cX13_manyOf 14 = .ok (.iload_n 2, 1) := by decide +kernel
theorem dX13_manyOf_15 : decode cX13_manyOf 15 = .ok (.aload_n 0, 1) := by decide +kernel
theorem dX13_manyOf_16 : decode cX13_manyOf 16 = .ok (.iload_n 3, 1) := by decide +kernel
theorem dX13_manyOf_17 : decode cX13_manyOf 17 = .ok (.iconst 2, 1) := by decide +kernel
theorem dX13_manyOf_18 : decode cX13_manyOf 18 = .ok (.invokevirtual 207, 3) := by decide +kernel
theorem dX13_manyOf_21 : decode cX13_manyOf 21 = .ok (.iload_n 1, 1) := by decide +kernel
theorem dX13_manyOf_30 : decode cX13_manyOf 30 = .ok (.iadd, 1) := by decide +kernel
theorem dX13_manyOf_31 : decode cX13_manyOf 31 = .ok (.istore_n 2, 1) := by decide +kernel
theorem dX13_manyOf_32 : decode cX13_manyOf 32 = .ok (.iinc 3 1, 3) := by decide +kernel
theorem dX13_manyOf_35 : decode cX13_manyOf 35 = .ok (.goto (-31), 3) := by decide +kernel
theorem dX13_manyOf_22 : decode cX13_manyOf 22 = .ok (.if_icmp .ne 7, 3) := by decide +kernel
theorem dX13_manyOf_29 : decode cX13_manyOf 29 = .ok (.iconst 0, 1) := by decide +kernel
theorem dX13_manyOf_25 : decode cX13_manyOf 25 = .ok (.iconst 1, 1) := by decide +kernel
theorem dX13_manyOf_26 : decode cX13_manyOf 26 = .ok (.goto 4, 3) := by decide +kernel
end
section
theorem dX13_drawn_0 : decode cX13_drawn 0 = .ok (.aload_n 0, 1) := by decide +kernel
theorem dX13_drawn_1 : decode cX13_drawn 1 = .ok (.iconst 0, 1) := by decide +kernel
theorem dX13_drawn_2 : decode cX13_drawn 2 = .ok (.putfield 170, 3) := by decide +kernel
theorem dX13_drawn_5 : decode cX13_drawn 5 = .ok (.aload_n 0, 1) := by decide +kernel
theorem dX13_drawn_6 : decode cX13_drawn 6 = .ok (.getfield 164, 3) := by decide +kernel
theorem dX13_drawn_9 : decode cX13_drawn 9 = .ok (.iconst (-1), 1) := by decide +kernel
theorem dX13_drawn_10 : decode cX13_drawn 10 = .ok (.if_icmp .eq 40, 3) := by decide +kernel
theorem dX13_drawn_50 : decode cX13_drawn 50 = .ok (.iconst (-1), 1) := by decide +kernel
theorem dX13_drawn_51 : decode cX13_drawn 51 = .ok (.ireturn, 1) := by decide +kernel
theorem dX13_drawn_13 : decode cX13_drawn 13 = .ok (.iload_n 2, 1) := by decide +kernel
theorem dX13_drawn_14 : decode cX13_drawn 14 = .ok (.i2l, 1) := by decide +kernel
theorem dX13_drawn_15 : decode cX13_drawn 15 = .ok (.lconst 0, 1) := by decide +kernel
theorem dX13_drawn_16 : decode cX13_drawn 16 = .ok (.ldc2_w 415, 3) := by decide +kernel
theorem dX13_drawn_19 : decode cX13_drawn 19 = .ok (.invokestatic 190, 3) := by decide +kernel
theorem dX13_drawn_22 : decode cX13_drawn 22 = .ok (.ifCond .eq 28, 3) := by decide +kernel
theorem dX13_drawn_25 : decode cX13_drawn 25 = .ok (.iload_n 1, 1) := by decide +kernel
theorem dX13_drawn_26 : decode cX13_drawn 26 = .ok (.i2l, 1) := by decide +kernel
theorem dX13_drawn_27 : decode cX13_drawn 27 = .ok (.lconst 0, 1) := by decide +kernel
theorem dX13_drawn_28 : decode cX13_drawn 28 = .ok (.iload_n 2, 1) := by decide +kernel
theorem dX13_drawn_29 : decode cX13_drawn 29 = .ok (.iconst 1, 1) := by decide +kernel
theorem dX13_drawn_30 : decode cX13_drawn 30 = .ok (.if_icmp .ne 7, 3) := by decide +kernel
theorem dX13_drawn_37 : decode cX13_drawn 37 = .ok (.aload_n 0, 1) := by decide +kernel
theorem dX13_drawn_38 : decode cX13_drawn 38 = .ok (.getfield 164, 3) := by decide +kernel
theorem dX13_drawn_41 : decode cX13_drawn 41 = .ok (.i2l, 1) := by decide +kernel
theorem dX13_drawn_42 : decode cX13_drawn 42 = .ok (.lconst 1, 1) := by decide +kernel
theorem dX13_drawn_43 : decode cX13_drawn 43 = .ok (.lsub, 1) := by decide +kernel
theorem dX13_drawn_44 : decode cX13_drawn 44 = .ok (.invokestatic 190, 3) := by decide +kernel
theorem dX13_drawn_47 : decode cX13_drawn 47 = .ok (.ifCond .ne 5, 3) := by decide +kernel
theorem dX13_drawn_52 : decode cX13_drawn 52 = .ok (.iload_n 2, 1) := by decide +kernel
theorem dX13_drawn_53 : decode cX13_drawn 53 = .ok (.ifCond .ne 12, 3) := by decide +kernel
theorem dX13_drawn_65 : decode cX13_drawn 65 = .ok (.iload_n 2, 1) := by decide +kernel
theorem dX13_drawn_66 : decode cX13_drawn 66 = .ok (.iconst 1, 1) := by decide +kernel
theorem dX13_drawn_67 : decode cX13_drawn 67 = .ok (.if_icmp .ne 12, 3) := by decide +kernel
theorem dX13_drawn_79 : decode cX13_drawn 79 = .ok (.aload_n 0, 1) := by decide +kernel
theorem dX13_drawn_80 : decode cX13_drawn 80 = .ok (.getfield 161, 3) := by decide +kernel
theorem dX13_drawn_83 : decode cX13_drawn 83 = .ok (.iload_n 1, 1) := by decide +kernel
theorem dX13_drawn_84 : decode cX13_drawn 84 = .ok (.iaload, 1) := by decide +kernel
theorem dX13_drawn_85 : decode cX13_drawn 85 = .ok (.ireturn, 1) := by decide +kernel
theorem dX13_drawn_56 : decode cX13_drawn 56 = .ok (.aload_n 0, 1) := by decide +kernel
theorem dX13_drawn_57 : decode cX13_drawn 57 = .ok (.getfield 155, 3) := by decide +kernel
theorem dX13_drawn_60 : decode cX13_drawn 60 = .ok (.iload_n 1, 1) := by decide +kernel
theorem dX13_drawn_61 : decode cX13_drawn 61 = .ok (.iaload, 1) := by decide +kernel
theorem dX13_drawn_62 : decode cX13_drawn 62 = .ok (.goto 23, 3) := by decide +kernel
theorem dX13_drawn_33 : decode cX13_drawn 33 = .ok (.lconst 1, 1) := by decide +kernel
theorem dX13_drawn_34 : decode cX13_drawn 34 = .ok (.goto 10, 3) := by decide +kernel
theorem dX13_drawn_70 : decode cX13_drawn 70 = .ok (.aload_n 0, 1) := by decide +kernel
theorem dX13_drawn_71 : decode cX13_drawn 71 = .ok (.getfield 158, 3) := by decide +kernel
theorem dX13_drawn_74 : decode cX13_drawn 74 = .ok (.iload_n 1, 1) := by decide +kernel
theorem dX13_drawn_75 : decode cX13_drawn 75 = .ok (.iaload, 1) := by decide +kernel
theorem dX13_drawn_76 : decode cX13_drawn 76 = .ok (.goto 9, 3) := by decide +kernel
set_option maxHeartbeats 4000000 in
set_option maxRecDepth 100000 in
theorem k_X13_drawn (l : Launch) (D : va_G) (cy : Nat → ClassId) (ld ad : Nat → Nat) (am : Nat) (hD : mz_D ad am) (Fa : Nat → Int32) (Ga : Nat → Int64) (Ra : Nat → Nat → Int32) (Sa : Nat → Nat → Int64) (p1 : Int32) (p2 : Int32) (hIF : mz_IF true Fa) (hIG : mz_IG Ga) (hIR : mz_IR [] true Ra) : Met l yX13_drawn (wl yX13_drawn cX13_drawn 3 (some .int)) ({ frames := 4, cells := 0, slots := 0, locals := 210 }) (mz_p D cy ld ad am Fa Ga Ra Sa [.ref am, .int p1, .int p2]) (mz_i D cy ad am (fun r F G R S => mz_IF true F ∧ mz_IG G ∧ mz_IR [] true R ∧ (∀ k : Nat, k ∉ ([0] : List Nat) → F k = Fa k) ∧ (∀ k : Nat, k ∉ ([] : List Nat) → R k = Ra k) ∧ (∀ k : Nat, k ∉ ([] : List Nat) → G k = Ga k))) 0 0 (mz_W ad am) := by
  refine mz_met (y := yX13_drawn) (cc := cX13_drawn) (maxL := 3) (ret := (some .int)) (av := [.ref am, .int p1, .int p2]) _ (by decide) (Nat.le_of_ble_eq_true rfl) ?_
  intro p e s m args below meth c hx hb hr hml hts htl hown hlocks hK H locs hM hS ls hl
  have hown : s.vm.findClass RX13 = some m.cls := hown
  have hl : lv_has ls 3 [(0, .ref am), (1, .int p1), (2, .int p2)] := hl
  have hr_p1 := tk_rng p1
  have hr_p2 := tk_rng p2
  refine lv_aload_n hx hb dX13_drawn_0 rfl (lv_at hl 0 rfl) ?_
  refine lv_iconst (v := 0) hx hb dX13_drawn_1 (by decide) ?_
  have hk_0 : (0 : Int32).toInt = 0 := by decide
  refine mz_putI (ty := .int) (x := 0) hx hb htl hown hK hD hM hS 0 (Nat.le_of_ble_eq_true rfl) rfl (htl _ mw_286) (fun _ h9 => h9) rfl (tyX13_ok 0 (by decide)) rfl rfl dX13_drawn_2 (fun H locs F hM hS hf9 hj9 => ?_)
  have hIF := hIF.put hf9 hj9 (tk_rng _).1 (tk_rng _).2 (by decide)
  have hFF := mz_frp (K := [0]) (Fa := Fa) hj9 (fun _ _ => rfl) (by decide)
  have hf2 := hf9
  refine lv_aload_n hx hb dX13_drawn_5 rfl (lv_at hl 0 rfl) ?_
  refine mz_getI hx hb htl hown hK hM 69 (Nat.le_of_ble_eq_true rfl) rfl (htl _ mw_244) (fun _ h9 => h9) dX13_drawn_6 (fun v4 hf3 => ?_)
  have hq_v4 := tk_rng v4
  have hr_v4 : (-1) ≤ v4.toInt ∧ v4.toInt ≤ 8 := hIF.at hf3
  refine lv_iconst (v := (-1)) hx hb dX13_drawn_9 (by decide) ?_
  refine lv_icmp_eq (tgt := 50) hx hb dX13_drawn_10 (by decide) (fun c9 => ?_) (fun c9 => ?_)
  · have hc5 : v4.toInt = (-1) := (fi_eq rfl (show ((-1) : Int32).toInt = (-1) by decide)).mp c9
    refine lv_iconst (v := (-1)) hx hb dX13_drawn_50 (by decide) ?_
    have hk_m1 : ((-1) : Int32).toInt = (-1) := by decide
    exact mz_iret (v := (-1)) hx hb hr rfl hlocks ⟨hIF, hIG, hIR, hFF, (fun _ _ => rfl), (fun _ _ => rfl)⟩ hM hS dX13_drawn_51
  · have hc5 : ¬ (v4.toInt = (-1)) := fun h9 => c9 ((fi_eq rfl (show ((-1) : Int32).toInt = (-1) by decide)).mpr h9)
    refine lv_iload_n hx hb dX13_drawn_13 rfl (lv_at hl 2 rfl) ?_
    obtain ⟨w6, e_w6, h_w6⟩ : ∃ z : Int64, p2.toInt64 = z ∧ z.toInt = p2.toInt := ⟨_, rfl, fl_w _⟩
    refine lv_i2l (v := w6) hx hb dX13_drawn_14 e_w6 ?_
    refine lv_lconst (v := 0) hx hb dX13_drawn_15 (by decide) ?_
    refine lv_ldc2 hx hb hown (htl _ mw_1122) dX13_drawn_16 ?_
    have hk_0 : (0 : Int64).toInt = 0 := by decide
    have hk_2 : (2 : Int64).toInt = 2 := by decide
    refine mz_Sj (As := [.long w6, .long 0, .long 2]) (rest := []) ⟨hx, hb, hml, hown, hts⟩ hK hM hS (k_X13_in l D cy ld ad am hD _ _ _ _ w6 0 2) ⟨callB_of 3 hts (wl_in mw_292) rfl rfl rfl (htl _ mw_5) (htl _ mw_290) hd_yX13_in ⟨(Nat.le_of_ble_eq_true rfl), (Nat.le_of_ble_eq_true rfl)⟩, htl _ mw_291⟩ rfl hl.1 rfl (Nat.le_of_ble_eq_true rfl) dX13_drawn_19 ⟨(Nat.le_of_ble_eq_true rfl), (Nat.le_of_ble_eq_true rfl)⟩ (fun v10 H locs hpo hM hS => ?_)
    obtain ⟨hpo11, hpo12, hpo13, hpo14, hpo15, hpo16⟩ := hpo
    have hq_v10 := tk_rng v10
    refine lv_if_eq (tgt := 50) hx hb dX13_drawn_22 (by decide) (fun c9 => ?_) (fun c9 => ?_)
    · have hc18 : v10.toInt = 0 := (fi_eq rfl (show (0 : Int32).toInt = 0 by decide)).mp c9
      refine lv_iconst (v := (-1)) hx hb dX13_drawn_50 (by decide) ?_
      have hk_m1 : ((-1) : Int32).toInt = (-1) := by decide
      exact mz_iret (v := (-1)) hx hb hr rfl hlocks ⟨hIF, hIG, hIR, hFF, (fun _ _ => rfl), (fun _ _ => rfl)⟩ hM hS dX13_drawn_51
    · have hc18 : ¬ (v10.toInt = 0) := fun h9 => c9 ((fi_eq rfl (show (0 : Int32).toInt = 0 by decide)).mpr h9)
      have hwk_19 : 0 ≤ w6.toInt ∧ w6.toInt ≤ 2 := by omega
      refine lv_iload_n hx hb dX13_drawn_25 rfl (lv_at hl 1 rfl) ?_
      obtain ⟨w20, e_w20, h_w20⟩ : ∃ z : Int64, p1.toInt64 = z ∧ z.toInt = p1.toInt := ⟨_, rfl, fl_w _⟩
      refine lv_i2l (v := w20) hx hb dX13_drawn_26 e_w20 ?_
      refine lv_lconst (v := 0) hx hb dX13_drawn_27 (by decide) ?_
      refine lv_iload_n hx hb dX13_drawn_28 rfl (lv_at hl 2 rfl) ?_
      refine lv_iconst (v := 1) hx hb dX13_drawn_29 (by decide) ?_
      refine lv_icmp_ne (tgt := 37) hx hb dX13_drawn_30 (by decide) (fun c9 => ?_) (fun c9 => ?_)
      · have hc21 : ¬ (p2.toInt = 1) := fun h9 => c9 ((fi_eq rfl (show (1 : Int32).toInt = 1 by decide)).mpr h9)
        refine lv_aload_n hx hb dX13_drawn_37 rfl (lv_at hl 0 rfl) ?_
        refine mz_getI hx hb htl hown hK hM 69 (Nat.le_of_ble_eq_true rfl) rfl (htl _ mw_244) (fun _ h9 => h9) dX13_drawn_38 (fun v9 e9 => ?_)
        refine fx_ti (v := v4) (e9.symm.trans hf3) ?_
        obtain ⟨w22, e_w22, h_w22⟩ : ∃ z : Int64, v4.toInt64 = z ∧ z.toInt = v4.toInt := ⟨_, rfl, fl_w _⟩
        refine lv_i2l (v := w22) hx hb dX13_drawn_41 e_w22 ?_
        refine lv_lconst (v := 1) hx hb dX13_drawn_42 (by decide) ?_
        refine lv_lsub hx hb dX13_drawn_43 ?_
        refine tk_lsub rfl (show (1 : Int64).toInt = 1 by decide) (by omega) (by omega) (fun w23 h_w23 => ?_)
        have hk_0 : (0 : Int64).toInt = 0 := by decide
        refine mz_Sj (As := [.long w20, .long 0, .long w23]) (rest := []) ⟨hx, hb, hml, hown, hts⟩ hK hM hS (k_X13_in l D cy ld ad am hD _ _ _ _ w20 0 w23) ⟨callB_of 3 hts (wl_in mw_292) rfl rfl rfl (htl _ mw_5) (htl _ mw_290) hd_yX13_in ⟨(Nat.le_of_ble_eq_true rfl), (Nat.le_of_ble_eq_true rfl)⟩, htl _ mw_291⟩ rfl hl.1 rfl (Nat.le_of_ble_eq_true rfl) dX13_drawn_44 ⟨(Nat.le_of_ble_eq_true rfl), (Nat.le_of_ble_eq_true rfl)⟩ (fun v24 H locs hpo hM hS => ?_)
        obtain ⟨hpo25, hpo26, hpo27, hpo28, hpo29, hpo30⟩ := hpo
        have hq_v24 := tk_rng v24
        refine lv_if_ne (tgt := 52) hx hb dX13_drawn_47 (by decide) (fun c9 => ?_) (fun c9 => ?_)
        · have hc32 : ¬ (v24.toInt = 0) := fun h9 => c9 ((fi_eq rfl (show (0 : Int32).toInt = 0 by decide)).mpr h9)
          have hwk_33 : 0 ≤ w20.toInt ∧ 0 ≤ (-1) * w20.toInt + w23.toInt := by omega
          refine lv_iload_n hx hb dX13_drawn_52 rfl (lv_at hl 2 rfl) ?_
          refine lv_if_ne (tgt := 65) hx hb dX13_drawn_53 (by decide) (fun c9 => ?_) (fun c9 => ?_)
          · have hc34 : ¬ (p2.toInt = 0) := fun h9 => c9 ((fi_eq rfl (show (0 : Int32).toInt = 0 by decide)).mpr h9)
            refine lv_iload_n hx hb dX13_drawn_65 rfl (lv_at hl 2 rfl) ?_
            refine lv_iconst (v := 1) hx hb dX13_drawn_66 (by decide) ?_
            refine lv_icmp_ne (tgt := 79) hx hb dX13_drawn_67 (by decide) (fun _ => ?_) (fun c9 => absurd (show p2.toInt = 1 from (fi_eq rfl (show (1 : Int32).toInt = 1 by decide)).mp c9) (by omega))
            refine lv_aload_n hx hb dX13_drawn_79 rfl (lv_at hl 0 rfl) ?_
            refine mz_getR hx hb htl hown hK hM 68 (Nat.le_of_ble_eq_true rfl) (Nat.le_of_ble_eq_true rfl) (htl _ mw_243) (fun _ h9 => h9) dX13_drawn_80 ?_
            refine lv_iload_n hx hb dX13_drawn_83 rfl (lv_at hl 1 rfl) ?_
            refine mz_iald hx hb hK hM 68 (Nat.le_of_ble_eq_true rfl) rfl (nn := 8) rfl rfl (by omega) (by omega) dX13_drawn_84 (fun v35 e_v35 => ?_)
            have hq_v35 := tk_rng v35
            exact mz_iret (v := v35) hx hb hr rfl hlocks ⟨hIF, hIG, hIR, hFF, (fun _ _ => rfl), (fun _ _ => rfl)⟩ hM hS dX13_drawn_85
          · have hc34 : p2.toInt = 0 := (fi_eq rfl (show (0 : Int32).toInt = 0 by decide)).mp c9
            refine lv_aload_n hx hb dX13_drawn_56 rfl (lv_at hl 0 rfl) ?_
            refine mz_getR hx hb htl hown hK hM 66 (Nat.le_of_ble_eq_true rfl) (Nat.le_of_ble_eq_true rfl) (htl _ mw_241) (fun _ h9 => h9) dX13_drawn_57 ?_
            refine lv_iload_n hx hb dX13_drawn_60 rfl (lv_at hl 1 rfl) ?_
            refine mz_iald hx hb hK hM 66 (Nat.le_of_ble_eq_true rfl) rfl (nn := 8) rfl rfl (by omega) (by omega) dX13_drawn_61 (fun v36 e_v36 => ?_)
            have hq_v36 := tk_rng v36
            refine lv_goto (tgt := 85) hx hb dX13_drawn_62 (by decide) ?_
            exact mz_iret (v := v36) hx hb hr rfl hlocks ⟨hIF, hIG, hIR, hFF, (fun _ _ => rfl), (fun _ _ => rfl)⟩ hM hS dX13_drawn_85
        · have hc32 : v24.toInt = 0 := (fi_eq rfl (show (0 : Int32).toInt = 0 by decide)).mp c9
          refine lv_iconst (v := (-1)) hx hb dX13_drawn_50 (by decide) ?_
          have hk_m1 : ((-1) : Int32).toInt = (-1) := by decide
          exact mz_iret (v := (-1)) hx hb hr rfl hlocks ⟨hIF, hIG, hIR, hFF, (fun _ _ => rfl), (fun _ _ => rfl)⟩ hM hS dX13_drawn_51
      · have hc21 : p2.toInt = 1 := (fi_eq rfl (show (1 : Int32).toInt = 1 by decide)).mp c9
        refine lv_lconst (v := 1) hx hb dX13_drawn_33 (by decide) ?_
        refine lv_goto (tgt := 44) hx hb dX13_drawn_34 (by decide) ?_
        have hk_0 : (0 : Int64).toInt = 0 := by decide
        have hk_1 : (1 : Int64).toInt = 1 := by decide
        refine mz_Sj (As := [.long w20, .long 0, .long 1]) (rest := []) ⟨hx, hb, hml, hown, hts⟩ hK hM hS (k_X13_in l D cy ld ad am hD _ _ _ _ w20 0 1) ⟨callB_of 3 hts (wl_in mw_292) rfl rfl rfl (htl _ mw_5) (htl _ mw_290) hd_yX13_in ⟨(Nat.le_of_ble_eq_true rfl), (Nat.le_of_ble_eq_true rfl)⟩, htl _ mw_291⟩ rfl hl.1 rfl (Nat.le_of_ble_eq_true rfl) dX13_drawn_44 ⟨(Nat.le_of_ble_eq_true rfl), (Nat.le_of_ble_eq_true rfl)⟩ (fun v37 H locs hpo hM hS => ?_)
        obtain ⟨hpo38, hpo39, hpo40, hpo41, hpo42, hpo43⟩ := hpo
        have hq_v37 := tk_rng v37
        refine lv_if_ne (tgt := 52) hx hb dX13_drawn_47 (by decide) (fun c9 => ?_) (fun c9 => ?_)
        · have hc45 : ¬ (v37.toInt = 0) := fun h9 => c9 ((fi_eq rfl (show (0 : Int32).toInt = 0 by decide)).mpr h9)
          have hwk_46 : 0 ≤ w20.toInt ∧ w20.toInt ≤ 1 := by omega
          refine lv_iload_n hx hb dX13_drawn_52 rfl (lv_at hl 2 rfl) ?_
          refine lv_if_ne (tgt := 65) hx hb dX13_drawn_53 (by decide) (fun _ => ?_) (fun c9 => absurd (show p2.toInt = 0 from (fi_eq rfl (show (0 : Int32).toInt = 0 by decide)).mp c9) (by omega))
          refine lv_iload_n hx hb dX13_drawn_65 rfl (lv_at hl 2 rfl) ?_
          refine lv_iconst (v := 1) hx hb dX13_drawn_66 (by decide) ?_
          refine lv_icmp_ne (tgt := 79) hx hb dX13_drawn_67 (by decide) (fun c9 => absurd ((fi_eq rfl (show (1 : Int32).toInt = 1 by decide)).mpr (show p2.toInt = 1 by omega)) c9) (fun _ => ?_)
          refine lv_aload_n hx hb dX13_drawn_70 rfl (lv_at hl 0 rfl) ?_
          refine mz_getR hx hb htl hown hK hM 67 (Nat.le_of_ble_eq_true rfl) (Nat.le_of_ble_eq_true rfl) (htl _ mw_242) (fun _ h9 => h9) dX13_drawn_71 ?_
          refine lv_iload_n hx hb dX13_drawn_74 rfl (lv_at hl 1 rfl) ?_
          refine mz_iald hx hb hK hM 67 (Nat.le_of_ble_eq_true rfl) rfl (nn := 2) rfl rfl (by omega) (by omega) dX13_drawn_75 (fun v47 e_v47 => ?_)
          have hq_v47 := tk_rng v47
          refine lv_goto (tgt := 85) hx hb dX13_drawn_76 (by decide) ?_
          exact mz_iret (v := v47) hx hb hr rfl hlocks ⟨hIF, hIG, hIR, hFF, (fun _ _ => rfl), (fun _ _ => rfl)⟩ hM hS dX13_drawn_85
        · have hc45 : v37.toInt = 0 := (fi_eq rfl (show (0 : Int32).toInt = 0 by decide)).mp c9
          refine lv_iconst (v := (-1)) hx hb dX13_drawn_50 (by decide) ?_
          have hk_m1 : ((-1) : Int32).toInt = (-1) := by decide
          exact mz_iret (v := (-1)) hx hb hr rfl hlocks ⟨hIF, hIG, hIR, hFF, (fun _ _ => rfl), (fun _ _ => rfl)⟩ hM hS dX13_drawn_51
end
section
theorem dX13_count_0 : decode cX13_count 0 = .ok (.aload_n 0, 1) := by decide +kernel
theorem dX13_count_1 : decode cX13_count 1 = .ok (.iconst 0, 1) := by decide +kernel
theorem dX13_count_2 : decode cX13_count 2 = .ok (.putfield 170, 3) := by decide +kernel
theorem dX13_count_5 : decode cX13_count 5 = .ok (.iload_n 1, 1) := by decide +kernel
theorem dX13_count_6 : decode cX13_count 6 = .ok (.tableswitch 178 0 14 #[74, 81, 88, 95, 102, 109, 114, 119, 126, 133, 140, 147, 155, 162, 170], 74) := by decide +kernel
theorem dX13_count_80 : decode cX13_count 80 = .ok (.aload_n 0, 1) := by decide +kernel
theorem dX13_count_81 : decode cX13_count 81 = .ok (.getfield 13, 3) := by decide +kernel
theorem dX13_count_84 : decode cX13_count 84 = .ok (.iconst 0, 1) := by decide +kernel
theorem dX13_count_85 : decode cX13_count 85 = .ok (.iaload, 1) := by decide +kernel
theorem dX13_count_86 : decode cX13_count 86 = .ok (.ireturn, 1) := by decide +kernel
theorem dX13_count_87 : decode cX13_count 87 = .ok (.aload_n 0, 1) := by decide +kernel
theorem dX13_count_88 : decode cX13_count 88 = .ok (.getfield 13, 3) := by decide +kernel
theorem dX13_count_91 : decode cX13_count 91 = .ok (.iconst 1, 1) := by decide +kernel
theorem dX13_count_92 : decode cX13_count 92 = .ok (.iaload, 1) := by decide +kernel
theorem dX13_count_93 : decode cX13_count 93 = .ok (.ireturn, 1) := by decide +kernel
theorem dX13_count_94 : decode cX13_count 94 = .ok (.aload_n 0, 1) := by decide +kernel
theorem dX13_count_95 : decode cX13_count 95 = .ok (.getfield 13, 3) := by decide +kernel
theorem dX13_count_98 : decode cX13_count 98 = .ok (.iconst 2, 1) := by decide +kernel
theorem dX13_count_99 : decode cX13_count 99 = .ok (.iaload, 1) := by decide +kernel
theorem dX13_count_100 : decode cX13_count 100 = .ok (.ireturn, 1) := by decide +kernel
theorem dX13_count_101 : decode cX13_count 101 = .ok (.aload_n 0, 1) := by decide +kernel
theorem dX13_count_102 : decode cX13_count 102 = .ok (.getfield 13, 3) := by decide +kernel
theorem dX13_count_105 : decode cX13_count 105 = .ok (.iconst 3, 1) := by decide +kernel
theorem dX13_count_106 : decode cX13_count 106 = .ok (.iaload, 1) := by decide +kernel
theorem dX13_count_107 : decode cX13_count 107 = .ok (.ireturn, 1) := by decide +kernel
theorem dX13_count_108 : decode cX13_count 108 = .ok (.aload_n 0, 1) := by decide +kernel
theorem dX13_count_109 : decode cX13_count 109 = .ok (.getfield 13, 3) := by decide +kernel
theorem dX13_count_112 : decode cX13_count 112 = .ok (.iconst 4, 1) := by decide +kernel
theorem dX13_count_113 : decode cX13_count 113 = .ok (.iaload, 1) := by decide +kernel
theorem dX13_count_114 : decode cX13_count 114 = .ok (.ireturn, 1) := by decide +kernel
theorem dX13_count_115 : decode cX13_count 115 = .ok (.aload_n 0, 1) := by decide +kernel
theorem dX13_count_116 : decode cX13_count 116 = .ok (.getfield 176, 3) := by decide +kernel
theorem dX13_count_119 : decode cX13_count 119 = .ok (.ireturn, 1) := by decide +kernel
theorem dX13_count_120 : decode cX13_count 120 = .ok (.aload_n 0, 1) := by decide +kernel
theorem dX13_count_121 : decode cX13_count 121 = .ok (.getfield 224, 3) := by decide +kernel
theorem dX13_count_124 : decode cX13_count 124 = .ok (.ireturn, 1) := by decide +kernel
theorem dX13_count_125 : decode cX13_count 125 = .ok (.aload_n 0, 1) := by decide +kernel
theorem dX13_count_126 : decode cX13_count 126 = .ok (.getfield 7, 3) := by decide +kernel
theorem dX13_count_129 : decode cX13_count 129 = .ok (.iconst 1, 1) := by decide +kernel
theorem dX13_count_130 : decode cX13_count 130 = .ok (.iaload, 1) := by decide +kernel
theorem dX13_count_131 : decode cX13_count 131 = .ok (.ireturn, 1) := by decide +kernel
theorem dX13_count_132 : decode cX13_count 132 = .ok (.aload_n 0, 1) := by decide +kernel
theorem dX13_count_133 : decode cX13_count 133 = .ok (.getfield 7, 3) := by decide +kernel
theorem dX13_count_136 : decode cX13_count 136 = .ok (.iconst 2, 1) := by decide +kernel
theorem dX13_count_137 : decode cX13_count 137 = .ok (.iaload, 1) := by decide +kernel
theorem dX13_count_138 : decode cX13_count 138 = .ok (.ireturn, 1) := by decide +kernel
theorem dX13_count_139 : decode cX13_count 139 = .ok (.aload_n 0, 1) := by decide +kernel
theorem dX13_count_140 : decode cX13_count 140 = .ok (.getfield 7, 3) := by decide +kernel
theorem dX13_count_143 : decode cX13_count 143 = .ok (.iconst 3, 1) := by decide +kernel
theorem dX13_count_144 : decode cX13_count 144 = .ok (.iaload, 1) := by decide +kernel
theorem dX13_count_145 : decode cX13_count 145 = .ok (.ireturn, 1) := by decide +kernel
theorem dX13_count_146 : decode cX13_count 146 = .ok (.aload_n 0, 1) := by decide +kernel
theorem dX13_count_147 : decode cX13_count 147 = .ok (.getfield 7, 3) := by decide +kernel
theorem dX13_count_150 : decode cX13_count 150 = .ok (.iconst 5, 1) := by decide +kernel
theorem dX13_count_151 : decode cX13_count 151 = .ok (.iaload, 1) := by decide +kernel
theorem dX13_count_152 : decode cX13_count 152 = .ok (.ireturn, 1) := by decide +kernel
theorem dX13_count_153 : decode cX13_count 153 = .ok (.aload_n 0, 1) := by decide +kernel
theorem dX13_count_154 : decode cX13_count 154 = .ok (.getfield 7, 3) := by decide +kernel
theorem dX13_count_157 : decode cX13_count 157 = .ok (.bipush 6, 2) := by decide +kernel
theorem dX13_count_159 : decode cX13_count 159 = .ok (.iaload, 1) := by decide +kernel
theorem dX13_count_160 : decode cX13_count 160 = .ok (.ireturn, 1) := by decide +kernel
theorem dX13_count_161 : decode cX13_count 161 = .ok (.aload_n 0, 1) := by decide +kernel
theorem dX13_count_162 : decode cX13_count 162 = .ok (.getfield 13, 3) := by decide +kernel
theorem dX13_count_165 : decode cX13_count 165 = .ok (.iconst 5, 1) := by decide +kernel
theorem dX13_count_166 : decode cX13_count 166 = .ok (.iaload, 1) := by decide +kernel
theorem dX13_count_167 : decode cX13_count 167 = .ok (.ireturn, 1) := by decide +kernel
theorem dX13_count_168 : decode cX13_count 168 = .ok (.aload_n 0, 1) := by decide +kernel
theorem dX13_count_169 : decode cX13_count 169 = .ok (.getfield 13, 3) := by decide +kernel
theorem dX13_count_172 : decode cX13_count 172 = .ok (.bipush 10, 2) := by decide +kernel
theorem dX13_count_174 : decode cX13_count 174 = .ok (.iaload, 1) := by decide +kernel
theorem dX13_count_175 : decode cX13_count 175 = .ok (.ireturn, 1) := by decide +kernel
theorem dX13_count_176 : decode cX13_count 176 = .ok (.aload_n 0, 1) := by decide +kernel
theorem dX13_count_177 : decode cX13_count 177 = .ok (.getfield 13, 3) := by decide +kernel
theorem dX13_count_180 : decode cX13_count 180 = .ok (.bipush 11, 2) := by decide +kernel
theorem dX13_count_182 : decode cX13_count 182 = .ok (.iaload, 1) := by decide +kernel
theorem dX13_count_183 : decode cX13_count 183 = .ok (.ireturn, 1) := by decide +kernel
theorem dX13_count_184 : decode cX13_count 184 = .ok (.iload_n 1, 1) := by decide +kernel
theorem dX13_count_185 : decode cX13_count 185 = .ok (.i2l, 1) := by decide +kernel
theorem dX13_count_186 : decode cX13_count 186 = .ok (.ldc2_w 643, 3) := by decide +kernel
theorem dX13_count_189 : decode cX13_count 189 = .ok (.ldc2_w 645, 3) := by decide +kernel
theorem dX13_count_192 : decode cX13_count 192 = .ok (.invokestatic 190, 3) := by decide +kernel
theorem dX13_count_195 : decode cX13_count 195 = .ok (.ifCond .eq 18, 3) := by decide +kernel
theorem dX13_count_213 : decode cX13_count 213 = .ok (.iconst (-1), 1) := by decide +kernel
theorem dX13_count_214 : decode cX13_count 214 = .ok (.ireturn, 1) := by decide +kernel
theorem dX13_count_198 : decode cX13_count 198 = .ok (.aload_n 0, 1) := by decide +kernel
theorem dX13_count_199 : decode cX13_count 199 = .ok (.getfield 13, 3) := by decide +kernel
theorem dX13_count_202 : decode cX13_count 202 = .ok (.bipush 6, 2) := by decide +kernel
theorem dX13_count_204 : decode cX13_count 204 = .ok (.iload_n 1, 1) := by decide +kernel
theorem dX13_count_205 : decode cX13_count 205 = .ok (.iadd, 1) := by decide +kernel
theorem dX13_count_206 : decode cX13_count 206 = .ok (.bipush 15, 2) := by decide +kernel
theorem dX13_count_208 : decode cX13_count 208 = .ok (.isub, 1) := by decide +kernel
theorem dX13_count_209 : decode cX13_count 209 = .ok (.iaload, 1) := by decide +kernel
theorem dX13_count_210 : decode cX13_count 210 = .ok (.goto 4, 3) := by decide +kernel
set_option maxHeartbeats 4000000 in
set_option maxRecDepth 100000 in
theorem k_X13_count (l : Launch) (D : va_G) (cy : Nat → ClassId) (ld ad : Nat → Nat) (am : Nat) (hD : mz_D ad am) (Fa : Nat → Int32) (Ga : Nat → Int64) (Ra : Nat → Nat → Int32) (Sa : Nat → Nat → Int64) (p1 : Int32) (hIF : mz_IF true Fa) (hIG : mz_IG Ga) (hIR : mz_IR [] true Ra) : Met l yX13_count (wl yX13_count cX13_count 2 (some .int)) ({ frames := 4, cells := 0, slots := 0, locals := 210 }) (mz_p D cy ld ad am Fa Ga Ra Sa [.ref am, .int p1]) (mz_i D cy ad am (fun r F G R S => mz_IF true F ∧ mz_IG G ∧ mz_IR [] true R ∧ (∀ k : Nat, k ∉ ([0] : List Nat) → F k = Fa k) ∧ (∀ k : Nat, k ∉ ([] : List Nat) → R k = Ra k) ∧ (∀ k : Nat, k ∉ ([] : List Nat) → G k = Ga k))) 0 0 (mz_W ad am) := by
  refine mz_met (y := yX13_count) (cc := cX13_count) (maxL := 2) (ret := (some .int)) (av := [.ref am, .int p1]) _ (by decide) (Nat.le_of_ble_eq_true rfl) ?_
  intro p e s m args below meth c hx hb hr hml hts htl hown hlocks hK H locs hM hS ls hl
  have hown : s.vm.findClass RX13 = some m.cls := hown
  have hl : lv_has ls 2 [(0, .ref am), (1, .int p1)] := hl
  have hr_p1 := tk_rng p1
  refine lv_aload_n hx hb dX13_count_0 rfl (lv_at hl 0 rfl) ?_
  refine lv_iconst (v := 0) hx hb dX13_count_1 (by decide) ?_
  have hk_0 : (0 : Int32).toInt = 0 := by decide
  refine mz_putI (ty := .int) (x := 0) hx hb htl hown hK hD hM hS 0 (Nat.le_of_ble_eq_true rfl) rfl (htl _ mw_286) (fun _ h9 => h9) rfl (tyX13_ok 0 (by decide)) rfl rfl dX13_count_2 (fun H locs F hM hS hf9 hj9 => ?_)
  have hIF := hIF.put hf9 hj9 (tk_rng _).1 (tk_rng _).2 (by decide)
  have hFF := mz_frp (K := [0]) (Fa := Fa) hj9 (fun _ _ => rfl) (by decide)
  have hf2 := hf9
  refine lv_iload_n hx hb dX13_count_5 rfl (lv_at hl 1 rfl) ?_
  rcases (show p1.toInt = 0 ∨ p1.toInt = 1 ∨ p1.toInt = 2 ∨ p1.toInt = 3 ∨ p1.toInt = 4 ∨ p1.toInt = 5 ∨ p1.toInt = 6 ∨ p1.toInt = 7 ∨ p1.toInt = 8 ∨ p1.toInt = 9 ∨ p1.toInt = 10 ∨ p1.toInt = 11 ∨ p1.toInt = 12 ∨ p1.toInt = 13 ∨ p1.toInt = 14 ∨ p1.toInt < 0 ∨ 14 < p1.toInt by omega) with hsw | hsw | hsw | hsw | hsw | hsw | hsw | hsw | hsw | hsw | hsw | hsw | hsw | hsw | hsw | hsw | hsw
  · refine lv_tableIn (off := 74) (tgt := 80) hx hb dX13_count_6 (by omega) (by omega) (by rw [hsw]; rfl) (by decide) ?_
    refine lv_aload_n hx hb dX13_count_80 rfl (lv_at hl 0 rfl) ?_
    refine mz_getR hx hb htl hown hK hM 3 (Nat.le_of_ble_eq_true rfl) (Nat.le_of_ble_eq_true rfl) (htl _ mw_188) (fun _ h9 => h9) dX13_count_81 ?_
    refine lv_iconst (v := 0) hx hb dX13_count_84 (by decide) ?_
    refine mz_iald hx hb hK hM 3 (Nat.le_of_ble_eq_true rfl) rfl (nn := 5560) rfl (I := 0) (by decide) (by decide) (by decide) dX13_count_85 (fun v4 hf3 => ?_)
    have hf3 : Ra 3 0 = v4 := hf3
    have hq_v4 := tk_rng v4
    have hr_v4 : 0 ≤ v4.toInt ∧ v4.toInt ≤ 8 := by have h9 := mz_r3c 0 (hIR.at 3) hf3 (by decide); unfold mE at h9; omega
    exact mz_iret (v := v4) hx hb hr rfl hlocks ⟨hIF, hIG, hIR, hFF, (fun _ _ => rfl), (fun _ _ => rfl)⟩ hM hS dX13_count_86
  · refine lv_tableIn (off := 81) (tgt := 87) hx hb dX13_count_6 (by omega) (by omega) (by rw [hsw]; rfl) (by decide) ?_
    refine lv_aload_n hx hb dX13_count_87 rfl (lv_at hl 0 rfl) ?_
    refine mz_getR hx hb htl hown hK hM 3 (Nat.le_of_ble_eq_true rfl) (Nat.le_of_ble_eq_true rfl) (htl _ mw_188) (fun _ h9 => h9) dX13_count_88 ?_
    refine lv_iconst (v := 1) hx hb dX13_count_91 (by decide) ?_
    refine mz_iald hx hb hK hM 3 (Nat.le_of_ble_eq_true rfl) rfl (nn := 5560) rfl (I := 1) (by decide) (by decide) (by decide) dX13_count_92 (fun v6 hf5 => ?_)
    have hf5 : Ra 3 1 = v6 := hf5
    have hq_v6 := tk_rng v6
    have hr_v6 : 0 ≤ v6.toInt ∧ v6.toInt ≤ 10 := by have h9 := mz_r3c 1 (hIR.at 3) hf5 (by decide); unfold mE at h9; omega
    exact mz_iret (v := v6) hx hb hr rfl hlocks ⟨hIF, hIG, hIR, hFF, (fun _ _ => rfl), (fun _ _ => rfl)⟩ hM hS dX13_count_93
  · refine lv_tableIn (off := 88) (tgt := 94) hx hb dX13_count_6 (by omega) (by omega) (by rw [hsw]; rfl) (by decide) ?_
    refine lv_aload_n hx hb dX13_count_94 rfl (lv_at hl 0 rfl) ?_
    refine mz_getR hx hb htl hown hK hM 3 (Nat.le_of_ble_eq_true rfl) (Nat.le_of_ble_eq_true rfl) (htl _ mw_188) (fun _ h9 => h9) dX13_count_95 ?_
    refine lv_iconst (v := 2) hx hb dX13_count_98 (by decide) ?_
    refine mz_iald hx hb hK hM 3 (Nat.le_of_ble_eq_true rfl) rfl (nn := 5560) rfl (I := 2) (by decide) (by decide) (by decide) dX13_count_99 (fun v11 hf10 => ?_)
    have hf10 : Ra 3 2 = v11 := hf10
    have hq_v11 := tk_rng v11
    have hr_v11 : 0 ≤ v11.toInt ∧ v11.toInt ≤ 10 := by have h9 := mz_r3c 2 (hIR.at 3) hf10 (by decide); unfold mE at h9; omega
    exact mz_iret (v := v11) hx hb hr rfl hlocks ⟨hIF, hIG, hIR, hFF, (fun _ _ => rfl), (fun _ _ => rfl)⟩ hM hS dX13_count_100
  · refine lv_tableIn (off := 95) (tgt := 101) hx hb dX13_count_6 (by omega) (by omega) (by rw [hsw]; rfl) (by decide) ?_
    refine lv_aload_n hx hb dX13_count_101 rfl (lv_at hl 0 rfl) ?_
    refine mz_getR hx hb htl hown hK hM 3 (Nat.le_of_ble_eq_true rfl) (Nat.le_of_ble_eq_true rfl) (htl _ mw_188) (fun _ h9 => h9) dX13_count_102 ?_
    refine lv_iconst (v := 3) hx hb dX13_count_105 (by decide) ?_
    refine mz_iald hx hb hK hM 3 (Nat.le_of_ble_eq_true rfl) rfl (nn := 5560) rfl (I := 3) (by decide) (by decide) (by decide) dX13_count_106 (fun v13 hf12 => ?_)
    have hf12 : Ra 3 3 = v13 := hf12
    have hq_v13 := tk_rng v13
    have hr_v13 : 0 ≤ v13.toInt ∧ v13.toInt ≤ 8 := by have h9 := mz_r3c 3 (hIR.at 3) hf12 (by decide); unfold mE at h9; omega
    exact mz_iret (v := v13) hx hb hr rfl hlocks ⟨hIF, hIG, hIR, hFF, (fun _ _ => rfl), (fun _ _ => rfl)⟩ hM hS dX13_count_107
  · refine lv_tableIn (off := 102) (tgt := 108) hx hb dX13_count_6 (by omega) (by omega) (by rw [hsw]; rfl) (by decide) ?_
    refine lv_aload_n hx hb dX13_count_108 rfl (lv_at hl 0 rfl) ?_
    refine mz_getR hx hb htl hown hK hM 3 (Nat.le_of_ble_eq_true rfl) (Nat.le_of_ble_eq_true rfl) (htl _ mw_188) (fun _ h9 => h9) dX13_count_109 ?_
    refine lv_iconst (v := 4) hx hb dX13_count_112 (by decide) ?_
    refine mz_iald hx hb hK hM 3 (Nat.le_of_ble_eq_true rfl) rfl (nn := 5560) rfl (I := 4) (by decide) (by decide) (by decide) dX13_count_113 (fun v15 hf14 => ?_)
    have hf14 : Ra 3 4 = v15 := hf14
    have hq_v15 := tk_rng v15
    have hr_v15 : 0 ≤ v15.toInt ∧ v15.toInt ≤ 6 := by have h9 := mz_r3c 4 (hIR.at 3) hf14 (by decide); unfold mE at h9; omega
    exact mz_iret (v := v15) hx hb hr rfl hlocks ⟨hIF, hIG, hIR, hFF, (fun _ _ => rfl), (fun _ _ => rfl)⟩ hM hS dX13_count_114
  · refine lv_tableIn (off := 109) (tgt := 115) hx hb dX13_count_6 (by omega) (by omega) (by rw [hsw]; rfl) (by decide) ?_
    refine lv_aload_n hx hb dX13_count_115 rfl (lv_at hl 0 rfl) ?_
    refine mz_getI hx hb htl hown hK hM 8 (Nat.le_of_ble_eq_true rfl) rfl (htl _ mw_289) (fun _ h9 => h9) dX13_count_116 (fun v17 hf16 => ?_)
    have hq_v17 := tk_rng v17
    have hr_v17 : 0 ≤ v17.toInt ∧ v17.toInt ≤ 16 := hIF.at hf16
    exact mz_iret (v := v17) hx hb hr rfl hlocks ⟨hIF, hIG, hIR, hFF, (fun _ _ => rfl), (fun _ _ => rfl)⟩ hM hS dX13_count_119
  · refine lv_tableIn (off := 114) (tgt := 120) hx hb dX13_count_6 (by omega) (by omega) (by rw [hsw]; rfl) (by decide) ?_
    refine lv_aload_n hx hb dX13_count_120 rfl (lv_at hl 0 rfl) ?_
    refine mz_getI hx hb htl hown hK hM 13 (Nat.le_of_ble_eq_true rfl) rfl (htl _ mw_431) (fun _ h9 => h9) dX13_count_121 (fun v19 hf18 => ?_)
    have hq_v19 := tk_rng v19
    have hr_v19 : 0 ≤ v19.toInt ∧ v19.toInt ≤ 400 := hIF.at hf18
    exact mz_iret (v := v19) hx hb hr rfl hlocks ⟨hIF, hIG, hIR, hFF, (fun _ _ => rfl), (fun _ _ => rfl)⟩ hM hS dX13_count_124
  · refine lv_tableIn (off := 119) (tgt := 125) hx hb dX13_count_6 (by omega) (by omega) (by rw [hsw]; rfl) (by decide) ?_
    refine lv_aload_n hx hb dX13_count_125 rfl (lv_at hl 0 rfl) ?_
    refine mz_getR hx hb htl hown hK hM 2 (Nat.le_of_ble_eq_true rfl) (Nat.le_of_ble_eq_true rfl) (htl _ mw_187) (fun _ h9 => h9) dX13_count_126 ?_
    refine lv_iconst (v := 1) hx hb dX13_count_129 (by decide) ?_
    refine mz_iald hx hb hK hM 2 (Nat.le_of_ble_eq_true rfl) rfl (nn := 7) rfl (I := 1) (by decide) (by decide) (by decide) dX13_count_130 (fun v21 hf20 => ?_)
    have hf20 : Ra 2 1 = v21 := hf20
    have hq_v21 := tk_rng v21
    exact mz_iret (v := v21) hx hb hr rfl hlocks ⟨hIF, hIG, hIR, hFF, (fun _ _ => rfl), (fun _ _ => rfl)⟩ hM hS dX13_count_131
  · refine lv_tableIn (off := 126) (tgt := 132) hx hb dX13_count_6 (by omega) (by omega) (by rw [hsw]; rfl) (by decide) ?_
    refine lv_aload_n hx hb dX13_count_132 rfl (lv_at hl 0 rfl) ?_
    refine mz_getR hx hb htl hown hK hM 2 (Nat.le_of_ble_eq_true rfl) (Nat.le_of_ble_eq_true rfl) (htl _ mw_187) (fun _ h9 => h9) dX13_count_133 ?_
    refine lv_iconst (v := 2) hx hb dX13_count_136 (by decide) ?_
    refine mz_iald hx hb hK hM 2 (Nat.le_of_ble_eq_true rfl) rfl (nn := 7) rfl (I := 2) (by decide) (by decide) (by decide) dX13_count_137 (fun v23 hf22 => ?_)
    have hf22 : Ra 2 2 = v23 := hf22
    have hq_v23 := tk_rng v23
    exact mz_iret (v := v23) hx hb hr rfl hlocks ⟨hIF, hIG, hIR, hFF, (fun _ _ => rfl), (fun _ _ => rfl)⟩ hM hS dX13_count_138
  · refine lv_tableIn (off := 133) (tgt := 139) hx hb dX13_count_6 (by omega) (by omega) (by rw [hsw]; rfl) (by decide) ?_
    refine lv_aload_n hx hb dX13_count_139 rfl (lv_at hl 0 rfl) ?_
    refine mz_getR hx hb htl hown hK hM 2 (Nat.le_of_ble_eq_true rfl) (Nat.le_of_ble_eq_true rfl) (htl _ mw_187) (fun _ h9 => h9) dX13_count_140 ?_
    refine lv_iconst (v := 3) hx hb dX13_count_143 (by decide) ?_
    refine mz_iald hx hb hK hM 2 (Nat.le_of_ble_eq_true rfl) rfl (nn := 7) rfl (I := 3) (by decide) (by decide) (by decide) dX13_count_144 (fun v25 hf24 => ?_)
    have hf24 : Ra 2 3 = v25 := hf24
    have hq_v25 := tk_rng v25
    exact mz_iret (v := v25) hx hb hr rfl hlocks ⟨hIF, hIG, hIR, hFF, (fun _ _ => rfl), (fun _ _ => rfl)⟩ hM hS dX13_count_145
  · refine lv_tableIn (off := 140) (tgt := 146) hx hb dX13_count_6 (by omega) (by omega) (by rw [hsw]; rfl) (by decide) ?_
    refine lv_aload_n hx hb dX13_count_146 rfl (lv_at hl 0 rfl) ?_
    refine mz_getR hx hb htl hown hK hM 2 (Nat.le_of_ble_eq_true rfl) (Nat.le_of_ble_eq_true rfl) (htl _ mw_187) (fun _ h9 => h9) dX13_count_147 ?_
    refine lv_iconst (v := 5) hx hb dX13_count_150 (by decide) ?_
    refine mz_iald hx hb hK hM 2 (Nat.le_of_ble_eq_true rfl) rfl (nn := 7) rfl (I := 5) (by decide) (by decide) (by decide) dX13_count_151 (fun v27 hf26 => ?_)
    have hf26 : Ra 2 5 = v27 := hf26
    have hq_v27 := tk_rng v27
    exact mz_iret (v := v27) hx hb hr rfl hlocks ⟨hIF, hIG, hIR, hFF, (fun _ _ => rfl), (fun _ _ => rfl)⟩ hM hS dX13_count_152
  · refine lv_tableIn (off := 147) (tgt := 153) hx hb dX13_count_6 (by omega) (by omega) (by rw [hsw]; rfl) (by decide) ?_
    refine lv_aload_n hx hb dX13_count_153 rfl (lv_at hl 0 rfl) ?_
    refine mz_getR hx hb htl hown hK hM 2 (Nat.le_of_ble_eq_true rfl) (Nat.le_of_ble_eq_true rfl) (htl _ mw_187) (fun _ h9 => h9) dX13_count_154 ?_
    refine lv_bipush (v := 6) hx hb dX13_count_157 (by decide) ?_
    refine mz_iald hx hb hK hM 2 (Nat.le_of_ble_eq_true rfl) rfl (nn := 7) rfl (I := 6) (by decide) (by decide) (by decide) dX13_count_159 (fun v29 hf28 => ?_)
    have hf28 : Ra 2 6 = v29 := hf28
    have hq_v29 := tk_rng v29
    exact mz_iret (v := v29) hx hb hr rfl hlocks ⟨hIF, hIG, hIR, hFF, (fun _ _ => rfl), (fun _ _ => rfl)⟩ hM hS dX13_count_160
  · refine lv_tableIn (off := 155) (tgt := 161) hx hb dX13_count_6 (by omega) (by omega) (by rw [hsw]; rfl) (by decide) ?_
    refine lv_aload_n hx hb dX13_count_161 rfl (lv_at hl 0 rfl) ?_
    refine mz_getR hx hb htl hown hK hM 3 (Nat.le_of_ble_eq_true rfl) (Nat.le_of_ble_eq_true rfl) (htl _ mw_188) (fun _ h9 => h9) dX13_count_162 ?_
    refine lv_iconst (v := 5) hx hb dX13_count_165 (by decide) ?_
    refine mz_iald hx hb hK hM 3 (Nat.le_of_ble_eq_true rfl) rfl (nn := 5560) rfl (I := 5) (by decide) (by decide) (by decide) dX13_count_166 (fun v31 hf30 => ?_)
    have hf30 : Ra 3 5 = v31 := hf30
    have hq_v31 := tk_rng v31
    have hr_v31 : (-1) ≤ v31.toInt ∧ v31.toInt ≤ 5 := by have h9 := mz_r3c 5 (hIR.at 3) hf30 (by decide); unfold mE at h9; omega
    exact mz_iret (v := v31) hx hb hr rfl hlocks ⟨hIF, hIG, hIR, hFF, (fun _ _ => rfl), (fun _ _ => rfl)⟩ hM hS dX13_count_167
  · refine lv_tableIn (off := 162) (tgt := 168) hx hb dX13_count_6 (by omega) (by omega) (by rw [hsw]; rfl) (by decide) ?_
    refine lv_aload_n hx hb dX13_count_168 rfl (lv_at hl 0 rfl) ?_
    refine mz_getR hx hb htl hown hK hM 3 (Nat.le_of_ble_eq_true rfl) (Nat.le_of_ble_eq_true rfl) (htl _ mw_188) (fun _ h9 => h9) dX13_count_169 ?_
    refine lv_bipush (v := 10) hx hb dX13_count_172 (by decide) ?_
    refine mz_iald hx hb hK hM 3 (Nat.le_of_ble_eq_true rfl) rfl (nn := 5560) rfl (I := 10) (by decide) (by decide) (by decide) dX13_count_174 (fun v33 hf32 => ?_)
    have hf32 : Ra 3 10 = v33 := hf32
    have hq_v33 := tk_rng v33
    exact mz_iret (v := v33) hx hb hr rfl hlocks ⟨hIF, hIG, hIR, hFF, (fun _ _ => rfl), (fun _ _ => rfl)⟩ hM hS dX13_count_175
  · refine lv_tableIn (off := 170) (tgt := 176) hx hb dX13_count_6 (by omega) (by omega) (by rw [hsw]; rfl) (by decide) ?_
    refine lv_aload_n hx hb dX13_count_176 rfl (lv_at hl 0 rfl) ?_
    refine mz_getR hx hb htl hown hK hM 3 (Nat.le_of_ble_eq_true rfl) (Nat.le_of_ble_eq_true rfl) (htl _ mw_188) (fun _ h9 => h9) dX13_count_177 ?_
    refine lv_bipush (v := 11) hx hb dX13_count_180 (by decide) ?_
    refine mz_iald hx hb hK hM 3 (Nat.le_of_ble_eq_true rfl) rfl (nn := 5560) rfl (I := 11) (by decide) (by decide) (by decide) dX13_count_182 (fun v35 hf34 => ?_)
    have hf34 : Ra 3 11 = v35 := hf34
    have hq_v35 := tk_rng v35
    exact mz_iret (v := v35) hx hb hr rfl hlocks ⟨hIF, hIG, hIR, hFF, (fun _ _ => rfl), (fun _ _ => rfl)⟩ hM hS dX13_count_183
  · refine lv_tableOut (tgt := 184) hx hb dX13_count_6 (by omega) (by decide) ?_
    refine lv_iload_n hx hb dX13_count_184 rfl (lv_at hl 1 rfl) ?_
    obtain ⟨w36, e_w36, h_w36⟩ : ∃ z : Int64, p1.toInt64 = z ∧ z.toInt = p1.toInt := ⟨_, rfl, fl_w _⟩
    refine lv_i2l (v := w36) hx hb dX13_count_185 e_w36 ?_
    refine lv_ldc2 hx hb hown (htl _ mw_1737) dX13_count_186 ?_
    refine lv_ldc2 hx hb hown (htl _ mw_1738) dX13_count_189 ?_
    have hk_15 : (15 : Int64).toInt = 15 := by decide
    have hk_18 : (18 : Int64).toInt = 18 := by decide
    refine mz_Sj (As := [.long w36, .long 15, .long 18]) (rest := []) ⟨hx, hb, hml, hown, hts⟩ hK hM hS (k_X13_in l D cy ld ad am hD _ _ _ _ w36 15 18) ⟨callB_of 3 hts (wl_in mw_292) rfl rfl rfl (htl _ mw_5) (htl _ mw_290) hd_yX13_in ⟨(Nat.le_of_ble_eq_true rfl), (Nat.le_of_ble_eq_true rfl)⟩, htl _ mw_291⟩ rfl hl.1 rfl (Nat.le_of_ble_eq_true rfl) dX13_count_192 ⟨(Nat.le_of_ble_eq_true rfl), (Nat.le_of_ble_eq_true rfl)⟩ (fun v37 H locs hpo hM hS => ?_)
    obtain ⟨hpo38, hpo39, hpo40, hpo41, hpo42, hpo43⟩ := hpo
    have hq_v37 := tk_rng v37
    refine lv_if_eq (tgt := 213) hx hb dX13_count_195 (by decide) (fun c9 => ?_) (fun c9 => ?_)
    · have hc45 : v37.toInt = 0 := (fi_eq rfl (show (0 : Int32).toInt = 0 by decide)).mp c9
      refine lv_iconst (v := (-1)) hx hb dX13_count_213 (by decide) ?_
      have hk_m1 : ((-1) : Int32).toInt = (-1) := by decide
      exact mz_iret (v := (-1)) hx hb hr rfl hlocks ⟨hIF, hIG, hIR, hFF, (fun _ _ => rfl), (fun _ _ => rfl)⟩ hM hS dX13_count_214
    · have hc45 : ¬ (v37.toInt = 0) := fun h9 => c9 ((fi_eq rfl (show (0 : Int32).toInt = 0 by decide)).mpr h9)
      have hwk_46 : 15 ≤ w36.toInt := by omega
      exfalso
      omega
  · refine lv_tableOut (tgt := 184) hx hb dX13_count_6 (by omega) (by decide) ?_
    refine lv_iload_n hx hb dX13_count_184 rfl (lv_at hl 1 rfl) ?_
    obtain ⟨w47, e_w47, h_w47⟩ : ∃ z : Int64, p1.toInt64 = z ∧ z.toInt = p1.toInt := ⟨_, rfl, fl_w _⟩
    refine lv_i2l (v := w47) hx hb dX13_count_185 e_w47 ?_
    refine lv_ldc2 hx hb hown (htl _ mw_1737) dX13_count_186 ?_
    refine lv_ldc2 hx hb hown (htl _ mw_1738) dX13_count_189 ?_
    have hk_15 : (15 : Int64).toInt = 15 := by decide
    have hk_18 : (18 : Int64).toInt = 18 := by decide
    refine mz_Sj (As := [.long w47, .long 15, .long 18]) (rest := []) ⟨hx, hb, hml, hown, hts⟩ hK hM hS (k_X13_in l D cy ld ad am hD _ _ _ _ w47 15 18) ⟨callB_of 3 hts (wl_in mw_292) rfl rfl rfl (htl _ mw_5) (htl _ mw_290) hd_yX13_in ⟨(Nat.le_of_ble_eq_true rfl), (Nat.le_of_ble_eq_true rfl)⟩, htl _ mw_291⟩ rfl hl.1 rfl (Nat.le_of_ble_eq_true rfl) dX13_count_192 ⟨(Nat.le_of_ble_eq_true rfl), (Nat.le_of_ble_eq_true rfl)⟩ (fun v48 H locs hpo hM hS => ?_)
    obtain ⟨hpo49, hpo50, hpo51, hpo52, hpo53, hpo54⟩ := hpo
    have hq_v48 := tk_rng v48
    refine lv_if_eq (tgt := 213) hx hb dX13_count_195 (by decide) (fun c9 => ?_) (fun c9 => ?_)
    · have hc56 : v48.toInt = 0 := (fi_eq rfl (show (0 : Int32).toInt = 0 by decide)).mp c9
      have hwk_57 : 19 ≤ w47.toInt := by omega
      refine lv_iconst (v := (-1)) hx hb dX13_count_213 (by decide) ?_
      have hk_m1 : ((-1) : Int32).toInt = (-1) := by decide
      exact mz_iret (v := (-1)) hx hb hr rfl hlocks ⟨hIF, hIG, hIR, hFF, (fun _ _ => rfl), (fun _ _ => rfl)⟩ hM hS dX13_count_214
    · have hc56 : ¬ (v48.toInt = 0) := fun h9 => c9 ((fi_eq rfl (show (0 : Int32).toInt = 0 by decide)).mpr h9)
      have hwk_58 : w47.toInt ≤ 18 := by omega
      refine lv_aload_n hx hb dX13_count_198 rfl (lv_at hl 0 rfl) ?_
      refine mz_getR hx hb htl hown hK hM 3 (Nat.le_of_ble_eq_true rfl) (Nat.le_of_ble_eq_true rfl) (htl _ mw_188) (fun _ h9 => h9) dX13_count_199 ?_
      refine lv_bipush (v := 6) hx hb dX13_count_202 (by decide) ?_
      refine lv_iload_n hx hb dX13_count_204 rfl (lv_at hl 1 rfl) ?_
      refine lv_iadd hx hb dX13_count_205 ?_
      refine tk_add (show (6 : Int32).toInt = 6 by decide) rfl (by omega) (by omega) (fun v59 h_v59 => ?_)
      refine lv_bipush (v := 15) hx hb dX13_count_206 (by decide) ?_
      refine lv_isub hx hb dX13_count_208 ?_
      refine tk_sub rfl (show (15 : Int32).toInt = 15 by decide) (by omega) (by omega) (fun v60 h_v60 => ?_)
      refine mz_iald hx hb hK hM 3 (Nat.le_of_ble_eq_true rfl) rfl (nn := 5560) rfl rfl (by omega) (by omega) dX13_count_209 (fun v61 e_v61 => ?_)
      have hq_v61 := tk_rng v61
      refine lv_goto (tgt := 214) hx hb dX13_count_210 (by decide) ?_
      exact mz_iret (v := v61) hx hb hr rfl hlocks ⟨hIF, hIG, hIR, hFF, (fun _ _ => rfl), (fun _ _ => rfl)⟩ hM hS dX13_count_214
end
section
theorem dX13_status_0 : decode cX13_status 0 = .ok (.aload_n 0, 1) := by decide +kernel
theorem dX13_status_1 : decode cX13_status 1 = .ok (.iconst 0, 1) := by decide +kernel
theorem dX13_status_2 : decode cX13_status 2 = .ok (.putfield 170, 3) := by decide +kernel
theorem dX13_status_5 : decode cX13_status 5 = .ok (.aload_n 0, 1) := by decide +kernel
theorem dX13_status_6 : decode cX13_status 6 = .ok (.getfield 173, 3) := by decide +kernel
theorem dX13_status_9 : decode cX13_status 9 = .ok (.ireturn, 1) := by decide +kernel
set_option maxHeartbeats 4000000 in
set_option maxRecDepth 100000 in
theorem k_X13_status (l : Launch) (D : va_G) (cy : Nat → ClassId) (ld ad : Nat → Nat) (am : Nat) (hD : mz_D ad am) (Fa : Nat → Int32) (Ga : Nat → Int64) (Ra : Nat → Nat → Int32) (Sa : Nat → Nat → Int64) (hIF : mz_IF true Fa) (hIG : mz_IG Ga) (hIR : mz_IR [] true Ra) : Met l yX13_status (wl yX13_status cX13_status 1 (some .int)) ({ frames := 3, cells := 0, slots := 0, locals := 140 }) (mz_p D cy ld ad am Fa Ga Ra Sa [.ref am]) (mz_i D cy ad am (fun r F G R S => mz_IF true F ∧ mz_IG G ∧ mz_IR [] true R ∧ (∀ k : Nat, k ∉ ([0] : List Nat) → F k = Fa k) ∧ (∀ k : Nat, k ∉ ([] : List Nat) → R k = Ra k) ∧ (∀ k : Nat, k ∉ ([] : List Nat) → G k = Ga k))) 0 0 (mz_W ad am) := by
  refine mz_met (y := yX13_status) (cc := cX13_status) (maxL := 1) (ret := (some .int)) (av := [.ref am]) _ (by decide) (Nat.le_of_ble_eq_true rfl) ?_
  intro p e s m args below meth c hx hb hr hml hts htl hown hlocks hK H locs hM hS ls hl
  have hown : s.vm.findClass RX13 = some m.cls := hown
  have hl : lv_has ls 1 [(0, .ref am)] := hl
  refine lv_aload_n hx hb dX13_status_0 rfl (lv_at hl 0 rfl) ?_
  refine lv_iconst (v := 0) hx hb dX13_status_1 (by decide) ?_
  have hk_0 : (0 : Int32).toInt = 0 := by decide
  refine mz_putI (ty := .int) (x := 0) hx hb htl hown hK hD hM hS 0 (Nat.le_of_ble_eq_true rfl) rfl (htl _ mw_286) (fun _ h9 => h9) rfl (tyX13_ok 0 (by decide)) rfl rfl dX13_status_2 (fun H locs F hM hS hf9 hj9 => ?_)
  have hIF := hIF.put hf9 hj9 (tk_rng _).1 (tk_rng _).2 (by decide)
  have hFF := mz_frp (K := [0]) (Fa := Fa) hj9 (fun _ _ => rfl) (by decide)
  have hf2 := hf9
  refine lv_aload_n hx hb dX13_status_5 rfl (lv_at hl 0 rfl) ?_
  refine mz_getI hx hb htl hown hK hM 1 (Nat.le_of_ble_eq_true rfl) rfl (htl _ mw_297) (fun _ h9 => h9) dX13_status_6 (fun v4 hf3 => ?_)
  have hq_v4 := tk_rng v4
  exact mz_iret (v := v4) hx hb hr rfl hlocks ⟨hIF, hIG, hIR, hFF, (fun _ _ => rfl), (fun _ _ => rfl)⟩ hM hS dX13_status_9
end
section
set_option maxHeartbeats 4000000 in
set_option maxRecDepth 100000 in
theorem k_X13_term_1 (l : Launch) (D : va_G) (cy : Nat → ClassId) (ld ad : Nat → Nat) (am : Nat) (hD : mz_D ad am) (Fa : Nat → Int32) (Ga : Nat → Int64) (Ra : Nat → Nat → Int32) (Sa : Nat → Nat → Int64) (g0 : Int32) (hg_0 : Ra 3 7 = g0) : Met l yX13_term (wl yX13_term cX13_term 2 (some .int)) ({ frames := 3, cells := 0, slots := 0, locals := 140 }) (mz_p D cy ld ad am Fa Ga Ra Sa [.ref am, .int 1]) (mz_j D cy ad am Fa Ga Ra Sa (fun r => (-1) * g0.toInt + r.toInt = 0)) 0 0 (mz_W ad am) := by
  refine mz_met (y := yX13_term) (cc := cX13_term) (maxL := 2) (ret := (some .int)) (av := [.ref am, .int 1]) _ (by decide) (Nat.le_of_ble_eq_true rfl) ?_
  intro p e s m args below meth c hx hb hr hml hts htl hown hlocks hK H locs hM hS ls hl
  have hown : s.vm.findClass RX13 = some m.cls := hown
  have hl : lv_has ls 2 [(0, .ref am), (1, .int 1)] := hl
  have hq_g0 := tk_rng g0
  refine lv_aload_n hx hb dX13_term_0 rfl (lv_at hl 0 rfl) ?_
  refine mz_getR hx hb htl hown hK hM 3 (Nat.le_of_ble_eq_true rfl) (Nat.le_of_ble_eq_true rfl) (htl _ mw_188) (fun _ h9 => h9) dX13_term_1 ?_
  refine lv_bipush (v := 6) hx hb dX13_term_4 (by decide) ?_
  refine lv_iload_n hx hb dX13_term_6 rfl (lv_at hl 1 rfl) ?_
  refine lv_iadd hx hb dX13_term_7 ?_
  refine fx_ti (v := 7) (by decide) ?_
  refine mz_iald hx hb hK hM 3 (Nat.le_of_ble_eq_true rfl) rfl (nn := 5560) rfl (I := 7) (by decide) (by decide) (by decide) dX13_term_8 (fun v9 e9 => ?_)
  refine fx_ti (v := g0) (e9.symm.trans (show Ra 3 (7 : Int32).toNatClampNeg = _ from hg_0)) ?_
  exact mz_jret (v := g0) hx hb hr rfl hlocks (by omega) hM hS dX13_term_9
end
