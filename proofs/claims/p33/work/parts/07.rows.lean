theorem dX1_takeBack_0 : decode cX1_takeBack 0 = .ok (.aload_n 0, 1) := by decide +kernel
theorem dX1_takeBack_1 : decode cX1_takeBack 1 = .ok (.getfield 99, 3) := by decide +kernel
theorem dX1_takeBack_4 : decode cX1_takeBack 4 = .ok (.ifCond .ne 6, 3) := by decide +kernel
theorem dX1_takeBack_10 : decode cX1_takeBack 10 = .ok (.aload_n 0, 1) := by decide +kernel
theorem dX1_takeBack_11 : decode cX1_takeBack 11 = .ok (.dup, 1) := by decide +kernel
theorem dX1_takeBack_12 : decode cX1_takeBack 12 = .ok (.getfield 99, 3) := by decide +kernel
theorem dX1_takeBack_15 : decode cX1_takeBack 15 = .ok (.iconst 1, 1) := by decide +kernel
theorem dX1_takeBack_16 : decode cX1_takeBack 16 = .ok (.isub, 1) := by decide +kernel
theorem dX1_takeBack_17 : decode cX1_takeBack 17 = .ok (.putfield 99, 3) := by decide +kernel
theorem dX1_takeBack_20 : decode cX1_takeBack 20 = .ok (.aload_n 0, 1) := by decide +kernel
theorem dX1_takeBack_21 : decode cX1_takeBack 21 = .ok (.getfield 102, 3) := by decide +kernel
theorem dX1_takeBack_24 : decode cX1_takeBack 24 = .ok (.aload_n 0, 1) := by decide +kernel
theorem dX1_takeBack_25 : decode cX1_takeBack 25 = .ok (.getfield 99, 3) := by decide +kernel
theorem dX1_takeBack_28 : decode cX1_takeBack 28 = .ok (.iadd, 1) := by decide +kernel
theorem dX1_takeBack_29 : decode cX1_takeBack 29 = .ok (.bipush 16, 2) := by decide +kernel
theorem dX1_takeBack_31 : decode cX1_takeBack 31 = .ok (.irem, 1) := by decide +kernel
theorem dX1_takeBack_32 : decode cX1_takeBack 32 = .ok (.istore_n 1, 1) := by decide +kernel
theorem dX1_takeBack_33 : decode cX1_takeBack 33 = .ok (.aload_n 0, 1) := by decide +kernel
theorem dX1_takeBack_34 : decode cX1_takeBack 34 = .ok (.getfield 32, 3) := by decide +kernel
theorem dX1_takeBack_37 : decode cX1_takeBack 37 = .ok (.getfield 50, 3) := by decide +kernel
theorem dX1_takeBack_40 : decode cX1_takeBack 40 = .ok (.aload_n 0, 1) := by decide +kernel
theorem dX1_takeBack_41 : decode cX1_takeBack 41 = .ok (.getfield 11, 3) := by decide +kernel
theorem dX1_takeBack_44 : decode cX1_takeBack 44 = .ok (.iload_n 1, 1) := by decide +kernel
theorem dX1_takeBack_45 : decode cX1_takeBack 45 = .ok (.aaload, 1) := by decide +kernel
theorem dX1_takeBack_46 : decode cX1_takeBack 46 = .ok (.invokevirtual 105, 3) := by decide +kernel
theorem dX1_takeBack_49 : decode cX1_takeBack 49 = .ok (.aload_n 0, 1) := by decide +kernel
theorem dX1_takeBack_50 : decode cX1_takeBack 50 = .ok (.getfield 17, 3) := by decide +kernel
theorem dX1_takeBack_53 : decode cX1_takeBack 53 = .ok (.iload_n 1, 1) := by decide +kernel
theorem dX1_takeBack_54 : decode cX1_takeBack 54 = .ok (.iaload, 1) := by decide +kernel
theorem dX1_takeBack_55 : decode cX1_takeBack 55 = .ok (.ireturn, 1) := by decide +kernel
theorem dX1_takeBack_7 : decode cX1_takeBack 7 = .ok (.bipush (-3), 2) := by decide +kernel
theorem dX1_takeBack_9 : decode cX1_takeBack 9 = .ok (.ireturn, 1) := by decide +kernel
set_option maxHeartbeats 4000000 in
set_option maxRecDepth 100000 in
theorem k_X1_takeBack (l : Launch) (D : va_G) (cy : Nat → ClassId) (ld : Nat → Nat) (t : tk_T) (a0 : Nat) (ht_a0 : t a0 = (2, 0, 0)) : Met l yX1_takeBack (wl yX1_takeBack cX1_takeBack 2 (some .int)) ({ frames := 5, cells := 0, slots := 0, locals := 280 }) (tp D cy ld t [] [.ref a0] (fun H => True)) (ti D cy ld t [] (fun r H => True) (tk_w t [(2, 0, 0), (20, 0, 0), (10, 0, 0)])) 0 0 (tk_w t [(2, 0, 0), (20, 0, 0), (10, 0, 0)]) := by
  refine tk_met (y := yX1_takeBack) (cc := cX1_takeBack) (maxL := 2) (ret := (some .int)) (av := [.ref a0]) _ _ (by decide) (Nat.le_of_ble_eq_true rfl) ?_
  intro p e s m args below meth c hx hb hr hml hts htl hown hlocks hK H locs hH hG hS hB hZ ls hl
  have hown : s.vm.findClass RX1 = some m.cls := hown
  have hl : lv_has ls 2 [(0, .ref a0)] := hl
  refine lv_aload_n hx hb dX1_takeBack_0 rfl (lv_at hl 0 rfl) ?_
  refine tk_get (ci := 1) (C := RX1) (T := TX1) (N := 11) (sp := (0, 0, 16, 0)) hx hb htl inX1 hown hK hG ht_a0 (by decide) tk_no rfl 0 (by decide) (htl _ mw_267) (fun _ h9 => h9) rfl dX1_takeBack_1 (fun v9 hf1 hV9 => ?_)
  obtain ⟨v2, rfl, (ha_v2 : 0 ≤ v2.toInt), (hb_v2 : v2.toInt ≤ 16)⟩ := hV9
  refine lv_if_ne (tgt := 10) hx hb dX1_takeBack_4 (by decide) (fun c9 => ?_) (fun c9 => ?_)
  · have hc3 : ¬ (v2.toInt = 0) := fun h9 => c9 ((fi_eq rfl (show (0 : Int32).toInt = 0 by decide)).mpr h9)
    refine lv_aload_n hx hb dX1_takeBack_10 rfl (lv_at hl 0 rfl) ?_
    refine lv_dup hx hb dX1_takeBack_11 rfl ?_
    refine tk_getk (ci := 1) (C := RX1) (T := TX1) (N := 11) (sp := (0, 0, 16, 0)) hx hb htl inX1 hown hK hG ht_a0 (by decide) tk_no rfl 0 (by decide) (htl _ mw_267) (fun _ h9 => h9) rfl hf1 dX1_takeBack_12 ?_
    refine lv_iconst (v := 1) hx hb dX1_takeBack_15 (by decide) ?_
    refine lv_isub hx hb dX1_takeBack_16 ?_
    refine tk_sub rfl (show (1 : Int32).toInt = 1 by decide) (by omega) (by omega) (fun v4 h_v4 => ?_)
    refine tk_put (ci := 1) (v := .int v4) (ty := .int) (C := RX1) (T := TX1) (N := 11) (sp := (0, 0, 16, 0)) hx hb htl inX1 tyX1 tyX1_ok nmX1 hown hK hG hS ht_a0 (by decide) tk_no rfl 0 (by decide) (htl _ mw_267) (fun _ h9 => h9) rfl (tyX1_ok 0 (by decide)) rfl rfl rfl (tk_V0 (by omega) (by omega)) (fun _ h => h) (tk_w.of ht_a0 (by decide) (List.mem_of_getElem? (i := 0) rfl) (Nat.le_refl _) (Nat.le_refl _)) dX1_takeBack_17 (fun H locs hG hS hf5 hq9 hj9 => ?_)
    refine lv_aload_n hx hb dX1_takeBack_20 rfl (lv_at hl 0 rfl) ?_
    refine tk_get (ci := 1) (C := RX1) (T := TX1) (N := 11) (sp := (0, 0, 15, 0)) hx hb htl inX1 hown hK hG ht_a0 (by decide) tk_no rfl 5 (by decide) (htl _ mw_815) (fun _ h9 => h9) rfl dX1_takeBack_21 (fun v9 hf7 hV9 => ?_)
    obtain ⟨v8, rfl, (ha_v8 : 0 ≤ v8.toInt), (hb_v8 : v8.toInt ≤ 15)⟩ := hV9
    refine lv_aload_n hx hb dX1_takeBack_24 rfl (lv_at hl 0 rfl) ?_
    refine tk_getk (ci := 1) (C := RX1) (T := TX1) (N := 11) (sp := (0, 0, 16, 0)) hx hb htl inX1 hown hK hG ht_a0 (by decide) tk_no rfl 0 (by decide) (htl _ mw_267) (fun _ h9 => h9) rfl hf5 dX1_takeBack_25 ?_
    refine lv_iadd hx hb dX1_takeBack_28 ?_
    refine tk_add rfl rfl (by omega) (by omega) (fun v9 h_v9 => ?_)
    refine lv_bipush (v := 16) hx hb dX1_takeBack_29 (by decide) ?_
    refine lv_irem hx hb dX1_takeBack_31 (by decide) ?_
    refine tk_say (P := fun z => 0 ≤ z.toInt ∧ z.toInt < 16) (tk_rem rfl (show (16 : Int32).toInt = 16 by decide) (by omega) (by omega)) (fun v10 h_v10 => ?_)
    refine lv_istore_n (lv' := [(1, .int v10), (0, .ref a0)]) hx hb dX1_takeBack_32 rfl hl (by decide) rfl (fun ls hl => ?_)
    refine lv_aload_n hx hb dX1_takeBack_33 rfl (lv_at hl 1 rfl) ?_
    refine tk_get (ci := 1) (C := RX1) (T := TX1) (N := 11) (sp := (8, 20, 3, 0)) hx hb htl inX1 hown hK hG ht_a0 (by decide) tk_no rfl 1 (by decide) (htl _ mw_114) (fun _ h9 => h9) rfl dX1_takeBack_34 (fun v9 hf11 hV9 => ?_)
    obtain ⟨rfl, ht_ld20⟩ := hV9
    have ht_ld20 : t (ld 20) = (3, 0, 0) := ht_ld20
    refine fx_top (v := .ref (ld 20)) rfl ?_
    refine tk_get (ci := 2) (C := RX2) (T := TX2) (N := 20) (sp := (9, 40, 10, 0)) hx hb htl inX2 hown hK hG ht_ld20 (by decide) tk_no rfl 19 (by decide) (htl _ mw_814) (fun _ h9 => h9) rfl dX1_takeBack_37 (fun v9 hf12 hV9 => ?_)
    obtain ⟨rfl, ht_ld40⟩ := hV9
    have ht_ld40 : t (ld 40) = (10, 0, 0) := ht_ld40
    refine fx_top (v := .ref (ld 40)) rfl ?_
    refine lv_aload_n hx hb dX1_takeBack_40 rfl (lv_at hl 1 rfl) ?_
    refine tk_get (ci := 1) (C := RX1) (T := TX1) (N := 11) (sp := (6, 25, 16, 1)) hx hb htl inX1 hown hK hG ht_a0 (by decide) tk_no rfl 3 (by decide) (htl _ mw_109) (fun _ h9 => h9) rfl dX1_takeBack_41 (fun v9 hf13 hV9 => ?_)
    obtain ⟨b14, rfl, ht_b14⟩ := hV9
    have ht_b14 : t b14 = (25, 16, 1) := ht_b14
    refine lv_iload_n hx hb dX1_takeBack_44 rfl (lv_at hl 0 rfl) ?_
    refine tk_aald hx hb hK hG 3 rfl rfl ht_b14 (by decide) (fun _ h => h) tk_no rfl (by omega) (by omega) dX1_takeBack_45 (fun o15 ht_o15 => ?_)
    obtain ⟨b16, rfl, ht_b16⟩ := ht_o15
    have ht_b16 : t b16 = (10, 0, 1) := ht_b16
    refine fx_top (v := .ref b16) rfl ?_
    obtain ⟨v9, hf17, hV9⟩ := tk_peek (ci := 9) (C := RX9) (T := TX9) (N := 11) (sp := (0, (-1), 7, 0)) hG ht_b16 (by decide) tk_no rfl 5 (by decide) rfl
    obtain ⟨v18, rfl, (ha_v18 : (-1) ≤ v18.toInt), (hb_v18 : v18.toInt ≤ 7)⟩ := hV9
    refine tk_Vv (As := [.ref b16]) (rest := []) (ci := 9) ⟨hx, hb, hml, hown, hts⟩ hK hG hZ hS (k_X9_copyFrom l D cy ld t 0 1 (ld 40) b16 v18 ht_ld40 ht_b16 (by omega) (by omega) (by omega)) hf17 ⟨callB_of 1 hts (wl_in mw_821) rfl rfl rfl (htl _ mw_76) (htl _ mw_818) hd_yX9_copyFrom ⟨(Nat.le_of_ble_eq_true rfl), (Nat.le_of_ble_eq_true rfl)⟩, htl _ mw_819, htl _ mw_820⟩ ht_ld40 (by decide) tk_no rfl (tk_w.pick [1, 2] rfl) rfl hl.1 rfl (Nat.le_of_ble_eq_true rfl) dX1_takeBack_46 ⟨(Nat.le_of_ble_eq_true rfl), (Nat.le_of_ble_eq_true rfl)⟩ (fun H locs hpo hG hS hq9 => ?_)
    have hf5 := hf5.call hq9 (tk_w.no ht_a0 (by decide))
    have hf17 := hf17.call hq9 (tk_w.no ht_b16 (by decide))
    have hf20 := hpo
    refine lv_aload_n hx hb dX1_takeBack_49 rfl (lv_at hl 1 rfl) ?_
    refine tk_get (ci := 1) (C := RX1) (T := TX1) (N := 11) (sp := (6, 20, 16, 0)) hx hb htl inX1 hown hK hG ht_a0 (by decide) tk_no rfl 4 (by decide) (htl _ mw_110) (fun _ h9 => h9) rfl dX1_takeBack_50 (fun v9 hf21 hV9 => ?_)
    obtain ⟨b22, rfl, ht_b22⟩ := hV9
    have ht_b22 : t b22 = (20, 16, 0) := ht_b22
    refine lv_iload_n hx hb dX1_takeBack_53 rfl (lv_at hl 0 rfl) ?_
    refine tk_iald hx hb hK hG ht_b22 (by decide) (fun _ h => h) tk_no rfl (by omega) (by omega) dX1_takeBack_54 (fun v23 _ _ => ?_)
    have hr_v23 := tk_rng v23
    exact tk_iret (v := v23) hx hb hr rfl hlocks trivial hG hS dX1_takeBack_55
  · have hc3 : v2.toInt = 0 := (fi_eq rfl (show (0 : Int32).toInt = 0 by decide)).mp c9
    refine lv_bipush (v := (-3)) hx hb dX1_takeBack_7 (by decide) ?_
    have hk_m3 : ((-3) : Int32).toInt = (-3) := by decide
    exact tk_iret (v := (-3)) hx hb hr rfl hlocks trivial hG hS dX1_takeBack_9
theorem dX1_clearUndone_0 : decode cX1_clearUndone 0 = .ok (.aload_n 0, 1) := by decide +kernel
theorem dX1_clearUndone_1 : decode cX1_clearUndone 1 = .ok (.iconst 0, 1) := by decide +kernel
theorem dX1_clearUndone_2 : decode cX1_clearUndone 2 = .ok (.putfield 99, 3) := by decide +kernel
theorem dX1_clearUndone_5 : decode cX1_clearUndone 5 = .ok (.return_, 1) := by decide +kernel
set_option maxHeartbeats 4000000 in
set_option maxRecDepth 100000 in
theorem k_X1_clearUndone (l : Launch) (D : va_G) (cy : Nat → ClassId) (ld : Nat → Nat) (t : tk_T) (a0 : Nat) (ht_a0 : t a0 = (2, 0, 0)) : Met l yX1_clearUndone (wl yX1_clearUndone cX1_clearUndone 1 none) ({ frames := 3, cells := 0, slots := 0, locals := 140 }) (tp D cy ld t [] [.ref a0] (fun H => True)) (tv D cy ld t [] (fun H => True) (tk_w t [(2, 0, 0)])) 0 0 (tk_w t [(2, 0, 0)]) := by
  refine tk_met (y := yX1_clearUndone) (cc := cX1_clearUndone) (maxL := 1) (ret := none) (av := [.ref a0]) _ _ (by decide) (Nat.le_of_ble_eq_true rfl) ?_
  intro p e s m args below meth c hx hb hr hml hts htl hown hlocks hK H locs hH hG hS hB hZ ls hl
  have hown : s.vm.findClass RX1 = some m.cls := hown
  have hl : lv_has ls 1 [(0, .ref a0)] := hl
  refine lv_aload_n hx hb dX1_clearUndone_0 rfl (lv_at hl 0 rfl) ?_
  refine lv_iconst (v := 0) hx hb dX1_clearUndone_1 (by decide) ?_
  refine tk_put (ci := 1) (v := .int 0) (ty := .int) (C := RX1) (T := TX1) (N := 11) (sp := (0, 0, 16, 0)) hx hb htl inX1 tyX1 tyX1_ok nmX1 hown hK hG hS ht_a0 (by decide) tk_no rfl 0 (by decide) (htl _ mw_267) (fun _ h9 => h9) rfl (tyX1_ok 0 (by decide)) rfl rfl rfl (tk_V0 (by decide) (by decide)) (fun _ h => h) (tk_w.of ht_a0 (by decide) (List.mem_of_getElem? (i := 0) rfl) (Nat.le_refl _) (Nat.le_refl _)) dX1_clearUndone_2 (fun H locs hG hS hf1 hq9 hj9 => ?_)
  exact tk_vret hx hb hr hlocks trivial hG hS dX1_clearUndone_5
theorem dX1_save_0 : decode cX1_save 0 = .ok (.aload_n 0, 1) := by decide +kernel
theorem dX1_save_1 : decode cX1_save 1 = .ok (.getfield 22, 3) := by decide +kernel
theorem dX1_save_4 : decode cX1_save 4 = .ok (.aload_n 0, 1) := by decide +kernel
theorem dX1_save_5 : decode cX1_save 5 = .ok (.getfield 32, 3) := by decide +kernel
theorem dX1_save_8 : decode cX1_save 8 = .ok (.getfield 50, 3) := by decide +kernel
theorem dX1_save_11 : decode cX1_save 11 = .ok (.invokevirtual 105, 3) := by decide +kernel
theorem dX1_save_14 : decode cX1_save 14 = .ok (.aload_n 0, 1) := by decide +kernel
theorem dX1_save_15 : decode cX1_save 15 = .ok (.aload_n 0, 1) := by decide +kernel
theorem dX1_save_16 : decode cX1_save 16 = .ok (.getfield 102, 3) := by decide +kernel
theorem dX1_save_19 : decode cX1_save 19 = .ok (.putfield 109, 3) := by decide +kernel
theorem dX1_save_22 : decode cX1_save 22 = .ok (.aload_n 0, 1) := by decide +kernel
theorem dX1_save_23 : decode cX1_save 23 = .ok (.aload_n 0, 1) := by decide +kernel
theorem dX1_save_24 : decode cX1_save 24 = .ok (.getfield 99, 3) := by decide +kernel
theorem dX1_save_27 : decode cX1_save 27 = .ok (.putfield 112, 3) := by decide +kernel
theorem dX1_save_30 : decode cX1_save 30 = .ok (.iconst 0, 1) := by decide +kernel
theorem dX1_save_31 : decode cX1_save 31 = .ok (.istore_n 1, 1) := by decide +kernel
theorem dX1_save_32 : decode cX1_save 32 = .ok (.iload_n 1, 1) := by decide +kernel
theorem dX1_save_33 : decode cX1_save 33 = .ok (.bipush 16, 2) := by decide +kernel
theorem dX1_save_35 : decode cX1_save 35 = .ok (.if_icmp .ge 36, 3) := by decide +kernel
theorem dX1_save_71 : decode cX1_save 71 = .ok (.return_, 1) := by decide +kernel
theorem dX1_save_38 : decode cX1_save 38 = .ok (.aload_n 0, 1) := by decide +kernel
theorem dX1_save_39 : decode cX1_save 39 = .ok (.getfield 26, 3) := by decide +kernel
theorem dX1_save_42 : decode cX1_save 42 = .ok (.iload_n 1, 1) := by decide +kernel
theorem dX1_save_43 : decode cX1_save 43 = .ok (.aaload, 1) := by decide +kernel
theorem dX1_save_44 : decode cX1_save 44 = .ok (.aload_n 0, 1) := by decide +kernel
theorem dX1_save_45 : decode cX1_save 45 = .ok (.getfield 11, 3) := by decide +kernel
theorem dX1_save_48 : decode cX1_save 48 = .ok (.iload_n 1, 1) := by decide +kernel
theorem dX1_save_49 : decode cX1_save 49 = .ok (.aaload, 1) := by decide +kernel
theorem dX1_save_50 : decode cX1_save 50 = .ok (.invokevirtual 105, 3) := by decide +kernel
theorem dX1_save_53 : decode cX1_save 53 = .ok (.aload_n 0, 1) := by decide +kernel
theorem dX1_save_54 : decode cX1_save 54 = .ok (.getfield 29, 3) := by decide +kernel
theorem dX1_save_57 : decode cX1_save 57 = .ok (.iload_n 1, 1) := by decide +kernel
theorem dX1_save_58 : decode cX1_save 58 = .ok (.aload_n 0, 1) := by decide +kernel
theorem dX1_save_59 : decode cX1_save 59 = .ok (.getfield 17, 3) := by decide +kernel
theorem dX1_save_62 : decode cX1_save 62 = .ok (.iload_n 1, 1) := by decide +kernel
theorem dX1_save_63 : decode cX1_save 63 = .ok (.iaload, 1) := by decide +kernel
theorem dX1_save_64 : decode cX1_save 64 = .ok (.iastore, 1) := by decide +kernel
theorem dX1_save_65 : decode cX1_save 65 = .ok (.iinc 1 1, 3) := by decide +kernel
theorem dX1_save_68 : decode cX1_save 68 = .ok (.goto (-36), 3) := by decide +kernel
set_option maxHeartbeats 4000000 in
set_option maxRecDepth 100000 in
theorem k_X1_save (l : Launch) (D : va_G) (cy : Nat → ClassId) (ld : Nat → Nat) (t : tk_T) (a0 : Nat) (ht_a0 : t a0 = (2, 0, 0)) : Met l yX1_save (wl yX1_save cX1_save 2 none) ({ frames := 5, cells := 0, slots := 0, locals := 280 }) (tp D cy ld t [] [.ref a0] (fun H => True)) (tv D cy ld t [] (fun H => True) (tk_w t [(20, 2, 2), (10, 2, 2), (2, 0, 0), (20, 3, 3), (10, 3, 3), (20, 0, 0)])) 0 0 (tk_w t [(20, 2, 2), (10, 2, 2), (2, 0, 0), (20, 3, 3), (10, 3, 3), (20, 0, 0)]) := by
  refine tk_met (y := yX1_save) (cc := cX1_save) (maxL := 2) (ret := none) (av := [.ref a0]) _ _ (by decide) (Nat.le_of_ble_eq_true rfl) ?_
  intro p e s m args below meth c hx hb hr hml hts htl hown hlocks hK H locs hH hG hS hB hZ ls hl
  have hown : s.vm.findClass RX1 = some m.cls := hown
  have hl : lv_has ls 2 [(0, .ref a0)] := hl
  refine lv_aload_n hx hb dX1_save_0 rfl (lv_at hl 0 rfl) ?_
  refine tk_get (ci := 1) (C := RX1) (T := TX1) (N := 11) (sp := (6, 10, 0, 2)) hx hb htl inX1 hown hK hG ht_a0 (by decide) tk_no rfl 6 (by decide) (htl _ mw_111) (fun _ h9 => h9) rfl dX1_save_1 (fun v9 hf1 hV9 => ?_)
  obtain ⟨b2, rfl, ht_b2⟩ := hV9
  have ht_b2 : t b2 = (10, 0, 2) := ht_b2
  refine lv_aload_n hx hb dX1_save_4 rfl (lv_at hl 0 rfl) ?_
  refine tk_get (ci := 1) (C := RX1) (T := TX1) (N := 11) (sp := (8, 20, 3, 0)) hx hb htl inX1 hown hK hG ht_a0 (by decide) tk_no rfl 1 (by decide) (htl _ mw_114) (fun _ h9 => h9) rfl dX1_save_5 (fun v9 hf3 hV9 => ?_)
  obtain ⟨rfl, ht_ld20⟩ := hV9
  have ht_ld20 : t (ld 20) = (3, 0, 0) := ht_ld20
  refine fx_top (v := .ref (ld 20)) rfl ?_
  refine tk_get (ci := 2) (C := RX2) (T := TX2) (N := 20) (sp := (9, 40, 10, 0)) hx hb htl inX2 hown hK hG ht_ld20 (by decide) tk_no rfl 19 (by decide) (htl _ mw_814) (fun _ h9 => h9) rfl dX1_save_8 (fun v9 hf4 hV9 => ?_)
  obtain ⟨rfl, ht_ld40⟩ := hV9
  have ht_ld40 : t (ld 40) = (10, 0, 0) := ht_ld40
  refine fx_top (v := .ref (ld 40)) rfl ?_
  obtain ⟨v9, hf5, hV9⟩ := tk_peek (ci := 9) (C := RX9) (T := TX9) (N := 11) (sp := (0, (-1), 7, 0)) hG ht_ld40 (by decide) tk_no rfl 5 (by decide) rfl
  obtain ⟨v6, rfl, (ha_v6 : (-1) ≤ v6.toInt), (hb_v6 : v6.toInt ≤ 7)⟩ := hV9
  refine tk_Vv (As := [.ref (ld 40)]) (rest := []) (ci := 9) ⟨hx, hb, hml, hown, hts⟩ hK hG hZ hS (k_X9_copyFrom l D cy ld t 2 0 b2 (ld 40) v6 ht_b2 ht_ld40 (by omega) (by omega) (by omega)) hf5 ⟨callB_of 1 hts (wl_in mw_821) rfl rfl rfl (htl _ mw_76) (htl _ mw_818) hd_yX9_copyFrom ⟨(Nat.le_of_ble_eq_true rfl), (Nat.le_of_ble_eq_true rfl)⟩, htl _ mw_819, htl _ mw_820⟩ ht_b2 (by decide) tk_no rfl (tk_w.pick [0, 1] rfl) rfl hl.1 rfl (Nat.le_of_ble_eq_true rfl) dX1_save_11 ⟨(Nat.le_of_ble_eq_true rfl), (Nat.le_of_ble_eq_true rfl)⟩ (fun H locs hpo hG hS hq9 => ?_)
  have hf5 := hf5.call hq9 (tk_w.no ht_ld40 (by decide))
  have hf8 := hpo
  refine lv_aload_n hx hb dX1_save_14 rfl (lv_at hl 0 rfl) ?_
  refine lv_aload_n hx hb dX1_save_15 rfl (lv_at hl 0 rfl) ?_
  refine tk_get (ci := 1) (C := RX1) (T := TX1) (N := 11) (sp := (0, 0, 15, 0)) hx hb htl inX1 hown hK hG ht_a0 (by decide) tk_no rfl 5 (by decide) (htl _ mw_815) (fun _ h9 => h9) rfl dX1_save_16 (fun v9 hf9 hV9 => ?_)
  obtain ⟨v10, rfl, (ha_v10 : 0 ≤ v10.toInt), (hb_v10 : v10.toInt ≤ 15)⟩ := hV9
  refine tk_put (ci := 1) (v := .int v10) (ty := .int) (C := RX1) (T := TX1) (N := 11) (sp := (0, 0, 15, 0)) hx hb htl inX1 tyX1 tyX1_ok nmX1 hown hK hG hS ht_a0 (by decide) tk_no rfl 9 (by decide) (htl _ mw_816) (fun _ h9 => h9) rfl (tyX1_ok 9 (by decide)) rfl rfl rfl (tk_V0 (by omega) (by omega)) (fun _ h => h) (tk_w.of ht_a0 (by decide) (List.mem_of_getElem? (i := 2) rfl) (Nat.le_refl _) (Nat.le_refl _)) dX1_save_19 (fun H locs hG hS hf11 hq9 hj9 => ?_)
  have hf5 := hf5.kept (hq9 _ (tk_ne ht_ld40 ht_a0 (Or.inl (by decide))))
  have hf8 := hf8.kept (hq9 _ (tk_ne ht_b2 ht_a0 (Or.inl (by decide))))
  refine lv_aload_n hx hb dX1_save_22 rfl (lv_at hl 0 rfl) ?_
  refine lv_aload_n hx hb dX1_save_23 rfl (lv_at hl 0 rfl) ?_
  refine tk_get (ci := 1) (C := RX1) (T := TX1) (N := 11) (sp := (0, 0, 16, 0)) hx hb htl inX1 hown hK hG ht_a0 (by decide) tk_no rfl 0 (by decide) (htl _ mw_267) (fun _ h9 => h9) rfl dX1_save_24 (fun v9 hf13 hV9 => ?_)
  obtain ⟨v14, rfl, (ha_v14 : 0 ≤ v14.toInt), (hb_v14 : v14.toInt ≤ 16)⟩ := hV9
  refine tk_put (ci := 1) (v := .int v14) (ty := .int) (C := RX1) (T := TX1) (N := 11) (sp := (0, 0, 16, 0)) hx hb htl inX1 tyX1 tyX1_ok nmX1 hown hK hG hS ht_a0 (by decide) tk_no rfl 10 (by decide) (htl _ mw_817) (fun _ h9 => h9) rfl (tyX1_ok 10 (by decide)) rfl rfl rfl (tk_V0 (by omega) (by omega)) (fun _ h => h) (tk_w.of ht_a0 (by decide) (List.mem_of_getElem? (i := 2) rfl) (Nat.le_refl _) (Nat.le_refl _)) dX1_save_27 (fun H locs hG hS hf15 hq9 hj9 => ?_)
  have hf5 := hf5.kept (hq9 _ (tk_ne ht_ld40 ht_a0 (Or.inl (by decide))))
  have hf8 := hf8.kept (hq9 _ (tk_ne ht_b2 ht_a0 (Or.inl (by decide))))
  have hf13 := hj9 0 _ (by decide) (by decide) hf13
  refine lv_iconst (v := 0) hx hb dX1_save_30 (by decide) ?_
  refine lv_istore_n (lv' := [(1, .int 0), (0, .ref a0)]) hx hb dX1_save_31 rfl hl (by decide) rfl (fun ls hl => ?_)
  have hl158 : ∀ (N_l158 : Nat) (v17 : Int32) (H : Heap) (locs : List Loc), v17.toInt ≤ 16 → 0 ≤ v17.toInt → (-1) * v17.toInt + 16 < (N_l158 : Int) → tk_G D cy ld t [] H → va_S (tk_w t [(20, 2, 2), (10, 2, 2), (2, 0, 0), (20, 3, 3), (10, 3, 3), (20, 0, 0)]) s.heap H locs → tk_f D H (ld 40) 9 5 (.int v6) → tk_f D H b2 9 5 (.int v6) → tk_f D H a0 1 0 (.int v14) → ∀ ls : Array Slot, lv_has ls 2 [(1, .int v17), (0, .ref a0)] → W p l e ({ frames := 5, cells := 0, slots := 0, locals := 280 }) s m args below meth c H locs 0 0 (MQ below (tv D cy ld t [] (fun H => True) (tk_w t [(20, 2, 2), (10, 2, 2), (2, 0, 0), (20, 3, 3), (10, 3, 3), (20, 0, 0)])) args s 0 0 (tk_w t [(20, 2, 2), (10, 2, 2), (2, 0, 0), (20, 3, 3), (10, 3, 3), (20, 0, 0)])) (F0 m 32 ls []) := by
    intro N_l158
    induction N_l158 with
    | zero => intro v17 H locs hq0_l158 hq1_l158 hm_l158 hG hS hf5 hf8 hf13 ls hl; exfalso; omega
    | succ N_l158 ih_l158 =>
      intro v17 H locs hq0_l158 hq1_l158 hm_l158 hG hS hf5 hf8 hf13 ls hl
      refine lv_iload_n hx hb dX1_save_32 rfl (lv_at hl 0 rfl) ?_
      refine lv_bipush (v := 16) hx hb dX1_save_33 (by decide) ?_
      refine lv_icmp_ge (tgt := 71) hx hb dX1_save_35 (by decide) (fun c9 => ?_) (fun c9 => ?_)
      · have hc159 : 16 ≤ v17.toInt := (fi_le (show (16 : Int32).toInt = 16 by decide) rfl).mp c9
        exact tk_vret hx hb hr hlocks trivial hG hS dX1_save_71
      · have hc159 : ¬ (16 ≤ v17.toInt) := fun h9 => c9 ((fi_le (show (16 : Int32).toInt = 16 by decide) rfl).mpr h9)
        refine lv_aload_n hx hb dX1_save_38 rfl (lv_at hl 1 rfl) ?_
        refine tk_get (ci := 1) (C := RX1) (T := TX1) (N := 11) (sp := (6, 25, 16, 3)) hx hb htl inX1 hown hK hG ht_a0 (by decide) tk_no rfl 7 (by decide) (htl _ mw_112) (fun _ h9 => h9) rfl dX1_save_39 (fun v9 hf160 hV9 => ?_)
        obtain ⟨b161, rfl, ht_b161⟩ := hV9
        have ht_b161 : t b161 = (25, 16, 3) := ht_b161
        refine lv_iload_n hx hb dX1_save_42 rfl (lv_at hl 0 rfl) ?_
        refine tk_aald hx hb hK hG 3 rfl rfl ht_b161 (by decide) (fun _ h => h) tk_no rfl (by omega) (by omega) dX1_save_43 (fun o162 ht_o162 => ?_)
        obtain ⟨b163, rfl, ht_b163⟩ := ht_o162
        have ht_b163 : t b163 = (10, 0, 3) := ht_b163
        refine fx_top (v := .ref b163) rfl ?_
        refine lv_aload_n hx hb dX1_save_44 rfl (lv_at hl 1 rfl) ?_
        refine tk_get (ci := 1) (C := RX1) (T := TX1) (N := 11) (sp := (6, 25, 16, 1)) hx hb htl inX1 hown hK hG ht_a0 (by decide) tk_no rfl 3 (by decide) (htl _ mw_109) (fun _ h9 => h9) rfl dX1_save_45 (fun v9 hf164 hV9 => ?_)
        obtain ⟨b165, rfl, ht_b165⟩ := hV9
        have ht_b165 : t b165 = (25, 16, 1) := ht_b165
        refine lv_iload_n hx hb dX1_save_48 rfl (lv_at hl 0 rfl) ?_
        refine tk_aald hx hb hK hG 3 rfl rfl ht_b165 (by decide) (fun _ h => h) tk_no rfl (by omega) (by omega) dX1_save_49 (fun o166 ht_o166 => ?_)
        obtain ⟨b167, rfl, ht_b167⟩ := ht_o166
        have ht_b167 : t b167 = (10, 0, 1) := ht_b167
        refine fx_top (v := .ref b167) rfl ?_
        obtain ⟨v9, hf168, hV9⟩ := tk_peek (ci := 9) (C := RX9) (T := TX9) (N := 11) (sp := (0, (-1), 7, 0)) hG ht_b167 (by decide) tk_no rfl 5 (by decide) rfl
        obtain ⟨v169, rfl, (ha_v169 : (-1) ≤ v169.toInt), (hb_v169 : v169.toInt ≤ 7)⟩ := hV9
        refine tk_Vv (As := [.ref b167]) (rest := []) (ci := 9) ⟨hx, hb, hml, hown, hts⟩ hK hG hZ hS (k_X9_copyFrom l D cy ld t 3 1 b163 b167 v169 ht_b163 ht_b167 (by omega) (by omega) (by omega)) hf168 ⟨callB_of 1 hts (wl_in mw_821) rfl rfl rfl (htl _ mw_76) (htl _ mw_818) hd_yX9_copyFrom ⟨(Nat.le_of_ble_eq_true rfl), (Nat.le_of_ble_eq_true rfl)⟩, htl _ mw_819, htl _ mw_820⟩ ht_b163 (by decide) tk_no rfl (tk_w.pick [3, 4] rfl) rfl hl.1 rfl (Nat.le_of_ble_eq_true rfl) dX1_save_50 ⟨(Nat.le_of_ble_eq_true rfl), (Nat.le_of_ble_eq_true rfl)⟩ (fun H locs hpo hG hS hq9 => ?_)
        have hf5 := hf5.call hq9 (tk_w.no ht_ld40 (by decide))
        have hf8 := hf8.call hq9 (tk_w.no ht_b2 (by decide))
        have hf13 := hf13.call hq9 (tk_w.no ht_a0 (by decide))
        have hf168 := hf168.call hq9 (tk_w.no ht_b167 (by decide))
        have hf171 := hpo
        refine lv_aload_n hx hb dX1_save_53 rfl (lv_at hl 1 rfl) ?_
        refine tk_get (ci := 1) (C := RX1) (T := TX1) (N := 11) (sp := (6, 20, 16, 0)) hx hb htl inX1 hown hK hG ht_a0 (by decide) tk_no rfl 8 (by decide) (htl _ mw_113) (fun _ h9 => h9) rfl dX1_save_54 (fun v9 hf172 hV9 => ?_)
        obtain ⟨b173, rfl, ht_b173⟩ := hV9
        have ht_b173 : t b173 = (20, 16, 0) := ht_b173
        refine lv_iload_n hx hb dX1_save_57 rfl (lv_at hl 0 rfl) ?_
        refine lv_aload_n hx hb dX1_save_58 rfl (lv_at hl 1 rfl) ?_
        refine tk_get (ci := 1) (C := RX1) (T := TX1) (N := 11) (sp := (6, 20, 16, 0)) hx hb htl inX1 hown hK hG ht_a0 (by decide) tk_no rfl 4 (by decide) (htl _ mw_110) (fun _ h9 => h9) rfl dX1_save_59 (fun v9 hf174 hV9 => ?_)
        obtain ⟨b175, rfl, ht_b175⟩ := hV9
        have ht_b175 : t b175 = (20, 16, 0) := ht_b175
        refine lv_iload_n hx hb dX1_save_62 rfl (lv_at hl 0 rfl) ?_
        refine tk_iald hx hb hK hG ht_b175 (by decide) (fun _ h => h) tk_no rfl (by omega) (by omega) dX1_save_63 (fun v176 _ _ => ?_)
        have hr_v176 := tk_rng v176
        refine tk_iast hx hb hK hG hS ht_b173 (by decide) (fun _ => Iff.rfl) tk_no rfl (by omega) (by omega) trivial (tk_w.of ht_b173 (by decide) (List.mem_of_getElem? (i := 5) rfl) (Nat.le_refl _) (Nat.le_refl _)) dX1_save_64 (fun H locs hG hS hq9 => ?_)
        have hf5 := hf5.kept (hq9 _ (tk_ne ht_ld40 ht_b173 (Or.inl (by decide))))
        have hf8 := hf8.kept (hq9 _ (tk_ne ht_b2 ht_b173 (Or.inl (by decide))))
        have hf13 := hf13.kept (hq9 _ (tk_ne ht_a0 ht_b173 (Or.inl (by decide))))
        have hf168 := hf168.kept (hq9 _ (tk_ne ht_b167 ht_b173 (Or.inl (by decide))))
        have hf171 := hf171.kept (hq9 _ (tk_ne ht_b163 ht_b173 (Or.inl (by decide))))
        obtain ⟨v178, h_v178, e_v178⟩ := tk_inc v17 1 (by decide) (by omega) (by omega)
        refine lv_iinc (v := v178) (lv' := [(1, .int v178), (0, .ref a0)]) hx hb dX1_save_65 hl (k := 0) rfl e_v178 (by decide) rfl (fun ls hl => ?_)
        refine lv_goto (tgt := 32) hx hb dX1_save_68 (by decide) ?_
        exact ih_l158 v178 _ _ (by omega) (by omega) (by omega) hG hS hf5 hf8 hf13 _ (lv_sub hl [0, 1] rfl)
  have hk_0 : (0 : Int32).toInt = 0 := by decide
  exact hl158 17 0 _ _ (by omega) (by omega) (by omega) hG hS hf5 hf8 hf13 _ (lv_sub hl [0, 1] rfl)
theorem dX1_restore_0 : decode cX1_restore 0 = .ok (.aload_n 0, 1) := by decide +kernel
theorem dX1_restore_1 : decode cX1_restore 1 = .ok (.getfield 32, 3) := by decide +kernel
theorem dX1_restore_4 : decode cX1_restore 4 = .ok (.getfield 50, 3) := by decide +kernel
theorem dX1_restore_7 : decode cX1_restore 7 = .ok (.aload_n 0, 1) := by decide +kernel
theorem dX1_restore_8 : decode cX1_restore 8 = .ok (.getfield 22, 3) := by decide +kernel
theorem dX1_restore_11 : decode cX1_restore 11 = .ok (.invokevirtual 105, 3) := by decide +kernel
theorem dX1_restore_14 : decode cX1_restore 14 = .ok (.aload_n 0, 1) := by decide +kernel
theorem dX1_restore_15 : decode cX1_restore 15 = .ok (.aload_n 0, 1) := by decide +kernel
theorem dX1_restore_16 : decode cX1_restore 16 = .ok (.getfield 109, 3) := by decide +kernel
theorem dX1_restore_19 : decode cX1_restore 19 = .ok (.putfield 102, 3) := by decide +kernel
theorem dX1_restore_22 : decode cX1_restore 22 = .ok (.aload_n 0, 1) := by decide +kernel
theorem dX1_restore_23 : decode cX1_restore 23 = .ok (.aload_n 0, 1) := by decide +kernel
theorem dX1_restore_24 : decode cX1_restore 24 = .ok (.getfield 112, 3) := by decide +kernel
theorem dX1_restore_27 : decode cX1_restore 27 = .ok (.putfield 99, 3) := by decide +kernel
theorem dX1_restore_30 : decode cX1_restore 30 = .ok (.iconst 0, 1) := by decide +kernel
theorem dX1_restore_31 : decode cX1_restore 31 = .ok (.istore_n 1, 1) := by decide +kernel
theorem dX1_restore_32 : decode cX1_restore 32 = .ok (.iload_n 1, 1) := by decide +kernel
theorem dX1_restore_33 : decode cX1_restore 33 = .ok (.bipush 16, 2) := by decide +kernel
theorem dX1_restore_35 : decode cX1_restore 35 = .ok (.if_icmp .ge 36, 3) := by decide +kernel
theorem dX1_restore_71 : decode cX1_restore 71 = .ok (.return_, 1) := by decide +kernel
theorem dX1_restore_38 : decode cX1_restore 38 = .ok (.aload_n 0, 1) := by decide +kernel
theorem dX1_restore_39 : decode cX1_restore 39 = .ok (.getfield 11, 3) := by decide +kernel
theorem dX1_restore_42 : decode cX1_restore 42 = .ok (.iload_n 1, 1) := by decide +kernel
theorem dX1_restore_43 : decode cX1_restore 43 = .ok (.aaload, 1) := by decide +kernel
theorem dX1_restore_44 : decode cX1_restore 44 = .ok (.aload_n 0, 1) := by decide +kernel
theorem dX1_restore_45 : decode cX1_restore 45 = .ok (.getfield 26, 3) := by decide +kernel
theorem dX1_restore_48 : decode cX1_restore 48 = .ok (.iload_n 1, 1) := by decide +kernel
theorem dX1_restore_49 : decode cX1_restore 49 = .ok (.aaload, 1) := by decide +kernel
theorem dX1_restore_50 : decode cX1_restore 50 = .ok (.invokevirtual 105, 3) := by decide +kernel
theorem dX1_restore_53 : decode cX1_restore 53 = .ok (.aload_n 0, 1) := by decide +kernel
theorem dX1_restore_54 : decode cX1_restore 54 = .ok (.getfield 17, 3) := by decide +kernel
theorem dX1_restore_57 : decode cX1_restore 57 = .ok (.iload_n 1, 1) := by decide +kernel
theorem dX1_restore_58 : decode cX1_restore 58 = .ok (.aload_n 0, 1) := by decide +kernel
theorem dX1_restore_59 : decode cX1_restore 59 = .ok (.getfield 29, 3) := by decide +kernel
theorem dX1_restore_62 : decode cX1_restore 62 = .ok (.iload_n 1, 1) := by decide +kernel
theorem dX1_restore_63 : decode cX1_restore 63 = .ok (.iaload, 1) := by decide +kernel
theorem dX1_restore_64 : decode cX1_restore 64 = .ok (.iastore, 1) := by decide +kernel
theorem dX1_restore_65 : decode cX1_restore 65 = .ok (.iinc 1 1, 3) := by decide +kernel
theorem dX1_restore_68 : decode cX1_restore 68 = .ok (.goto (-36), 3) := by decide +kernel
set_option maxHeartbeats 4000000 in
set_option maxRecDepth 100000 in
theorem k_X1_restore (l : Launch) (D : va_G) (cy : Nat → ClassId) (ld : Nat → Nat) (t : tk_T) (a0 : Nat) (ht_a0 : t a0 = (2, 0, 0)) : Met l yX1_restore (wl yX1_restore cX1_restore 2 none) ({ frames := 5, cells := 0, slots := 0, locals := 280 }) (tp D cy ld t [] [.ref a0] (fun H => True)) (tv D cy ld t [] (fun H => True) (tk_w t [(20, 0, 0), (10, 0, 0), (2, 0, 0), (20, 1, 1), (10, 1, 1)])) 0 0 (tk_w t [(20, 0, 0), (10, 0, 0), (2, 0, 0), (20, 1, 1), (10, 1, 1)]) := by
  refine tk_met (y := yX1_restore) (cc := cX1_restore) (maxL := 2) (ret := none) (av := [.ref a0]) _ _ (by decide) (Nat.le_of_ble_eq_true rfl) ?_
  intro p e s m args below meth c hx hb hr hml hts htl hown hlocks hK H locs hH hG hS hB hZ ls hl
  have hown : s.vm.findClass RX1 = some m.cls := hown
  have hl : lv_has ls 2 [(0, .ref a0)] := hl
  refine lv_aload_n hx hb dX1_restore_0 rfl (lv_at hl 0 rfl) ?_
  refine tk_get (ci := 1) (C := RX1) (T := TX1) (N := 11) (sp := (8, 20, 3, 0)) hx hb htl inX1 hown hK hG ht_a0 (by decide) tk_no rfl 1 (by decide) (htl _ mw_114) (fun _ h9 => h9) rfl dX1_restore_1 (fun v9 hf1 hV9 => ?_)
  obtain ⟨rfl, ht_ld20⟩ := hV9
  have ht_ld20 : t (ld 20) = (3, 0, 0) := ht_ld20
  refine fx_top (v := .ref (ld 20)) rfl ?_
  refine tk_get (ci := 2) (C := RX2) (T := TX2) (N := 20) (sp := (9, 40, 10, 0)) hx hb htl inX2 hown hK hG ht_ld20 (by decide) tk_no rfl 19 (by decide) (htl _ mw_814) (fun _ h9 => h9) rfl dX1_restore_4 (fun v9 hf2 hV9 => ?_)
  obtain ⟨rfl, ht_ld40⟩ := hV9
  have ht_ld40 : t (ld 40) = (10, 0, 0) := ht_ld40
  refine fx_top (v := .ref (ld 40)) rfl ?_
  refine lv_aload_n hx hb dX1_restore_7 rfl (lv_at hl 0 rfl) ?_
  refine tk_get (ci := 1) (C := RX1) (T := TX1) (N := 11) (sp := (6, 10, 0, 2)) hx hb htl inX1 hown hK hG ht_a0 (by decide) tk_no rfl 6 (by decide) (htl _ mw_111) (fun _ h9 => h9) rfl dX1_restore_8 (fun v9 hf3 hV9 => ?_)
  obtain ⟨b4, rfl, ht_b4⟩ := hV9
  have ht_b4 : t b4 = (10, 0, 2) := ht_b4
  obtain ⟨v9, hf5, hV9⟩ := tk_peek (ci := 9) (C := RX9) (T := TX9) (N := 11) (sp := (0, (-1), 7, 0)) hG ht_b4 (by decide) tk_no rfl 5 (by decide) rfl
  obtain ⟨v6, rfl, (ha_v6 : (-1) ≤ v6.toInt), (hb_v6 : v6.toInt ≤ 7)⟩ := hV9
  refine tk_Vv (As := [.ref b4]) (rest := []) (ci := 9) ⟨hx, hb, hml, hown, hts⟩ hK hG hZ hS (k_X9_copyFrom l D cy ld t 0 2 (ld 40) b4 v6 ht_ld40 ht_b4 (by omega) (by omega) (by omega)) hf5 ⟨callB_of 1 hts (wl_in mw_821) rfl rfl rfl (htl _ mw_76) (htl _ mw_818) hd_yX9_copyFrom ⟨(Nat.le_of_ble_eq_true rfl), (Nat.le_of_ble_eq_true rfl)⟩, htl _ mw_819, htl _ mw_820⟩ ht_ld40 (by decide) tk_no rfl (tk_w.pick [0, 1] rfl) rfl hl.1 rfl (Nat.le_of_ble_eq_true rfl) dX1_restore_11 ⟨(Nat.le_of_ble_eq_true rfl), (Nat.le_of_ble_eq_true rfl)⟩ (fun H locs hpo hG hS hq9 => ?_)
  have hf5 := hf5.call hq9 (tk_w.no ht_b4 (by decide))
  have hf8 := hpo
  refine lv_aload_n hx hb dX1_restore_14 rfl (lv_at hl 0 rfl) ?_
  refine lv_aload_n hx hb dX1_restore_15 rfl (lv_at hl 0 rfl) ?_
  refine tk_get (ci := 1) (C := RX1) (T := TX1) (N := 11) (sp := (0, 0, 15, 0)) hx hb htl inX1 hown hK hG ht_a0 (by decide) tk_no rfl 9 (by decide) (htl _ mw_816) (fun _ h9 => h9) rfl dX1_restore_16 (fun v9 hf9 hV9 => ?_)
  obtain ⟨v10, rfl, (ha_v10 : 0 ≤ v10.toInt), (hb_v10 : v10.toInt ≤ 15)⟩ := hV9
  refine tk_put (ci := 1) (v := .int v10) (ty := .int) (C := RX1) (T := TX1) (N := 11) (sp := (0, 0, 15, 0)) hx hb htl inX1 tyX1 tyX1_ok nmX1 hown hK hG hS ht_a0 (by decide) tk_no rfl 5 (by decide) (htl _ mw_815) (fun _ h9 => h9) rfl (tyX1_ok 5 (by decide)) rfl rfl rfl (tk_V0 (by omega) (by omega)) (fun _ h => h) (tk_w.of ht_a0 (by decide) (List.mem_of_getElem? (i := 2) rfl) (Nat.le_refl _) (Nat.le_refl _)) dX1_restore_19 (fun H locs hG hS hf11 hq9 hj9 => ?_)
  have hf5 := hf5.kept (hq9 _ (tk_ne ht_b4 ht_a0 (Or.inl (by decide))))
  have hf8 := hf8.kept (hq9 _ (tk_ne ht_ld40 ht_a0 (Or.inl (by decide))))
  refine lv_aload_n hx hb dX1_restore_22 rfl (lv_at hl 0 rfl) ?_
  refine lv_aload_n hx hb dX1_restore_23 rfl (lv_at hl 0 rfl) ?_
  refine tk_get (ci := 1) (C := RX1) (T := TX1) (N := 11) (sp := (0, 0, 16, 0)) hx hb htl inX1 hown hK hG ht_a0 (by decide) tk_no rfl 10 (by decide) (htl _ mw_817) (fun _ h9 => h9) rfl dX1_restore_24 (fun v9 hf13 hV9 => ?_)
  obtain ⟨v14, rfl, (ha_v14 : 0 ≤ v14.toInt), (hb_v14 : v14.toInt ≤ 16)⟩ := hV9
  refine tk_put (ci := 1) (v := .int v14) (ty := .int) (C := RX1) (T := TX1) (N := 11) (sp := (0, 0, 16, 0)) hx hb htl inX1 tyX1 tyX1_ok nmX1 hown hK hG hS ht_a0 (by decide) tk_no rfl 0 (by decide) (htl _ mw_267) (fun _ h9 => h9) rfl (tyX1_ok 0 (by decide)) rfl rfl rfl (tk_V0 (by omega) (by omega)) (fun _ h => h) (tk_w.of ht_a0 (by decide) (List.mem_of_getElem? (i := 2) rfl) (Nat.le_refl _) (Nat.le_refl _)) dX1_restore_27 (fun H locs hG hS hf15 hq9 hj9 => ?_)
  have hf5 := hf5.kept (hq9 _ (tk_ne ht_b4 ht_a0 (Or.inl (by decide))))
  have hf8 := hf8.kept (hq9 _ (tk_ne ht_ld40 ht_a0 (Or.inl (by decide))))
  refine lv_iconst (v := 0) hx hb dX1_restore_30 (by decide) ?_
  refine lv_istore_n (lv' := [(1, .int 0), (0, .ref a0)]) hx hb dX1_restore_31 rfl hl (by decide) rfl (fun ls hl => ?_)
  have hl158 : ∀ (N_l158 : Nat) (v17 : Int32) (H : Heap) (locs : List Loc), v17.toInt ≤ 16 → 0 ≤ v17.toInt → (-1) * v17.toInt + 16 < (N_l158 : Int) → tk_G D cy ld t [] H → va_S (tk_w t [(20, 0, 0), (10, 0, 0), (2, 0, 0), (20, 1, 1), (10, 1, 1)]) s.heap H locs → tk_f D H b4 9 5 (.int v6) → tk_f D H (ld 40) 9 5 (.int v6) → tk_f D H a0 1 0 (.int v14) → ∀ ls : Array Slot, lv_has ls 2 [(1, .int v17), (0, .ref a0)] → W p l e ({ frames := 5, cells := 0, slots := 0, locals := 280 }) s m args below meth c H locs 0 0 (MQ below (tv D cy ld t [] (fun H => True) (tk_w t [(20, 0, 0), (10, 0, 0), (2, 0, 0), (20, 1, 1), (10, 1, 1)])) args s 0 0 (tk_w t [(20, 0, 0), (10, 0, 0), (2, 0, 0), (20, 1, 1), (10, 1, 1)])) (F0 m 32 ls []) := by
    intro N_l158
    induction N_l158 with
    | zero => intro v17 H locs hq0_l158 hq1_l158 hm_l158 hG hS hf5 hf8 hf15 ls hl; exfalso; omega
    | succ N_l158 ih_l158 =>
      intro v17 H locs hq0_l158 hq1_l158 hm_l158 hG hS hf5 hf8 hf15 ls hl
      refine lv_iload_n hx hb dX1_restore_32 rfl (lv_at hl 0 rfl) ?_
      refine lv_bipush (v := 16) hx hb dX1_restore_33 (by decide) ?_
      refine lv_icmp_ge (tgt := 71) hx hb dX1_restore_35 (by decide) (fun c9 => ?_) (fun c9 => ?_)
      · have hc159 : 16 ≤ v17.toInt := (fi_le (show (16 : Int32).toInt = 16 by decide) rfl).mp c9
        exact tk_vret hx hb hr hlocks trivial hG hS dX1_restore_71
      · have hc159 : ¬ (16 ≤ v17.toInt) := fun h9 => c9 ((fi_le (show (16 : Int32).toInt = 16 by decide) rfl).mpr h9)
        refine lv_aload_n hx hb dX1_restore_38 rfl (lv_at hl 1 rfl) ?_
        refine tk_get (ci := 1) (C := RX1) (T := TX1) (N := 11) (sp := (6, 25, 16, 1)) hx hb htl inX1 hown hK hG ht_a0 (by decide) tk_no rfl 3 (by decide) (htl _ mw_109) (fun _ h9 => h9) rfl dX1_restore_39 (fun v9 hf160 hV9 => ?_)
        obtain ⟨b161, rfl, ht_b161⟩ := hV9
        have ht_b161 : t b161 = (25, 16, 1) := ht_b161
        refine lv_iload_n hx hb dX1_restore_42 rfl (lv_at hl 0 rfl) ?_
        refine tk_aald hx hb hK hG 3 rfl rfl ht_b161 (by decide) (fun _ h => h) tk_no rfl (by omega) (by omega) dX1_restore_43 (fun o162 ht_o162 => ?_)
        obtain ⟨b163, rfl, ht_b163⟩ := ht_o162
        have ht_b163 : t b163 = (10, 0, 1) := ht_b163
        refine fx_top (v := .ref b163) rfl ?_
        refine lv_aload_n hx hb dX1_restore_44 rfl (lv_at hl 1 rfl) ?_
        refine tk_get (ci := 1) (C := RX1) (T := TX1) (N := 11) (sp := (6, 25, 16, 3)) hx hb htl inX1 hown hK hG ht_a0 (by decide) tk_no rfl 7 (by decide) (htl _ mw_112) (fun _ h9 => h9) rfl dX1_restore_45 (fun v9 hf164 hV9 => ?_)
        obtain ⟨b165, rfl, ht_b165⟩ := hV9
        have ht_b165 : t b165 = (25, 16, 3) := ht_b165
        refine lv_iload_n hx hb dX1_restore_48 rfl (lv_at hl 0 rfl) ?_
        refine tk_aald hx hb hK hG 3 rfl rfl ht_b165 (by decide) (fun _ h => h) tk_no rfl (by omega) (by omega) dX1_restore_49 (fun o166 ht_o166 => ?_)
        obtain ⟨b167, rfl, ht_b167⟩ := ht_o166
        have ht_b167 : t b167 = (10, 0, 3) := ht_b167
        refine fx_top (v := .ref b167) rfl ?_
        obtain ⟨v9, hf168, hV9⟩ := tk_peek (ci := 9) (C := RX9) (T := TX9) (N := 11) (sp := (0, (-1), 7, 0)) hG ht_b167 (by decide) tk_no rfl 5 (by decide) rfl
        obtain ⟨v169, rfl, (ha_v169 : (-1) ≤ v169.toInt), (hb_v169 : v169.toInt ≤ 7)⟩ := hV9
        refine tk_Vv (As := [.ref b167]) (rest := []) (ci := 9) ⟨hx, hb, hml, hown, hts⟩ hK hG hZ hS (k_X9_copyFrom l D cy ld t 1 3 b163 b167 v169 ht_b163 ht_b167 (by omega) (by omega) (by omega)) hf168 ⟨callB_of 1 hts (wl_in mw_821) rfl rfl rfl (htl _ mw_76) (htl _ mw_818) hd_yX9_copyFrom ⟨(Nat.le_of_ble_eq_true rfl), (Nat.le_of_ble_eq_true rfl)⟩, htl _ mw_819, htl _ mw_820⟩ ht_b163 (by decide) tk_no rfl (tk_w.pick [3, 4] rfl) rfl hl.1 rfl (Nat.le_of_ble_eq_true rfl) dX1_restore_50 ⟨(Nat.le_of_ble_eq_true rfl), (Nat.le_of_ble_eq_true rfl)⟩ (fun H locs hpo hG hS hq9 => ?_)
        have hf5 := hf5.call hq9 (tk_w.no ht_b4 (by decide))
        have hf8 := hf8.call hq9 (tk_w.no ht_ld40 (by decide))
        have hf15 := hf15.call hq9 (tk_w.no ht_a0 (by decide))
        have hf168 := hf168.call hq9 (tk_w.no ht_b167 (by decide))
        have hf171 := hpo
        refine lv_aload_n hx hb dX1_restore_53 rfl (lv_at hl 1 rfl) ?_
        refine tk_get (ci := 1) (C := RX1) (T := TX1) (N := 11) (sp := (6, 20, 16, 0)) hx hb htl inX1 hown hK hG ht_a0 (by decide) tk_no rfl 4 (by decide) (htl _ mw_110) (fun _ h9 => h9) rfl dX1_restore_54 (fun v9 hf172 hV9 => ?_)
        obtain ⟨b173, rfl, ht_b173⟩ := hV9
        have ht_b173 : t b173 = (20, 16, 0) := ht_b173
        refine lv_iload_n hx hb dX1_restore_57 rfl (lv_at hl 0 rfl) ?_
        refine lv_aload_n hx hb dX1_restore_58 rfl (lv_at hl 1 rfl) ?_
        refine tk_get (ci := 1) (C := RX1) (T := TX1) (N := 11) (sp := (6, 20, 16, 0)) hx hb htl inX1 hown hK hG ht_a0 (by decide) tk_no rfl 8 (by decide) (htl _ mw_113) (fun _ h9 => h9) rfl dX1_restore_59 (fun v9 hf174 hV9 => ?_)
        obtain ⟨b175, rfl, ht_b175⟩ := hV9
        have ht_b175 : t b175 = (20, 16, 0) := ht_b175
        refine lv_iload_n hx hb dX1_restore_62 rfl (lv_at hl 0 rfl) ?_
        refine tk_iald hx hb hK hG ht_b175 (by decide) (fun _ h => h) tk_no rfl (by omega) (by omega) dX1_restore_63 (fun v176 _ _ => ?_)
        have hr_v176 := tk_rng v176
        refine tk_iast hx hb hK hG hS ht_b173 (by decide) (fun _ => Iff.rfl) tk_no rfl (by omega) (by omega) trivial (tk_w.of ht_b173 (by decide) (List.mem_of_getElem? (i := 0) rfl) (Nat.le_refl _) (Nat.le_refl _)) dX1_restore_64 (fun H locs hG hS hq9 => ?_)
        have hf5 := hf5.kept (hq9 _ (tk_ne ht_b4 ht_b173 (Or.inl (by decide))))
        have hf8 := hf8.kept (hq9 _ (tk_ne ht_ld40 ht_b173 (Or.inl (by decide))))
        have hf15 := hf15.kept (hq9 _ (tk_ne ht_a0 ht_b173 (Or.inl (by decide))))
        have hf168 := hf168.kept (hq9 _ (tk_ne ht_b167 ht_b173 (Or.inl (by decide))))
        have hf171 := hf171.kept (hq9 _ (tk_ne ht_b163 ht_b173 (Or.inl (by decide))))
        obtain ⟨v178, h_v178, e_v178⟩ := tk_inc v17 1 (by decide) (by omega) (by omega)
        refine lv_iinc (v := v178) (lv' := [(1, .int v178), (0, .ref a0)]) hx hb dX1_restore_65 hl (k := 0) rfl e_v178 (by decide) rfl (fun ls hl => ?_)
        refine lv_goto (tgt := 32) hx hb dX1_restore_68 (by decide) ?_
        exact ih_l158 v178 _ _ (by omega) (by omega) (by omega) hG hS hf5 hf8 hf15 _ (lv_sub hl [0, 1] rfl)
  have hk_0 : (0 : Int32).toInt = 0 := by decide
  exact hl158 17 0 _ _ (by omega) (by omega) (by omega) hG hS hf5 hf8 hf15 _ (lv_sub hl [0, 1] rfl)
theorem dX2_copyFrom_0 : decode cX2_copyFrom 0 = .ok (.aload_n 0, 1) := by decide +kernel
theorem dX2_copyFrom_1 : decode cX2_copyFrom 1 = .ok (.aload_n 1, 1) := by decide +kernel
theorem dX2_copyFrom_2 : decode cX2_copyFrom 2 = .ok (.getfield 62, 3) := by decide +kernel
theorem dX2_copyFrom_5 : decode cX2_copyFrom 5 = .ok (.putfield 62, 3) := by decide +kernel
theorem dX2_copyFrom_8 : decode cX2_copyFrom 8 = .ok (.aload_n 1, 1) := by decide +kernel
theorem dX2_copyFrom_9 : decode cX2_copyFrom 9 = .ok (.getfield 9, 3) := by decide +kernel
theorem dX2_copyFrom_12 : decode cX2_copyFrom 12 = .ok (.iconst 0, 1) := by decide +kernel
theorem dX2_copyFrom_13 : decode cX2_copyFrom 13 = .ok (.aload_n 0, 1) := by decide +kernel
theorem dX2_copyFrom_14 : decode cX2_copyFrom 14 = .ok (.getfield 9, 3) := by decide +kernel
theorem dX2_copyFrom_17 : decode cX2_copyFrom 17 = .ok (.iconst 0, 1) := by decide +kernel
theorem dX2_copyFrom_18 : decode cX2_copyFrom 18 = .ok (.bipush 8, 2) := by decide +kernel
theorem dX2_copyFrom_20 : decode cX2_copyFrom 20 = .ok (.invokestatic 65, 3) := by decide +kernel
theorem dX2_copyFrom_23 : decode cX2_copyFrom 23 = .ok (.aload_n 1, 1) := by decide +kernel
theorem dX2_copyFrom_24 : decode cX2_copyFrom 24 = .ok (.getfield 15, 3) := by decide +kernel
theorem dX2_copyFrom_27 : decode cX2_copyFrom 27 = .ok (.iconst 0, 1) := by decide +kernel
theorem dX2_copyFrom_28 : decode cX2_copyFrom 28 = .ok (.aload_n 0, 1) := by decide +kernel
theorem dX2_copyFrom_29 : decode cX2_copyFrom 29 = .ok (.getfield 15, 3) := by decide +kernel
theorem dX2_copyFrom_32 : decode cX2_copyFrom 32 = .ok (.iconst 0, 1) := by decide +kernel
theorem dX2_copyFrom_33 : decode cX2_copyFrom 33 = .ok (.bipush 8, 2) := by decide +kernel
theorem dX2_copyFrom_35 : decode cX2_copyFrom 35 = .ok (.invokestatic 65, 3) := by decide +kernel
theorem dX2_copyFrom_38 : decode cX2_copyFrom 38 = .ok (.aload_n 1, 1) := by decide +kernel
theorem dX2_copyFrom_39 : decode cX2_copyFrom 39 = .ok (.getfield 18, 3) := by decide +kernel
theorem dX2_copyFrom_42 : decode cX2_copyFrom 42 = .ok (.iconst 0, 1) := by decide +kernel
theorem dX2_copyFrom_43 : decode cX2_copyFrom 43 = .ok (.aload_n 0, 1) := by decide +kernel
theorem dX2_copyFrom_44 : decode cX2_copyFrom 44 = .ok (.getfield 18, 3) := by decide +kernel
theorem dX2_copyFrom_47 : decode cX2_copyFrom 47 = .ok (.iconst 0, 1) := by decide +kernel
theorem dX2_copyFrom_48 : decode cX2_copyFrom 48 = .ok (.bipush 8, 2) := by decide +kernel
theorem dX2_copyFrom_50 : decode cX2_copyFrom 50 = .ok (.invokestatic 65, 3) := by decide +kernel
theorem dX2_copyFrom_53 : decode cX2_copyFrom 53 = .ok (.aload_n 0, 1) := by decide +kernel
theorem dX2_copyFrom_54 : decode cX2_copyFrom 54 = .ok (.aload_n 1, 1) := by decide +kernel
theorem dX2_copyFrom_55 : decode cX2_copyFrom 55 = .ok (.getfield 71, 3) := by decide +kernel
theorem dX2_copyFrom_58 : decode cX2_copyFrom 58 = .ok (.putfield 71, 3) := by decide +kernel
theorem dX2_copyFrom_61 : decode cX2_copyFrom 61 = .ok (.aload_n 1, 1) := by decide +kernel
theorem dX2_copyFrom_62 : decode cX2_copyFrom 62 = .ok (.getfield 21, 3) := by decide +kernel
theorem dX2_copyFrom_65 : decode cX2_copyFrom 65 = .ok (.iconst 0, 1) := by decide +kernel
theorem dX2_copyFrom_66 : decode cX2_copyFrom 66 = .ok (.aload_n 0, 1) := by decide +kernel
theorem dX2_copyFrom_67 : decode cX2_copyFrom 67 = .ok (.getfield 21, 3) := by decide +kernel
theorem dX2_copyFrom_70 : decode cX2_copyFrom 70 = .ok (.iconst 0, 1) := by decide +kernel
theorem dX2_copyFrom_71 : decode cX2_copyFrom 71 = .ok (.bipush 10, 2) := by decide +kernel
theorem dX2_copyFrom_73 : decode cX2_copyFrom 73 = .ok (.invokestatic 65, 3) := by decide +kernel
theorem dX2_copyFrom_76 : decode cX2_copyFrom 76 = .ok (.aload_n 1, 1) := by decide +kernel
theorem dX2_copyFrom_77 : decode cX2_copyFrom 77 = .ok (.getfield 24, 3) := by decide +kernel
theorem dX2_copyFrom_80 : decode cX2_copyFrom 80 = .ok (.iconst 0, 1) := by decide +kernel
theorem dX2_copyFrom_81 : decode cX2_copyFrom 81 = .ok (.aload_n 0, 1) := by decide +kernel
theorem dX2_copyFrom_82 : decode cX2_copyFrom 82 = .ok (.getfield 24, 3) := by decide +kernel
theorem dX2_copyFrom_85 : decode cX2_copyFrom 85 = .ok (.iconst 0, 1) := by decide +kernel
theorem dX2_copyFrom_86 : decode cX2_copyFrom 86 = .ok (.bipush 10, 2) := by decide +kernel
theorem dX2_copyFrom_88 : decode cX2_copyFrom 88 = .ok (.invokestatic 65, 3) := by decide +kernel
theorem dX2_copyFrom_91 : decode cX2_copyFrom 91 = .ok (.aload_n 0, 1) := by decide +kernel
theorem dX2_copyFrom_92 : decode cX2_copyFrom 92 = .ok (.aload_n 1, 1) := by decide +kernel
theorem dX2_copyFrom_93 : decode cX2_copyFrom 93 = .ok (.getfield 74, 3) := by decide +kernel
theorem dX2_copyFrom_96 : decode cX2_copyFrom 96 = .ok (.putfield 74, 3) := by decide +kernel
theorem dX2_copyFrom_99 : decode cX2_copyFrom 99 = .ok (.aload_n 1, 1) := by decide +kernel
theorem dX2_copyFrom_100 : decode cX2_copyFrom 100 = .ok (.getfield 27, 3) := by decide +kernel
theorem dX2_copyFrom_103 : decode cX2_copyFrom 103 = .ok (.iconst 0, 1) := by decide +kernel
theorem dX2_copyFrom_104 : decode cX2_copyFrom 104 = .ok (.aload_n 0, 1) := by decide +kernel
theorem dX2_copyFrom_105 : decode cX2_copyFrom 105 = .ok (.getfield 27, 3) := by decide +kernel
theorem dX2_copyFrom_108 : decode cX2_copyFrom 108 = .ok (.iconst 0, 1) := by decide +kernel
theorem dX2_copyFrom_109 : decode cX2_copyFrom 109 = .ok (.bipush 10, 2) := by decide +kernel
theorem dX2_copyFrom_111 : decode cX2_copyFrom 111 = .ok (.invokestatic 65, 3) := by decide +kernel
theorem dX2_copyFrom_114 : decode cX2_copyFrom 114 = .ok (.aload_n 1, 1) := by decide +kernel
theorem dX2_copyFrom_115 : decode cX2_copyFrom 115 = .ok (.getfield 30, 3) := by decide +kernel
theorem dX2_copyFrom_118 : decode cX2_copyFrom 118 = .ok (.iconst 0, 1) := by decide +kernel
theorem dX2_copyFrom_119 : decode cX2_copyFrom 119 = .ok (.aload_n 0, 1) := by decide +kernel
theorem dX2_copyFrom_120 : decode cX2_copyFrom 120 = .ok (.getfield 30, 3) := by decide +kernel
theorem dX2_copyFrom_123 : decode cX2_copyFrom 123 = .ok (.iconst 0, 1) := by decide +kernel
theorem dX2_copyFrom_124 : decode cX2_copyFrom 124 = .ok (.bipush 10, 2) := by decide +kernel
theorem dX2_copyFrom_126 : decode cX2_copyFrom 126 = .ok (.invokestatic 65, 3) := by decide +kernel
theorem dX2_copyFrom_129 : decode cX2_copyFrom 129 = .ok (.aload_n 1, 1) := by decide +kernel
theorem dX2_copyFrom_130 : decode cX2_copyFrom 130 = .ok (.getfield 33, 3) := by decide +kernel
theorem dX2_copyFrom_133 : decode cX2_copyFrom 133 = .ok (.iconst 0, 1) := by decide +kernel
theorem dX2_copyFrom_134 : decode cX2_copyFrom 134 = .ok (.aload_n 0, 1) := by decide +kernel
theorem dX2_copyFrom_135 : decode cX2_copyFrom 135 = .ok (.getfield 33, 3) := by decide +kernel
theorem dX2_copyFrom_138 : decode cX2_copyFrom 138 = .ok (.iconst 0, 1) := by decide +kernel
theorem dX2_copyFrom_139 : decode cX2_copyFrom 139 = .ok (.bipush 10, 2) := by decide +kernel
theorem dX2_copyFrom_141 : decode cX2_copyFrom 141 = .ok (.invokestatic 65, 3) := by decide +kernel
theorem dX2_copyFrom_144 : decode cX2_copyFrom 144 = .ok (.aload_n 0, 1) := by decide +kernel
theorem dX2_copyFrom_145 : decode cX2_copyFrom 145 = .ok (.aload_n 1, 1) := by decide +kernel
theorem dX2_copyFrom_146 : decode cX2_copyFrom 146 = .ok (.getfield 77, 3) := by decide +kernel
theorem dX2_copyFrom_149 : decode cX2_copyFrom 149 = .ok (.putfield 77, 3) := by decide +kernel
theorem dX2_copyFrom_152 : decode cX2_copyFrom 152 = .ok (.aload_n 1, 1) := by decide +kernel
theorem dX2_copyFrom_153 : decode cX2_copyFrom 153 = .ok (.getfield 36, 3) := by decide +kernel
theorem dX2_copyFrom_156 : decode cX2_copyFrom 156 = .ok (.iconst 0, 1) := by decide +kernel
theorem dX2_copyFrom_157 : decode cX2_copyFrom 157 = .ok (.aload_n 0, 1) := by decide +kernel
theorem dX2_copyFrom_158 : decode cX2_copyFrom 158 = .ok (.getfield 36, 3) := by decide +kernel
theorem dX2_copyFrom_161 : decode cX2_copyFrom 161 = .ok (.iconst 0, 1) := by decide +kernel
theorem dX2_copyFrom_162 : decode cX2_copyFrom 162 = .ok (.aload_n 0, 1) := by decide +kernel
theorem dX2_copyFrom_163 : decode cX2_copyFrom 163 = .ok (.getfield 36, 3) := by decide +kernel
theorem dX2_copyFrom_166 : decode cX2_copyFrom 166 = .ok (.arraylength, 1) := by decide +kernel
theorem dX2_copyFrom_167 : decode cX2_copyFrom 167 = .ok (.invokestatic 65, 3) := by decide +kernel
theorem dX2_copyFrom_170 : decode cX2_copyFrom 170 = .ok (.aload_n 0, 1) := by decide +kernel
theorem dX2_copyFrom_171 : decode cX2_copyFrom 171 = .ok (.aload_n 1, 1) := by decide +kernel
theorem dX2_copyFrom_172 : decode cX2_copyFrom 172 = .ok (.getfield 80, 3) := by decide +kernel
theorem dX2_copyFrom_175 : decode cX2_copyFrom 175 = .ok (.putfield 80, 3) := by decide +kernel
theorem dX2_copyFrom_178 : decode cX2_copyFrom 178 = .ok (.iconst 0, 1) := by decide +kernel
theorem dX2_copyFrom_179 : decode cX2_copyFrom 179 = .ok (.istore_n 2, 1) := by decide +kernel
theorem dX2_copyFrom_180 : decode cX2_copyFrom 180 = .ok (.iload_n 2, 1) := by decide +kernel
theorem dX2_copyFrom_181 : decode cX2_copyFrom 181 = .ok (.bipush 6, 2) := by decide +kernel
theorem dX2_copyFrom_183 : decode cX2_copyFrom 183 = .ok (.if_icmp .ge 21, 3) := by decide +kernel
theorem dX2_copyFrom_204 : decode cX2_copyFrom 204 = .ok (.aload_n 0, 1) := by decide +kernel
theorem dX2_copyFrom_205 : decode cX2_copyFrom 205 = .ok (.aload_n 1, 1) := by decide +kernel
theorem dX2_copyFrom_206 : decode cX2_copyFrom 206 = .ok (.getfield 45, 3) := by decide +kernel
theorem dX2_copyFrom_209 : decode cX2_copyFrom 209 = .ok (.putfield 45, 3) := by decide +kernel
theorem dX2_copyFrom_212 : decode cX2_copyFrom 212 = .ok (.aload_n 0, 1) := by decide +kernel
theorem dX2_copyFrom_213 : decode cX2_copyFrom 213 = .ok (.aload_n 1, 1) := by decide +kernel
theorem dX2_copyFrom_214 : decode cX2_copyFrom 214 = .ok (.getfield 49, 3) := by decide +kernel
theorem dX2_copyFrom_217 : decode cX2_copyFrom 217 = .ok (.putfield 49, 3) := by decide +kernel
theorem dX2_copyFrom_220 : decode cX2_copyFrom 220 = .ok (.aload_n 0, 1) := by decide +kernel
theorem dX2_copyFrom_221 : decode cX2_copyFrom 221 = .ok (.aload_n 1, 1) := by decide +kernel
theorem dX2_copyFrom_222 : decode cX2_copyFrom 222 = .ok (.getfield 52, 3) := by decide +kernel
theorem dX2_copyFrom_225 : decode cX2_copyFrom 225 = .ok (.putfield 52, 3) := by decide +kernel
theorem dX2_copyFrom_228 : decode cX2_copyFrom 228 = .ok (.aload_n 0, 1) := by decide +kernel
theorem dX2_copyFrom_229 : decode cX2_copyFrom 229 = .ok (.aload_n 1, 1) := by decide +kernel
theorem dX2_copyFrom_230 : decode cX2_copyFrom 230 = .ok (.getfield 83, 3) := by decide +kernel
theorem dX2_copyFrom_233 : decode cX2_copyFrom 233 = .ok (.putfield 83, 3) := by decide +kernel
theorem dX2_copyFrom_236 : decode cX2_copyFrom 236 = .ok (.aload_n 0, 1) := by decide +kernel
theorem dX2_copyFrom_237 : decode cX2_copyFrom 237 = .ok (.getfield 58, 3) := by decide +kernel
theorem dX2_copyFrom_240 : decode cX2_copyFrom 240 = .ok (.aload_n 1, 1) := by decide +kernel
theorem dX2_copyFrom_241 : decode cX2_copyFrom 241 = .ok (.getfield 58, 3) := by decide +kernel
theorem dX2_copyFrom_244 : decode cX2_copyFrom 244 = .ok (.invokevirtual 86, 3) := by decide +kernel
theorem dX2_copyFrom_247 : decode cX2_copyFrom 247 = .ok (.return_, 1) := by decide +kernel
theorem dX2_copyFrom_186 : decode cX2_copyFrom 186 = .ok (.aload_n 0, 1) := by decide +kernel
theorem dX2_copyFrom_187 : decode cX2_copyFrom 187 = .ok (.getfield 41, 3) := by decide +kernel
theorem dX2_copyFrom_190 : decode cX2_copyFrom 190 = .ok (.iload_n 2, 1) := by decide +kernel
theorem dX2_copyFrom_191 : decode cX2_copyFrom 191 = .ok (.aload_n 1, 1) := by decide +kernel
theorem dX2_copyFrom_192 : decode cX2_copyFrom 192 = .ok (.getfield 41, 3) := by decide +kernel
theorem dX2_copyFrom_195 : decode cX2_copyFrom 195 = .ok (.iload_n 2, 1) := by decide +kernel
theorem dX2_copyFrom_196 : decode cX2_copyFrom 196 = .ok (.aaload, 1) := by decide +kernel
theorem dX2_copyFrom_198 : decode cX2_copyFrom 198 = .ok (.iinc 2 1, 3) := by decide +kernel
theorem dX2_copyFrom_201 : decode cX2_copyFrom 201 = .ok (.goto (-21), 3) := by decide +kernel
theorem dX2_copyFrom_197 : decode cX2_copyFrom 197 = .ok (.aastore, 1) := by decide +kernel
set_option maxHeartbeats 4000000 in
set_option maxRecDepth 100000 in
theorem k_X2_copyFrom (l : Launch) (D : va_G) (cy : Nat → ClassId) (ld : Nat → Nat) (t : tk_T) (rg0 : Nat) (rg1 : Nat) (a0 : Nat) (a1 : Nat) (ht_a0 : t a0 = (3, 0, rg0)) (ht_a1 : t a1 = (3, 0, rg1)) (hi_0 : rg0 ≠ rg1) : Met l yX2_copyFrom (wl yX2_copyFrom cX2_copyFrom 3 none) ({ frames := 5, cells := 0, slots := 0, locals := 280 }) (tp D cy ld t [] [.ref a0, .ref a1] (fun H => True)) (tv D cy ld t [] (fun H => True) (tk_w t [(3, rg0, rg0), (20, rg0, rg0), (21, rg0, rg0), (32, rg0, rg0), (33, rg0, rg0), (34, rg0, rg0), (35, rg0, rg0), (36, rg0, rg0), (37, rg0, rg0), (24, rg0, rg0), (28, rg0, rg0), (10, rg0, rg0)])) 0 0 (tk_w t [(3, rg0, rg0), (20, rg0, rg0), (21, rg0, rg0), (32, rg0, rg0), (33, rg0, rg0), (34, rg0, rg0), (35, rg0, rg0), (36, rg0, rg0), (37, rg0, rg0), (24, rg0, rg0), (28, rg0, rg0), (10, rg0, rg0)]) := by
  refine tk_met (y := yX2_copyFrom) (cc := cX2_copyFrom) (maxL := 3) (ret := none) (av := [.ref a0, .ref a1]) _ _ (by decide) (Nat.le_of_ble_eq_true rfl) ?_
  intro p e s m args below meth c hx hb hr hml hts htl hown hlocks hK H locs hH hG hS hB hZ ls hl
  have hown : s.vm.findClass RX2 = some m.cls := hown
  have hl : lv_has ls 3 [(0, .ref a0), (1, .ref a1)] := hl
  refine lv_aload_n hx hb dX2_copyFrom_0 rfl (lv_at hl 0 rfl) ?_
  refine lv_aload_n hx hb dX2_copyFrom_1 rfl (lv_at hl 1 rfl) ?_
  refine tk_get (ci := 2) (C := RX2) (T := TX2) (N := 20) (sp := (0, 0, 8, 0)) hx hb htl inX2 hown hK hG ht_a1 (by decide) tk_no rfl 0 (by decide) (htl _ mw_257) (fun _ h9 => h9) rfl dX2_copyFrom_2 (fun v9 hf1 hV9 => ?_)
  obtain ⟨v2, rfl, (ha_v2 : 0 ≤ v2.toInt), (hb_v2 : v2.toInt ≤ 8)⟩ := hV9
  refine tk_put (ci := 2) (v := .int v2) (ty := .int) (C := RX2) (T := TX2) (N := 20) (sp := (0, 0, 8, 0)) hx hb htl inX2 tyX2 tyX2_ok nmX2 hown hK hG hS ht_a0 (by decide) tk_no rfl 0 (by decide) (htl _ mw_257) (fun _ h9 => h9) rfl (tyX2_ok 0 (by decide)) rfl rfl rfl (tk_V0 (by omega) (by omega)) (fun _ h => h) (tk_w.of ht_a0 (by decide) (List.mem_of_getElem? (i := 0) rfl) (Nat.le_refl _) (Nat.le_refl _)) dX2_copyFrom_5 (fun H locs hG hS hf3 hq9 hj9 => ?_)
  have hf1 := hf1.kept (hq9 _ (tk_ne ht_a1 ht_a0 (Or.inr (Or.inr (by omega)))))
  refine lv_aload_n hx hb dX2_copyFrom_8 rfl (lv_at hl 1 rfl) ?_
  refine tk_get (ci := 2) (C := RX2) (T := TX2) (N := 20) (sp := (1, 20, 8, 0)) hx hb htl inX2 hown hK hG ht_a1 (by decide) tk_no rfl 1 (by decide) (htl _ mw_60) (fun _ h9 => h9) rfl dX2_copyFrom_9 (fun v9 hf5 hV9 => ?_)
  obtain ⟨b6, rfl, ht_b6⟩ := hV9
  have ht_b6 : t b6 = (20, 8, rg1) := ht_b6
  refine lv_iconst (v := 0) hx hb dX2_copyFrom_12 (by decide) ?_
  refine lv_aload_n hx hb dX2_copyFrom_13 rfl (lv_at hl 0 rfl) ?_
  refine tk_get (ci := 2) (C := RX2) (T := TX2) (N := 20) (sp := (1, 20, 8, 0)) hx hb htl inX2 hown hK hG ht_a0 (by decide) tk_no rfl 1 (by decide) (htl _ mw_60) (fun _ h9 => h9) rfl dX2_copyFrom_14 (fun v9 hf7 hV9 => ?_)
  obtain ⟨b8, rfl, ht_b8⟩ := hV9
  have ht_b8 : t b8 = (20, 8, rg0) := ht_b8
  refine lv_iconst (v := 0) hx hb dX2_copyFrom_17 (by decide) ?_
  refine lv_bipush (v := 8) hx hb dX2_copyFrom_18 (by decide) ?_
  refine tk_copy (SP := 0) (DP := 0) (NC := 8) hx hb (by rw [hml]; exact hl.1.symm) hown (htl _ mw_1712) (htl _ mw_655) (htl _ mw_656) (htl _ mw_657) hK hG hS ht_b6 ht_b8 (by decide) (by decide) (fun _ h => h) (fun _ => Iff.rfl) tk_no tk_no (show (0 : Int32).toInt = 0 by decide) (show (0 : Int32).toInt = 0 by decide) (show (8 : Int32).toInt = 8 by decide) (by decide) (by decide) (by decide) (by decide) (by decide) (fun _ _ _ _ _ => trivial) (tk_w.of ht_b8 (by decide) (List.mem_of_getElem? (i := 1) rfl) (Nat.le_refl _) (Nat.le_refl _)) (Nat.le_of_ble_eq_true rfl) (Nat.le_of_ble_eq_true rfl) dX2_copyFrom_20 (fun H locs hG hS hq9 => ?_)
  have hf1 := hf1.kept (hq9 _ (tk_ne ht_a1 ht_b8 (Or.inl (by decide))))
  have hf3 := hf3.kept (hq9 _ (tk_ne ht_a0 ht_b8 (Or.inl (by decide))))
  refine lv_aload_n hx hb dX2_copyFrom_23 rfl (lv_at hl 1 rfl) ?_
  refine tk_get (ci := 2) (C := RX2) (T := TX2) (N := 20) (sp := (1, 21, 8, 0)) hx hb htl inX2 hown hK hG ht_a1 (by decide) tk_no rfl 2 (by decide) (htl _ mw_61) (fun _ h9 => h9) rfl dX2_copyFrom_24 (fun v9 hf10 hV9 => ?_)
  obtain ⟨b11, rfl, ht_b11⟩ := hV9
  have ht_b11 : t b11 = (21, 8, rg1) := ht_b11
  refine lv_iconst (v := 0) hx hb dX2_copyFrom_27 (by decide) ?_
  refine lv_aload_n hx hb dX2_copyFrom_28 rfl (lv_at hl 0 rfl) ?_
  refine tk_get (ci := 2) (C := RX2) (T := TX2) (N := 20) (sp := (1, 21, 8, 0)) hx hb htl inX2 hown hK hG ht_a0 (by decide) tk_no rfl 2 (by decide) (htl _ mw_61) (fun _ h9 => h9) rfl dX2_copyFrom_29 (fun v9 hf12 hV9 => ?_)
  obtain ⟨b13, rfl, ht_b13⟩ := hV9
  have ht_b13 : t b13 = (21, 8, rg0) := ht_b13
  refine lv_iconst (v := 0) hx hb dX2_copyFrom_32 (by decide) ?_
  refine lv_bipush (v := 8) hx hb dX2_copyFrom_33 (by decide) ?_
  refine tk_copy (SP := 0) (DP := 0) (NC := 8) hx hb (by rw [hml]; exact hl.1.symm) hown (htl _ mw_1712) (htl _ mw_655) (htl _ mw_656) (htl _ mw_657) hK hG hS ht_b11 ht_b13 (by decide) (by decide) (fun _ h => h) (fun _ => Iff.rfl) tk_no tk_no (show (0 : Int32).toInt = 0 by decide) (show (0 : Int32).toInt = 0 by decide) (show (8 : Int32).toInt = 8 by decide) (by decide) (by decide) (by decide) (by decide) (by decide) (fun _ _ _ _ h => h) (tk_w.of ht_b13 (by decide) (List.mem_of_getElem? (i := 2) rfl) (Nat.le_refl _) (Nat.le_refl _)) (Nat.le_of_ble_eq_true rfl) (Nat.le_of_ble_eq_true rfl) dX2_copyFrom_35 (fun H locs hG hS hq9 => ?_)
  have hf1 := hf1.kept (hq9 _ (tk_ne ht_a1 ht_b13 (Or.inl (by decide))))
  have hf3 := hf3.kept (hq9 _ (tk_ne ht_a0 ht_b13 (Or.inl (by decide))))
  refine lv_aload_n hx hb dX2_copyFrom_38 rfl (lv_at hl 1 rfl) ?_
  refine tk_get (ci := 2) (C := RX2) (T := TX2) (N := 20) (sp := (11, 70, 32, 8)) hx hb htl inX2 hown hK hG ht_a1 (by decide) tk_no rfl 3 (by decide) (htl _ mw_62) (fun _ h9 => h9) rfl dX2_copyFrom_39 (fun v9 hf15 hV9 => ?_)
  obtain ⟨rfl, ht_ld70rg1⟩ := hV9
  have ht_ld70rg1 : t (ld (70 + rg1)) = (32, 8, rg1) := ht_ld70rg1
  refine fx_top (v := .ref (ld (70 + rg1))) rfl ?_
  refine lv_iconst (v := 0) hx hb dX2_copyFrom_42 (by decide) ?_
  refine lv_aload_n hx hb dX2_copyFrom_43 rfl (lv_at hl 0 rfl) ?_
  refine tk_get (ci := 2) (C := RX2) (T := TX2) (N := 20) (sp := (11, 70, 32, 8)) hx hb htl inX2 hown hK hG ht_a0 (by decide) tk_no rfl 3 (by decide) (htl _ mw_62) (fun _ h9 => h9) rfl dX2_copyFrom_44 (fun v9 hf16 hV9 => ?_)
  obtain ⟨rfl, ht_ld70rg0⟩ := hV9
  have ht_ld70rg0 : t (ld (70 + rg0)) = (32, 8, rg0) := ht_ld70rg0
  refine fx_top (v := .ref (ld (70 + rg0))) rfl ?_
  refine lv_iconst (v := 0) hx hb dX2_copyFrom_47 (by decide) ?_
  refine lv_bipush (v := 8) hx hb dX2_copyFrom_48 (by decide) ?_
  refine tk_copy (SP := 0) (DP := 0) (NC := 8) hx hb (by rw [hml]; exact hl.1.symm) hown (htl _ mw_1712) (htl _ mw_655) (htl _ mw_656) (htl _ mw_657) hK hG hS ht_ld70rg1 ht_ld70rg0 (by decide) (by decide) (fun _ h => h) (fun _ => Iff.rfl) tk_no tk_no (show (0 : Int32).toInt = 0 by decide) (show (0 : Int32).toInt = 0 by decide) (show (8 : Int32).toInt = 8 by decide) (by decide) (by decide) (by decide) (by decide) (by decide) (fun _ _ _ _ _ => trivial) (tk_w.of ht_ld70rg0 (by decide) (List.mem_of_getElem? (i := 3) rfl) (Nat.le_refl _) (Nat.le_refl _)) (Nat.le_of_ble_eq_true rfl) (Nat.le_of_ble_eq_true rfl) dX2_copyFrom_50 (fun H locs hG hS hq9 => ?_)
  have hf1 := hf1.kept (hq9 _ (tk_ne ht_a1 ht_ld70rg0 (Or.inl (by decide))))
  have hf3 := hf3.kept (hq9 _ (tk_ne ht_a0 ht_ld70rg0 (Or.inl (by decide))))
  refine lv_aload_n hx hb dX2_copyFrom_53 rfl (lv_at hl 0 rfl) ?_
  refine lv_aload_n hx hb dX2_copyFrom_54 rfl (lv_at hl 1 rfl) ?_
  refine tk_get (ci := 2) (C := RX2) (T := TX2) (N := 20) (sp := (0, 0, 10, 0)) hx hb htl inX2 hown hK hG ht_a1 (by decide) tk_no rfl 4 (by decide) (htl _ mw_333) (fun _ h9 => h9) rfl dX2_copyFrom_55 (fun v9 hf18 hV9 => ?_)
  obtain ⟨v19, rfl, (ha_v19 : 0 ≤ v19.toInt), (hb_v19 : v19.toInt ≤ 10)⟩ := hV9
  refine tk_put (ci := 2) (v := .int v19) (ty := .int) (C := RX2) (T := TX2) (N := 20) (sp := (0, 0, 10, 0)) hx hb htl inX2 tyX2 tyX2_ok nmX2 hown hK hG hS ht_a0 (by decide) tk_no rfl 4 (by decide) (htl _ mw_333) (fun _ h9 => h9) rfl (tyX2_ok 4 (by decide)) rfl rfl rfl (tk_V0 (by omega) (by omega)) (fun _ h => h) (tk_w.of ht_a0 (by decide) (List.mem_of_getElem? (i := 0) rfl) (Nat.le_refl _) (Nat.le_refl _)) dX2_copyFrom_58 (fun H locs hG hS hf20 hq9 hj9 => ?_)
  have hf1 := hf1.kept (hq9 _ (tk_ne ht_a1 ht_a0 (Or.inr (Or.inr (by omega)))))
  have hf3 := hj9 0 _ (by decide) (by decide) hf3
  have hf18 := hf18.kept (hq9 _ (tk_ne ht_a1 ht_a0 (Or.inr (Or.inr (by omega)))))
  refine lv_aload_n hx hb dX2_copyFrom_61 rfl (lv_at hl 1 rfl) ?_
  refine tk_get (ci := 2) (C := RX2) (T := TX2) (N := 20) (sp := (11, 80, 33, 10)) hx hb htl inX2 hown hK hG ht_a1 (by decide) tk_no rfl 5 (by decide) (htl _ mw_63) (fun _ h9 => h9) rfl dX2_copyFrom_62 (fun v9 hf22 hV9 => ?_)
  obtain ⟨rfl, ht_ld80rg1⟩ := hV9
  have ht_ld80rg1 : t (ld (80 + rg1)) = (33, 10, rg1) := ht_ld80rg1
  refine fx_top (v := .ref (ld (80 + rg1))) rfl ?_
  refine lv_iconst (v := 0) hx hb dX2_copyFrom_65 (by decide) ?_
  refine lv_aload_n hx hb dX2_copyFrom_66 rfl (lv_at hl 0 rfl) ?_
  refine tk_get (ci := 2) (C := RX2) (T := TX2) (N := 20) (sp := (11, 80, 33, 10)) hx hb htl inX2 hown hK hG ht_a0 (by decide) tk_no rfl 5 (by decide) (htl _ mw_63) (fun _ h9 => h9) rfl dX2_copyFrom_67 (fun v9 hf23 hV9 => ?_)
  obtain ⟨rfl, ht_ld80rg0⟩ := hV9
  have ht_ld80rg0 : t (ld (80 + rg0)) = (33, 10, rg0) := ht_ld80rg0
  refine fx_top (v := .ref (ld (80 + rg0))) rfl ?_
  refine lv_iconst (v := 0) hx hb dX2_copyFrom_70 (by decide) ?_
  refine lv_bipush (v := 10) hx hb dX2_copyFrom_71 (by decide) ?_
  refine tk_copy (SP := 0) (DP := 0) (NC := 10) hx hb (by rw [hml]; exact hl.1.symm) hown (htl _ mw_1712) (htl _ mw_655) (htl _ mw_656) (htl _ mw_657) hK hG hS ht_ld80rg1 ht_ld80rg0 (by decide) (by decide) (fun _ h => h) (fun _ => Iff.rfl) tk_no tk_no (show (0 : Int32).toInt = 0 by decide) (show (0 : Int32).toInt = 0 by decide) (show (10 : Int32).toInt = 10 by decide) (by decide) (by decide) (by decide) (by decide) (by decide) (fun _ _ _ _ _ => trivial) (tk_w.of ht_ld80rg0 (by decide) (List.mem_of_getElem? (i := 4) rfl) (Nat.le_refl _) (Nat.le_refl _)) (Nat.le_of_ble_eq_true rfl) (Nat.le_of_ble_eq_true rfl) dX2_copyFrom_73 (fun H locs hG hS hq9 => ?_)
  have hf1 := hf1.kept (hq9 _ (tk_ne ht_a1 ht_ld80rg0 (Or.inl (by decide))))
  have hf3 := hf3.kept (hq9 _ (tk_ne ht_a0 ht_ld80rg0 (Or.inl (by decide))))
  have hf18 := hf18.kept (hq9 _ (tk_ne ht_a1 ht_ld80rg0 (Or.inl (by decide))))
  have hf20 := hf20.kept (hq9 _ (tk_ne ht_a0 ht_ld80rg0 (Or.inl (by decide))))
  refine lv_aload_n hx hb dX2_copyFrom_76 rfl (lv_at hl 1 rfl) ?_
  refine tk_get (ci := 2) (C := RX2) (T := TX2) (N := 20) (sp := (11, 90, 34, 10)) hx hb htl inX2 hown hK hG ht_a1 (by decide) tk_no rfl 6 (by decide) (htl _ mw_64) (fun _ h9 => h9) rfl dX2_copyFrom_77 (fun v9 hf25 hV9 => ?_)
  obtain ⟨rfl, ht_ld90rg1⟩ := hV9
  have ht_ld90rg1 : t (ld (90 + rg1)) = (34, 10, rg1) := ht_ld90rg1
  refine fx_top (v := .ref (ld (90 + rg1))) rfl ?_
  refine lv_iconst (v := 0) hx hb dX2_copyFrom_80 (by decide) ?_
  refine lv_aload_n hx hb dX2_copyFrom_81 rfl (lv_at hl 0 rfl) ?_
  refine tk_get (ci := 2) (C := RX2) (T := TX2) (N := 20) (sp := (11, 90, 34, 10)) hx hb htl inX2 hown hK hG ht_a0 (by decide) tk_no rfl 6 (by decide) (htl _ mw_64) (fun _ h9 => h9) rfl dX2_copyFrom_82 (fun v9 hf26 hV9 => ?_)
  obtain ⟨rfl, ht_ld90rg0⟩ := hV9
  have ht_ld90rg0 : t (ld (90 + rg0)) = (34, 10, rg0) := ht_ld90rg0
  refine fx_top (v := .ref (ld (90 + rg0))) rfl ?_
  refine lv_iconst (v := 0) hx hb dX2_copyFrom_85 (by decide) ?_
  refine lv_bipush (v := 10) hx hb dX2_copyFrom_86 (by decide) ?_
  refine tk_copy (SP := 0) (DP := 0) (NC := 10) hx hb (by rw [hml]; exact hl.1.symm) hown (htl _ mw_1712) (htl _ mw_655) (htl _ mw_656) (htl _ mw_657) hK hG hS ht_ld90rg1 ht_ld90rg0 (by decide) (by decide) (fun _ h => h) (fun _ => Iff.rfl) tk_no tk_no (show (0 : Int32).toInt = 0 by decide) (show (0 : Int32).toInt = 0 by decide) (show (10 : Int32).toInt = 10 by decide) (by decide) (by decide) (by decide) (by decide) (by decide) (fun _ _ _ _ _ => trivial) (tk_w.of ht_ld90rg0 (by decide) (List.mem_of_getElem? (i := 5) rfl) (Nat.le_refl _) (Nat.le_refl _)) (Nat.le_of_ble_eq_true rfl) (Nat.le_of_ble_eq_true rfl) dX2_copyFrom_88 (fun H locs hG hS hq9 => ?_)
  have hf1 := hf1.kept (hq9 _ (tk_ne ht_a1 ht_ld90rg0 (Or.inl (by decide))))
  have hf3 := hf3.kept (hq9 _ (tk_ne ht_a0 ht_ld90rg0 (Or.inl (by decide))))
  have hf18 := hf18.kept (hq9 _ (tk_ne ht_a1 ht_ld90rg0 (Or.inl (by decide))))
  have hf20 := hf20.kept (hq9 _ (tk_ne ht_a0 ht_ld90rg0 (Or.inl (by decide))))
  refine lv_aload_n hx hb dX2_copyFrom_91 rfl (lv_at hl 0 rfl) ?_
  refine lv_aload_n hx hb dX2_copyFrom_92 rfl (lv_at hl 1 rfl) ?_
  refine tk_get (ci := 2) (C := RX2) (T := TX2) (N := 20) (sp := (0, 0, 10, 0)) hx hb htl inX2 hown hK hG ht_a1 (by decide) tk_no rfl 7 (by decide) (htl _ mw_369) (fun _ h9 => h9) rfl dX2_copyFrom_93 (fun v9 hf28 hV9 => ?_)
  obtain ⟨v29, rfl, (ha_v29 : 0 ≤ v29.toInt), (hb_v29 : v29.toInt ≤ 10)⟩ := hV9
  refine tk_put (ci := 2) (v := .int v29) (ty := .int) (C := RX2) (T := TX2) (N := 20) (sp := (0, 0, 10, 0)) hx hb htl inX2 tyX2 tyX2_ok nmX2 hown hK hG hS ht_a0 (by decide) tk_no rfl 7 (by decide) (htl _ mw_369) (fun _ h9 => h9) rfl (tyX2_ok 7 (by decide)) rfl rfl rfl (tk_V0 (by omega) (by omega)) (fun _ h => h) (tk_w.of ht_a0 (by decide) (List.mem_of_getElem? (i := 0) rfl) (Nat.le_refl _) (Nat.le_refl _)) dX2_copyFrom_96 (fun H locs hG hS hf30 hq9 hj9 => ?_)
  have hf1 := hf1.kept (hq9 _ (tk_ne ht_a1 ht_a0 (Or.inr (Or.inr (by omega)))))
  have hf3 := hj9 0 _ (by decide) (by decide) hf3
  have hf18 := hf18.kept (hq9 _ (tk_ne ht_a1 ht_a0 (Or.inr (Or.inr (by omega)))))
  have hf20 := hj9 4 _ (by decide) (by decide) hf20
  have hf28 := hf28.kept (hq9 _ (tk_ne ht_a1 ht_a0 (Or.inr (Or.inr (by omega)))))
  refine lv_aload_n hx hb dX2_copyFrom_99 rfl (lv_at hl 1 rfl) ?_
  refine tk_get (ci := 2) (C := RX2) (T := TX2) (N := 20) (sp := (11, 100, 35, 10)) hx hb htl inX2 hown hK hG ht_a1 (by decide) tk_no rfl 8 (by decide) (htl _ mw_65) (fun _ h9 => h9) rfl dX2_copyFrom_100 (fun v9 hf32 hV9 => ?_)
  obtain ⟨rfl, ht_ld100rg1⟩ := hV9
  have ht_ld100rg1 : t (ld (100 + rg1)) = (35, 10, rg1) := ht_ld100rg1
  refine fx_top (v := .ref (ld (100 + rg1))) rfl ?_
  refine lv_iconst (v := 0) hx hb dX2_copyFrom_103 (by decide) ?_
  refine lv_aload_n hx hb dX2_copyFrom_104 rfl (lv_at hl 0 rfl) ?_
  refine tk_get (ci := 2) (C := RX2) (T := TX2) (N := 20) (sp := (11, 100, 35, 10)) hx hb htl inX2 hown hK hG ht_a0 (by decide) tk_no rfl 8 (by decide) (htl _ mw_65) (fun _ h9 => h9) rfl dX2_copyFrom_105 (fun v9 hf33 hV9 => ?_)
  obtain ⟨rfl, ht_ld100rg0⟩ := hV9
  have ht_ld100rg0 : t (ld (100 + rg0)) = (35, 10, rg0) := ht_ld100rg0
  refine fx_top (v := .ref (ld (100 + rg0))) rfl ?_
  refine lv_iconst (v := 0) hx hb dX2_copyFrom_108 (by decide) ?_
  refine lv_bipush (v := 10) hx hb dX2_copyFrom_109 (by decide) ?_
  refine tk_copy (SP := 0) (DP := 0) (NC := 10) hx hb (by rw [hml]; exact hl.1.symm) hown (htl _ mw_1712) (htl _ mw_655) (htl _ mw_656) (htl _ mw_657) hK hG hS ht_ld100rg1 ht_ld100rg0 (by decide) (by decide) (fun _ h => h) (fun _ => Iff.rfl) tk_no tk_no (show (0 : Int32).toInt = 0 by decide) (show (0 : Int32).toInt = 0 by decide) (show (10 : Int32).toInt = 10 by decide) (by decide) (by decide) (by decide) (by decide) (by decide) (fun _ _ _ _ _ => trivial) (tk_w.of ht_ld100rg0 (by decide) (List.mem_of_getElem? (i := 6) rfl) (Nat.le_refl _) (Nat.le_refl _)) (Nat.le_of_ble_eq_true rfl) (Nat.le_of_ble_eq_true rfl) dX2_copyFrom_111 (fun H locs hG hS hq9 => ?_)
  have hf1 := hf1.kept (hq9 _ (tk_ne ht_a1 ht_ld100rg0 (Or.inl (by decide))))
  have hf3 := hf3.kept (hq9 _ (tk_ne ht_a0 ht_ld100rg0 (Or.inl (by decide))))
  have hf18 := hf18.kept (hq9 _ (tk_ne ht_a1 ht_ld100rg0 (Or.inl (by decide))))
  have hf20 := hf20.kept (hq9 _ (tk_ne ht_a0 ht_ld100rg0 (Or.inl (by decide))))
  have hf28 := hf28.kept (hq9 _ (tk_ne ht_a1 ht_ld100rg0 (Or.inl (by decide))))
  have hf30 := hf30.kept (hq9 _ (tk_ne ht_a0 ht_ld100rg0 (Or.inl (by decide))))
  refine lv_aload_n hx hb dX2_copyFrom_114 rfl (lv_at hl 1 rfl) ?_
  refine tk_get (ci := 2) (C := RX2) (T := TX2) (N := 20) (sp := (11, 110, 36, 10)) hx hb htl inX2 hown hK hG ht_a1 (by decide) tk_no rfl 9 (by decide) (htl _ mw_66) (fun _ h9 => h9) rfl dX2_copyFrom_115 (fun v9 hf35 hV9 => ?_)
  obtain ⟨rfl, ht_ld110rg1⟩ := hV9
  have ht_ld110rg1 : t (ld (110 + rg1)) = (36, 10, rg1) := ht_ld110rg1
  refine fx_top (v := .ref (ld (110 + rg1))) rfl ?_
  refine lv_iconst (v := 0) hx hb dX2_copyFrom_118 (by decide) ?_
  refine lv_aload_n hx hb dX2_copyFrom_119 rfl (lv_at hl 0 rfl) ?_
  refine tk_get (ci := 2) (C := RX2) (T := TX2) (N := 20) (sp := (11, 110, 36, 10)) hx hb htl inX2 hown hK hG ht_a0 (by decide) tk_no rfl 9 (by decide) (htl _ mw_66) (fun _ h9 => h9) rfl dX2_copyFrom_120 (fun v9 hf36 hV9 => ?_)
  obtain ⟨rfl, ht_ld110rg0⟩ := hV9
  have ht_ld110rg0 : t (ld (110 + rg0)) = (36, 10, rg0) := ht_ld110rg0
  refine fx_top (v := .ref (ld (110 + rg0))) rfl ?_
  refine lv_iconst (v := 0) hx hb dX2_copyFrom_123 (by decide) ?_
  refine lv_bipush (v := 10) hx hb dX2_copyFrom_124 (by decide) ?_
  refine tk_copy (SP := 0) (DP := 0) (NC := 10) hx hb (by rw [hml]; exact hl.1.symm) hown (htl _ mw_1712) (htl _ mw_655) (htl _ mw_656) (htl _ mw_657) hK hG hS ht_ld110rg1 ht_ld110rg0 (by decide) (by decide) (fun _ h => h) (fun _ => Iff.rfl) tk_no tk_no (show (0 : Int32).toInt = 0 by decide) (show (0 : Int32).toInt = 0 by decide) (show (10 : Int32).toInt = 10 by decide) (by decide) (by decide) (by decide) (by decide) (by decide) (fun _ _ _ _ _ => trivial) (tk_w.of ht_ld110rg0 (by decide) (List.mem_of_getElem? (i := 7) rfl) (Nat.le_refl _) (Nat.le_refl _)) (Nat.le_of_ble_eq_true rfl) (Nat.le_of_ble_eq_true rfl) dX2_copyFrom_126 (fun H locs hG hS hq9 => ?_)
  have hf1 := hf1.kept (hq9 _ (tk_ne ht_a1 ht_ld110rg0 (Or.inl (by decide))))
  have hf3 := hf3.kept (hq9 _ (tk_ne ht_a0 ht_ld110rg0 (Or.inl (by decide))))
  have hf18 := hf18.kept (hq9 _ (tk_ne ht_a1 ht_ld110rg0 (Or.inl (by decide))))
  have hf20 := hf20.kept (hq9 _ (tk_ne ht_a0 ht_ld110rg0 (Or.inl (by decide))))
  have hf28 := hf28.kept (hq9 _ (tk_ne ht_a1 ht_ld110rg0 (Or.inl (by decide))))
  have hf30 := hf30.kept (hq9 _ (tk_ne ht_a0 ht_ld110rg0 (Or.inl (by decide))))
  refine lv_aload_n hx hb dX2_copyFrom_129 rfl (lv_at hl 1 rfl) ?_
  refine tk_get (ci := 2) (C := RX2) (T := TX2) (N := 20) (sp := (11, 120, 37, 10)) hx hb htl inX2 hown hK hG ht_a1 (by decide) tk_no rfl 10 (by decide) (htl _ mw_67) (fun _ h9 => h9) rfl dX2_copyFrom_130 (fun v9 hf38 hV9 => ?_)
  obtain ⟨rfl, ht_ld120rg1⟩ := hV9
  have ht_ld120rg1 : t (ld (120 + rg1)) = (37, 10, rg1) := ht_ld120rg1
  refine fx_top (v := .ref (ld (120 + rg1))) rfl ?_
  refine lv_iconst (v := 0) hx hb dX2_copyFrom_133 (by decide) ?_
  refine lv_aload_n hx hb dX2_copyFrom_134 rfl (lv_at hl 0 rfl) ?_
  refine tk_get (ci := 2) (C := RX2) (T := TX2) (N := 20) (sp := (11, 120, 37, 10)) hx hb htl inX2 hown hK hG ht_a0 (by decide) tk_no rfl 10 (by decide) (htl _ mw_67) (fun _ h9 => h9) rfl dX2_copyFrom_135 (fun v9 hf39 hV9 => ?_)
  obtain ⟨rfl, ht_ld120rg0⟩ := hV9
  have ht_ld120rg0 : t (ld (120 + rg0)) = (37, 10, rg0) := ht_ld120rg0
  refine fx_top (v := .ref (ld (120 + rg0))) rfl ?_
  refine lv_iconst (v := 0) hx hb dX2_copyFrom_138 (by decide) ?_
  refine lv_bipush (v := 10) hx hb dX2_copyFrom_139 (by decide) ?_
  refine tk_copy (SP := 0) (DP := 0) (NC := 10) hx hb (by rw [hml]; exact hl.1.symm) hown (htl _ mw_1712) (htl _ mw_655) (htl _ mw_656) (htl _ mw_657) hK hG hS ht_ld120rg1 ht_ld120rg0 (by decide) (by decide) (fun _ h => h) (fun _ => Iff.rfl) tk_no tk_no (show (0 : Int32).toInt = 0 by decide) (show (0 : Int32).toInt = 0 by decide) (show (10 : Int32).toInt = 10 by decide) (by decide) (by decide) (by decide) (by decide) (by decide) (fun _ _ _ _ _ => trivial) (tk_w.of ht_ld120rg0 (by decide) (List.mem_of_getElem? (i := 8) rfl) (Nat.le_refl _) (Nat.le_refl _)) (Nat.le_of_ble_eq_true rfl) (Nat.le_of_ble_eq_true rfl) dX2_copyFrom_141 (fun H locs hG hS hq9 => ?_)
  have hf1 := hf1.kept (hq9 _ (tk_ne ht_a1 ht_ld120rg0 (Or.inl (by decide))))
  have hf3 := hf3.kept (hq9 _ (tk_ne ht_a0 ht_ld120rg0 (Or.inl (by decide))))
  have hf18 := hf18.kept (hq9 _ (tk_ne ht_a1 ht_ld120rg0 (Or.inl (by decide))))
  have hf20 := hf20.kept (hq9 _ (tk_ne ht_a0 ht_ld120rg0 (Or.inl (by decide))))
  have hf28 := hf28.kept (hq9 _ (tk_ne ht_a1 ht_ld120rg0 (Or.inl (by decide))))
  have hf30 := hf30.kept (hq9 _ (tk_ne ht_a0 ht_ld120rg0 (Or.inl (by decide))))
  refine lv_aload_n hx hb dX2_copyFrom_144 rfl (lv_at hl 0 rfl) ?_
  refine lv_aload_n hx hb dX2_copyFrom_145 rfl (lv_at hl 1 rfl) ?_
  refine tk_get (ci := 2) (C := RX2) (T := TX2) (N := 20) (sp := (0, 0, 8, 0)) hx hb htl inX2 hown hK hG ht_a1 (by decide) tk_no rfl 11 (by decide) (htl _ mw_1489) (fun _ h9 => h9) rfl dX2_copyFrom_146 (fun v9 hf41 hV9 => ?_)
  obtain ⟨v42, rfl, (ha_v42 : 0 ≤ v42.toInt), (hb_v42 : v42.toInt ≤ 8)⟩ := hV9
  refine tk_put (ci := 2) (v := .int v42) (ty := .int) (C := RX2) (T := TX2) (N := 20) (sp := (0, 0, 8, 0)) hx hb htl inX2 tyX2 tyX2_ok nmX2 hown hK hG hS ht_a0 (by decide) tk_no rfl 11 (by decide) (htl _ mw_1489) (fun _ h9 => h9) rfl (tyX2_ok 11 (by decide)) rfl rfl rfl (tk_V0 (by omega) (by omega)) (fun _ h => h) (tk_w.of ht_a0 (by decide) (List.mem_of_getElem? (i := 0) rfl) (Nat.le_refl _) (Nat.le_refl _)) dX2_copyFrom_149 (fun H locs hG hS hf43 hq9 hj9 => ?_)
  have hf1 := hf1.kept (hq9 _ (tk_ne ht_a1 ht_a0 (Or.inr (Or.inr (by omega)))))
  have hf3 := hj9 0 _ (by decide) (by decide) hf3
  have hf18 := hf18.kept (hq9 _ (tk_ne ht_a1 ht_a0 (Or.inr (Or.inr (by omega)))))
  have hf20 := hj9 4 _ (by decide) (by decide) hf20
  have hf28 := hf28.kept (hq9 _ (tk_ne ht_a1 ht_a0 (Or.inr (Or.inr (by omega)))))
  have hf30 := hj9 7 _ (by decide) (by decide) hf30
  have hf41 := hf41.kept (hq9 _ (tk_ne ht_a1 ht_a0 (Or.inr (Or.inr (by omega)))))
  refine lv_aload_n hx hb dX2_copyFrom_152 rfl (lv_at hl 1 rfl) ?_
  refine tk_get (ci := 2) (C := RX2) (T := TX2) (N := 20) (sp := (1, 24, 40, 0)) hx hb htl inX2 hown hK hG ht_a1 (by decide) tk_no rfl 12 (by decide) (htl _ mw_68) (fun _ h9 => h9) rfl dX2_copyFrom_153 (fun v9 hf45 hV9 => ?_)
  obtain ⟨b46, rfl, ht_b46⟩ := hV9
  have ht_b46 : t b46 = (24, 40, rg1) := ht_b46
  refine lv_iconst (v := 0) hx hb dX2_copyFrom_156 (by decide) ?_
  refine lv_aload_n hx hb dX2_copyFrom_157 rfl (lv_at hl 0 rfl) ?_
  refine tk_get (ci := 2) (C := RX2) (T := TX2) (N := 20) (sp := (1, 24, 40, 0)) hx hb htl inX2 hown hK hG ht_a0 (by decide) tk_no rfl 12 (by decide) (htl _ mw_68) (fun _ h9 => h9) rfl dX2_copyFrom_158 (fun v9 hf47 hV9 => ?_)
  obtain ⟨b48, rfl, ht_b48⟩ := hV9
  have ht_b48 : t b48 = (24, 40, rg0) := ht_b48
  refine lv_iconst (v := 0) hx hb dX2_copyFrom_161 (by decide) ?_
  refine lv_aload_n hx hb dX2_copyFrom_162 rfl (lv_at hl 0 rfl) ?_
  refine tk_get (ci := 2) (C := RX2) (T := TX2) (N := 20) (sp := (1, 24, 40, 0)) hx hb htl inX2 hown hK hG ht_a0 (by decide) tk_no rfl 12 (by decide) (htl _ mw_68) (fun _ h9 => h9) rfl dX2_copyFrom_163 (fun v9 hf49 hV9 => ?_)
  obtain ⟨b50, rfl, ht_b50⟩ := hV9
  have ht_b50 : t b50 = (24, 40, rg0) := ht_b50
  refine tk_alen hx hb hK hG 0 rfl ht_b50 (by decide) (fun _ h => by obtain ⟨f, h, _⟩ := h; exact ⟨_, h⟩) tk_no (by decide) dX2_copyFrom_166 (fun z hz => ?_)
  obtain rfl : z = 40 := (fi_eq hz (by decide)).mpr rfl
  refine tk_copy (SP := 0) (DP := 0) (NC := 40) hx hb (by rw [hml]; exact hl.1.symm) hown (htl _ mw_1712) (htl _ mw_655) (htl _ mw_656) (htl _ mw_657) hK hG hS ht_b46 ht_b48 (by decide) (by decide) (fun _ h => h) (fun _ => Iff.rfl) tk_no tk_no (show (0 : Int32).toInt = 0 by decide) (show (0 : Int32).toInt = 0 by decide) (show (40 : Int32).toInt = 40 by decide) (by decide) (by decide) (by decide) (by decide) (by decide) (fun _ _ _ _ h => h) (tk_w.of ht_b48 (by decide) (List.mem_of_getElem? (i := 9) rfl) (Nat.le_refl _) (Nat.le_refl _)) (Nat.le_of_ble_eq_true rfl) (Nat.le_of_ble_eq_true rfl) dX2_copyFrom_167 (fun H locs hG hS hq9 => ?_)
  have hf1 := hf1.kept (hq9 _ (tk_ne ht_a1 ht_b48 (Or.inl (by decide))))
  have hf3 := hf3.kept (hq9 _ (tk_ne ht_a0 ht_b48 (Or.inl (by decide))))
  have hf18 := hf18.kept (hq9 _ (tk_ne ht_a1 ht_b48 (Or.inl (by decide))))
  have hf20 := hf20.kept (hq9 _ (tk_ne ht_a0 ht_b48 (Or.inl (by decide))))
  have hf28 := hf28.kept (hq9 _ (tk_ne ht_a1 ht_b48 (Or.inl (by decide))))
  have hf30 := hf30.kept (hq9 _ (tk_ne ht_a0 ht_b48 (Or.inl (by decide))))
  have hf41 := hf41.kept (hq9 _ (tk_ne ht_a1 ht_b48 (Or.inl (by decide))))
  have hf43 := hf43.kept (hq9 _ (tk_ne ht_a0 ht_b48 (Or.inl (by decide))))
  refine lv_aload_n hx hb dX2_copyFrom_170 rfl (lv_at hl 0 rfl) ?_
  refine lv_aload_n hx hb dX2_copyFrom_171 rfl (lv_at hl 1 rfl) ?_
  refine tk_get (ci := 2) (C := RX2) (T := TX2) (N := 20) (sp := (0, 0, 6, 0)) hx hb htl inX2 hown hK hG ht_a1 (by decide) tk_no rfl 13 (by decide) (htl _ mw_663) (fun _ h9 => h9) rfl dX2_copyFrom_172 (fun v9 hf52 hV9 => ?_)
  obtain ⟨v53, rfl, (ha_v53 : 0 ≤ v53.toInt), (hb_v53 : v53.toInt ≤ 6)⟩ := hV9
  refine tk_put (ci := 2) (v := .int v53) (ty := .int) (C := RX2) (T := TX2) (N := 20) (sp := (0, 0, 6, 0)) hx hb htl inX2 tyX2 tyX2_ok nmX2 hown hK hG hS ht_a0 (by decide) tk_no rfl 13 (by decide) (htl _ mw_663) (fun _ h9 => h9) rfl (tyX2_ok 13 (by decide)) rfl rfl rfl (tk_V0 (by omega) (by omega)) (fun _ h => h) (tk_w.of ht_a0 (by decide) (List.mem_of_getElem? (i := 0) rfl) (Nat.le_refl _) (Nat.le_refl _)) dX2_copyFrom_175 (fun H locs hG hS hf54 hq9 hj9 => ?_)
  have hf1 := hf1.kept (hq9 _ (tk_ne ht_a1 ht_a0 (Or.inr (Or.inr (by omega)))))
  have hf3 := hj9 0 _ (by decide) (by decide) hf3
  have hf18 := hf18.kept (hq9 _ (tk_ne ht_a1 ht_a0 (Or.inr (Or.inr (by omega)))))
  have hf20 := hj9 4 _ (by decide) (by decide) hf20
  have hf28 := hf28.kept (hq9 _ (tk_ne ht_a1 ht_a0 (Or.inr (Or.inr (by omega)))))
  have hf30 := hj9 7 _ (by decide) (by decide) hf30
  have hf41 := hf41.kept (hq9 _ (tk_ne ht_a1 ht_a0 (Or.inr (Or.inr (by omega)))))
  have hf43 := hj9 11 _ (by decide) (by decide) hf43
  have hf52 := hf52.kept (hq9 _ (tk_ne ht_a1 ht_a0 (Or.inr (Or.inr (by omega)))))
  refine lv_iconst (v := 0) hx hb dX2_copyFrom_178 (by decide) ?_
  refine lv_istore_n (lv' := [(2, .int 0), (0, .ref a0), (1, .ref a1)]) hx hb dX2_copyFrom_179 rfl hl (by decide) rfl (fun ls hl => ?_)
  have hl378 : ∀ (N_l378 : Nat) (v56 : Int32) (H : Heap) (locs : List Loc), v56.toInt ≤ 6 → 0 ≤ v56.toInt → (-1) * v56.toInt + 6 < (N_l378 : Int) → tk_G D cy ld t [] H → va_S (tk_w t [(3, rg0, rg0), (20, rg0, rg0), (21, rg0, rg0), (32, rg0, rg0), (33, rg0, rg0), (34, rg0, rg0), (35, rg0, rg0), (36, rg0, rg0), (37, rg0, rg0), (24, rg0, rg0), (28, rg0, rg0), (10, rg0, rg0)]) s.heap H locs → tk_f D H a1 2 0 (.int v2) → tk_f D H a0 2 0 (.int v2) → tk_f D H a1 2 4 (.int v19) → tk_f D H a0 2 4 (.int v19) → tk_f D H a1 2 7 (.int v29) → tk_f D H a0 2 7 (.int v29) → tk_f D H a1 2 11 (.int v42) → tk_f D H a0 2 11 (.int v42) → tk_f D H a1 2 13 (.int v53) → tk_f D H a0 2 13 (.int v53) → ∀ ls : Array Slot, lv_has ls 3 [(2, .int v56), (0, .ref a0), (1, .ref a1)] → W p l e ({ frames := 5, cells := 0, slots := 0, locals := 280 }) s m args below meth c H locs 0 0 (MQ below (tv D cy ld t [] (fun H => True) (tk_w t [(3, rg0, rg0), (20, rg0, rg0), (21, rg0, rg0), (32, rg0, rg0), (33, rg0, rg0), (34, rg0, rg0), (35, rg0, rg0), (36, rg0, rg0), (37, rg0, rg0), (24, rg0, rg0), (28, rg0, rg0), (10, rg0, rg0)])) args s 0 0 (tk_w t [(3, rg0, rg0), (20, rg0, rg0), (21, rg0, rg0), (32, rg0, rg0), (33, rg0, rg0), (34, rg0, rg0), (35, rg0, rg0), (36, rg0, rg0), (37, rg0, rg0), (24, rg0, rg0), (28, rg0, rg0), (10, rg0, rg0)])) (F0 m 180 ls []) := by
    intro N_l378
    induction N_l378 with
    | zero => intro v56 H locs hq0_l378 hq1_l378 hm_l378 hG hS hf1 hf3 hf18 hf20 hf28 hf30 hf41 hf43 hf52 hf54 ls hl; exfalso; omega
    | succ N_l378 ih_l378 =>
      intro v56 H locs hq0_l378 hq1_l378 hm_l378 hG hS hf1 hf3 hf18 hf20 hf28 hf30 hf41 hf43 hf52 hf54 ls hl
      refine lv_iload_n hx hb dX2_copyFrom_180 rfl (lv_at hl 0 rfl) ?_
      refine lv_bipush (v := 6) hx hb dX2_copyFrom_181 (by decide) ?_
      refine lv_icmp_ge (tgt := 204) hx hb dX2_copyFrom_183 (by decide) (fun c9 => ?_) (fun c9 => ?_)
      · have hc379 : 6 ≤ v56.toInt := (fi_le (show (6 : Int32).toInt = 6 by decide) rfl).mp c9
        refine lv_aload_n hx hb dX2_copyFrom_204 rfl (lv_at hl 1 rfl) ?_
        refine lv_aload_n hx hb dX2_copyFrom_205 rfl (lv_at hl 2 rfl) ?_
        refine tk_get (ci := 2) (C := RX2) (T := TX2) (N := 20) (sp := (0, (-2147483648), 2147483647, 0)) hx hb htl inX2 hown hK hG ht_a1 (by decide) tk_no rfl 15 (by decide) (htl _ mw_71) (fun _ h9 => h9) rfl dX2_copyFrom_206 (fun v9 hf394 hV9 => ?_)
        obtain ⟨v395, rfl, (ha_v395 : (-2147483648) ≤ v395.toInt), (hb_v395 : v395.toInt ≤ 2147483647)⟩ := hV9
        refine tk_put (ci := 2) (v := .int v395) (ty := .int) (C := RX2) (T := TX2) (N := 20) (sp := (0, (-2147483648), 2147483647, 0)) hx hb htl inX2 tyX2 tyX2_ok nmX2 hown hK hG hS ht_a0 (by decide) tk_no rfl 15 (by decide) (htl _ mw_71) (fun _ h9 => h9) rfl (tyX2_ok 15 (by decide)) rfl rfl rfl (tk_V0 (tk_rng _).1 (tk_rng _).2) (fun _ h => h) (tk_w.of ht_a0 (by decide) (List.mem_of_getElem? (i := 0) rfl) (Nat.le_refl _) (Nat.le_refl _)) dX2_copyFrom_209 (fun H locs hG hS hf396 hq9 hj9 => ?_)
        have hf1 := hf1.kept (hq9 _ (tk_ne ht_a1 ht_a0 (Or.inr (Or.inr (by omega)))))
        have hf3 := hj9 0 _ (by decide) (by decide) hf3
        have hf18 := hf18.kept (hq9 _ (tk_ne ht_a1 ht_a0 (Or.inr (Or.inr (by omega)))))
        have hf20 := hj9 4 _ (by decide) (by decide) hf20
        have hf28 := hf28.kept (hq9 _ (tk_ne ht_a1 ht_a0 (Or.inr (Or.inr (by omega)))))
        have hf30 := hj9 7 _ (by decide) (by decide) hf30
        have hf41 := hf41.kept (hq9 _ (tk_ne ht_a1 ht_a0 (Or.inr (Or.inr (by omega)))))
        have hf43 := hj9 11 _ (by decide) (by decide) hf43
        have hf52 := hf52.kept (hq9 _ (tk_ne ht_a1 ht_a0 (Or.inr (Or.inr (by omega)))))
        have hf54 := hj9 13 _ (by decide) (by decide) hf54
        have hf394 := hf394.kept (hq9 _ (tk_ne ht_a1 ht_a0 (Or.inr (Or.inr (by omega)))))
        refine lv_aload_n hx hb dX2_copyFrom_212 rfl (lv_at hl 1 rfl) ?_
        refine lv_aload_n hx hb dX2_copyFrom_213 rfl (lv_at hl 2 rfl) ?_
        refine tk_get (ci := 2) (C := RX2) (T := TX2) (N := 20) (sp := (0, (-2147483648), 2147483647, 0)) hx hb htl inX2 hown hK hG ht_a1 (by decide) tk_no rfl 16 (by decide) (htl _ mw_72) (fun _ h9 => h9) rfl dX2_copyFrom_214 (fun v9 hf398 hV9 => ?_)
        obtain ⟨v399, rfl, (ha_v399 : (-2147483648) ≤ v399.toInt), (hb_v399 : v399.toInt ≤ 2147483647)⟩ := hV9
        refine tk_put (ci := 2) (v := .int v399) (ty := .int) (C := RX2) (T := TX2) (N := 20) (sp := (0, (-2147483648), 2147483647, 0)) hx hb htl inX2 tyX2 tyX2_ok nmX2 hown hK hG hS ht_a0 (by decide) tk_no rfl 16 (by decide) (htl _ mw_72) (fun _ h9 => h9) rfl (tyX2_ok 16 (by decide)) rfl rfl rfl (tk_V0 (tk_rng _).1 (tk_rng _).2) (fun _ h => h) (tk_w.of ht_a0 (by decide) (List.mem_of_getElem? (i := 0) rfl) (Nat.le_refl _) (Nat.le_refl _)) dX2_copyFrom_217 (fun H locs hG hS hf400 hq9 hj9 => ?_)
        have hf1 := hf1.kept (hq9 _ (tk_ne ht_a1 ht_a0 (Or.inr (Or.inr (by omega)))))
        have hf3 := hj9 0 _ (by decide) (by decide) hf3
        have hf18 := hf18.kept (hq9 _ (tk_ne ht_a1 ht_a0 (Or.inr (Or.inr (by omega)))))
        have hf20 := hj9 4 _ (by decide) (by decide) hf20
        have hf28 := hf28.kept (hq9 _ (tk_ne ht_a1 ht_a0 (Or.inr (Or.inr (by omega)))))
        have hf30 := hj9 7 _ (by decide) (by decide) hf30
        have hf41 := hf41.kept (hq9 _ (tk_ne ht_a1 ht_a0 (Or.inr (Or.inr (by omega)))))
        have hf43 := hj9 11 _ (by decide) (by decide) hf43
        have hf52 := hf52.kept (hq9 _ (tk_ne ht_a1 ht_a0 (Or.inr (Or.inr (by omega)))))
        have hf54 := hj9 13 _ (by decide) (by decide) hf54
        have hf394 := hf394.kept (hq9 _ (tk_ne ht_a1 ht_a0 (Or.inr (Or.inr (by omega)))))
        have hf396 := hj9 15 _ (by decide) (by decide) hf396
        refine lv_aload_n hx hb dX2_copyFrom_220 rfl (lv_at hl 1 rfl) ?_
        refine lv_aload_n hx hb dX2_copyFrom_221 rfl (lv_at hl 2 rfl) ?_
        refine tk_get (ci := 2) (C := RX2) (T := TX2) (N := 20) (sp := (0, (-2147483648), 2147483647, 0)) hx hb htl inX2 hown hK hG ht_a1 (by decide) tk_no rfl 17 (by decide) (htl _ mw_73) (fun _ h9 => h9) rfl dX2_copyFrom_222 (fun v9 hf402 hV9 => ?_)
        obtain ⟨v403, rfl, (ha_v403 : (-2147483648) ≤ v403.toInt), (hb_v403 : v403.toInt ≤ 2147483647)⟩ := hV9
        refine tk_put (ci := 2) (v := .int v403) (ty := .int) (C := RX2) (T := TX2) (N := 20) (sp := (0, (-2147483648), 2147483647, 0)) hx hb htl inX2 tyX2 tyX2_ok nmX2 hown hK hG hS ht_a0 (by decide) tk_no rfl 17 (by decide) (htl _ mw_73) (fun _ h9 => h9) rfl (tyX2_ok 17 (by decide)) rfl rfl rfl (tk_V0 (tk_rng _).1 (tk_rng _).2) (fun _ h => h) (tk_w.of ht_a0 (by decide) (List.mem_of_getElem? (i := 0) rfl) (Nat.le_refl _) (Nat.le_refl _)) dX2_copyFrom_225 (fun H locs hG hS hf404 hq9 hj9 => ?_)
        have hf1 := hf1.kept (hq9 _ (tk_ne ht_a1 ht_a0 (Or.inr (Or.inr (by omega)))))
        have hf3 := hj9 0 _ (by decide) (by decide) hf3
        have hf18 := hf18.kept (hq9 _ (tk_ne ht_a1 ht_a0 (Or.inr (Or.inr (by omega)))))
        have hf20 := hj9 4 _ (by decide) (by decide) hf20
        have hf28 := hf28.kept (hq9 _ (tk_ne ht_a1 ht_a0 (Or.inr (Or.inr (by omega)))))
        have hf30 := hj9 7 _ (by decide) (by decide) hf30
        have hf41 := hf41.kept (hq9 _ (tk_ne ht_a1 ht_a0 (Or.inr (Or.inr (by omega)))))
        have hf43 := hj9 11 _ (by decide) (by decide) hf43
        have hf52 := hf52.kept (hq9 _ (tk_ne ht_a1 ht_a0 (Or.inr (Or.inr (by omega)))))
        have hf54 := hj9 13 _ (by decide) (by decide) hf54
        have hf394 := hf394.kept (hq9 _ (tk_ne ht_a1 ht_a0 (Or.inr (Or.inr (by omega)))))
        have hf396 := hj9 15 _ (by decide) (by decide) hf396
        refine lv_aload_n hx hb dX2_copyFrom_228 rfl (lv_at hl 1 rfl) ?_
        refine lv_aload_n hx hb dX2_copyFrom_229 rfl (lv_at hl 2 rfl) ?_
        refine tk_get (ci := 2) (C := RX2) (T := TX2) (N := 20) (sp := (0, (-2147483648), 2147483647, 0)) hx hb htl inX2 hown hK hG ht_a1 (by decide) tk_no rfl 18 (by decide) (htl _ mw_409) (fun _ h9 => h9) rfl dX2_copyFrom_230 (fun v9 hf406 hV9 => ?_)
        obtain ⟨v407, rfl, (ha_v407 : (-2147483648) ≤ v407.toInt), (hb_v407 : v407.toInt ≤ 2147483647)⟩ := hV9
        refine tk_put (ci := 2) (v := .int v407) (ty := .int) (C := RX2) (T := TX2) (N := 20) (sp := (0, (-2147483648), 2147483647, 0)) hx hb htl inX2 tyX2 tyX2_ok nmX2 hown hK hG hS ht_a0 (by decide) tk_no rfl 18 (by decide) (htl _ mw_409) (fun _ h9 => h9) rfl (tyX2_ok 18 (by decide)) rfl rfl rfl (tk_V0 (tk_rng _).1 (tk_rng _).2) (fun _ h => h) (tk_w.of ht_a0 (by decide) (List.mem_of_getElem? (i := 0) rfl) (Nat.le_refl _) (Nat.le_refl _)) dX2_copyFrom_233 (fun H locs hG hS hf408 hq9 hj9 => ?_)
        have hf1 := hf1.kept (hq9 _ (tk_ne ht_a1 ht_a0 (Or.inr (Or.inr (by omega)))))
        have hf3 := hj9 0 _ (by decide) (by decide) hf3
        have hf18 := hf18.kept (hq9 _ (tk_ne ht_a1 ht_a0 (Or.inr (Or.inr (by omega)))))
        have hf20 := hj9 4 _ (by decide) (by decide) hf20
        have hf28 := hf28.kept (hq9 _ (tk_ne ht_a1 ht_a0 (Or.inr (Or.inr (by omega)))))
        have hf30 := hj9 7 _ (by decide) (by decide) hf30
        have hf41 := hf41.kept (hq9 _ (tk_ne ht_a1 ht_a0 (Or.inr (Or.inr (by omega)))))
        have hf43 := hj9 11 _ (by decide) (by decide) hf43
        have hf52 := hf52.kept (hq9 _ (tk_ne ht_a1 ht_a0 (Or.inr (Or.inr (by omega)))))
        have hf54 := hj9 13 _ (by decide) (by decide) hf54
        have hf394 := hf394.kept (hq9 _ (tk_ne ht_a1 ht_a0 (Or.inr (Or.inr (by omega)))))
        have hf396 := hj9 15 _ (by decide) (by decide) hf396
        refine lv_aload_n hx hb dX2_copyFrom_236 rfl (lv_at hl 1 rfl) ?_
        refine tk_get (ci := 2) (C := RX2) (T := TX2) (N := 20) (sp := (9, 40, 10, 0)) hx hb htl inX2 hown hK hG ht_a0 (by decide) tk_no rfl 19 (by decide) (htl _ mw_77) (fun _ h9 => h9) rfl dX2_copyFrom_237 (fun v9 hf410 hV9 => ?_)
        obtain ⟨rfl, ht_ld40rg0⟩ := hV9
        have ht_ld40rg0 : t (ld (40 + rg0)) = (10, 0, rg0) := ht_ld40rg0
        refine fx_top (v := .ref (ld (40 + rg0))) rfl ?_
        refine lv_aload_n hx hb dX2_copyFrom_240 rfl (lv_at hl 2 rfl) ?_
        refine tk_get (ci := 2) (C := RX2) (T := TX2) (N := 20) (sp := (9, 40, 10, 0)) hx hb htl inX2 hown hK hG ht_a1 (by decide) tk_no rfl 19 (by decide) (htl _ mw_77) (fun _ h9 => h9) rfl dX2_copyFrom_241 (fun v9 hf411 hV9 => ?_)
        obtain ⟨rfl, ht_ld40rg1⟩ := hV9
        have ht_ld40rg1 : t (ld (40 + rg1)) = (10, 0, rg1) := ht_ld40rg1
        refine fx_top (v := .ref (ld (40 + rg1))) rfl ?_
        obtain ⟨v9, hf412, hV9⟩ := tk_peek (ci := 9) (C := RX9) (T := TX9) (N := 11) (sp := (0, (-1), 7, 0)) hG ht_ld40rg1 (by decide) tk_no rfl 5 (by decide) rfl
        obtain ⟨v413, rfl, (ha_v413 : (-1) ≤ v413.toInt), (hb_v413 : v413.toInt ≤ 7)⟩ := hV9
        refine tk_Vv (As := [.ref (ld (40 + rg1))]) (rest := []) (ci := 9) ⟨hx, hb, hml, hown, hts⟩ hK hG hZ hS (k_X9_copyFrom l D cy ld t rg0 rg1 (ld (40 + rg0)) (ld (40 + rg1)) v413 ht_ld40rg0 ht_ld40rg1 (by omega) (by omega) (by omega)) hf412 ⟨callB_of 1 hts (wl_in mw_821) rfl rfl rfl (htl _ mw_76) (htl _ mw_1713) hd_yX9_copyFrom ⟨(Nat.le_of_ble_eq_true rfl), (Nat.le_of_ble_eq_true rfl)⟩, htl _ mw_819, htl _ mw_820⟩ ht_ld40rg0 (by decide) tk_no rfl (tk_w.pick [1, 11] rfl) rfl hl.1 rfl (Nat.le_of_ble_eq_true rfl) dX2_copyFrom_244 ⟨(Nat.le_of_ble_eq_true rfl), (Nat.le_of_ble_eq_true rfl)⟩ (fun H locs hpo hG hS hq9 => ?_)
        have hf1 := hf1.call hq9 (tk_w.no ht_a1 (by intro q hq h1 h2 h3; simp only [List.mem_cons, List.not_mem_nil, or_false] at hq; rcases hq with rfl | rfl <;> (dsimp only at h1 h2 h3; omega)))
        have hf3 := hf3.call hq9 (tk_w.no ht_a0 (by intro q hq h1 h2 h3; simp only [List.mem_cons, List.not_mem_nil, or_false] at hq; rcases hq with rfl | rfl <;> (dsimp only at h1 h2 h3; omega)))
        have hf18 := hf18.call hq9 (tk_w.no ht_a1 (by intro q hq h1 h2 h3; simp only [List.mem_cons, List.not_mem_nil, or_false] at hq; rcases hq with rfl | rfl <;> (dsimp only at h1 h2 h3; omega)))
        have hf20 := hf20.call hq9 (tk_w.no ht_a0 (by intro q hq h1 h2 h3; simp only [List.mem_cons, List.not_mem_nil, or_false] at hq; rcases hq with rfl | rfl <;> (dsimp only at h1 h2 h3; omega)))
        have hf28 := hf28.call hq9 (tk_w.no ht_a1 (by intro q hq h1 h2 h3; simp only [List.mem_cons, List.not_mem_nil, or_false] at hq; rcases hq with rfl | rfl <;> (dsimp only at h1 h2 h3; omega)))
        have hf30 := hf30.call hq9 (tk_w.no ht_a0 (by intro q hq h1 h2 h3; simp only [List.mem_cons, List.not_mem_nil, or_false] at hq; rcases hq with rfl | rfl <;> (dsimp only at h1 h2 h3; omega)))
        have hf41 := hf41.call hq9 (tk_w.no ht_a1 (by intro q hq h1 h2 h3; simp only [List.mem_cons, List.not_mem_nil, or_false] at hq; rcases hq with rfl | rfl <;> (dsimp only at h1 h2 h3; omega)))
        have hf43 := hf43.call hq9 (tk_w.no ht_a0 (by intro q hq h1 h2 h3; simp only [List.mem_cons, List.not_mem_nil, or_false] at hq; rcases hq with rfl | rfl <;> (dsimp only at h1 h2 h3; omega)))
        have hf52 := hf52.call hq9 (tk_w.no ht_a1 (by intro q hq h1 h2 h3; simp only [List.mem_cons, List.not_mem_nil, or_false] at hq; rcases hq with rfl | rfl <;> (dsimp only at h1 h2 h3; omega)))
        have hf54 := hf54.call hq9 (tk_w.no ht_a0 (by intro q hq h1 h2 h3; simp only [List.mem_cons, List.not_mem_nil, or_false] at hq; rcases hq with rfl | rfl <;> (dsimp only at h1 h2 h3; omega)))
        have hf394 := hf394.call hq9 (tk_w.no ht_a1 (by intro q hq h1 h2 h3; simp only [List.mem_cons, List.not_mem_nil, or_false] at hq; rcases hq with rfl | rfl <;> (dsimp only at h1 h2 h3; omega)))
        have hf396 := hf396.call hq9 (tk_w.no ht_a0 (by intro q hq h1 h2 h3; simp only [List.mem_cons, List.not_mem_nil, or_false] at hq; rcases hq with rfl | rfl <;> (dsimp only at h1 h2 h3; omega)))
        have hf412 := hf412.call hq9 (tk_w.no ht_ld40rg1 (by intro q hq h1 h2 h3; simp only [List.mem_cons, List.not_mem_nil, or_false] at hq; rcases hq with rfl | rfl <;> (dsimp only at h1 h2 h3; omega)))
        have hf415 := hpo
        exact tk_vret hx hb hr hlocks trivial hG hS dX2_copyFrom_247
      · have hc379 : ¬ (6 ≤ v56.toInt) := fun h9 => c9 ((fi_le (show (6 : Int32).toInt = 6 by decide) rfl).mpr h9)
        refine lv_aload_n hx hb dX2_copyFrom_186 rfl (lv_at hl 1 rfl) ?_
        refine tk_get (ci := 2) (C := RX2) (T := TX2) (N := 20) (sp := (1, 28, 6, 0)) hx hb htl inX2 hown hK hG ht_a0 (by decide) tk_no rfl 14 (by decide) (htl _ mw_70) (fun _ h9 => h9) rfl dX2_copyFrom_187 (fun v9 hf416 hV9 => ?_)
        obtain ⟨b417, rfl, ht_b417⟩ := hV9
        have ht_b417 : t b417 = (28, 6, rg0) := ht_b417
        refine lv_iload_n hx hb dX2_copyFrom_190 rfl (lv_at hl 0 rfl) ?_
        refine lv_aload_n hx hb dX2_copyFrom_191 rfl (lv_at hl 2 rfl) ?_
        refine tk_get (ci := 2) (C := RX2) (T := TX2) (N := 20) (sp := (1, 28, 6, 0)) hx hb htl inX2 hown hK hG ht_a1 (by decide) tk_no rfl 14 (by decide) (htl _ mw_70) (fun _ h9 => h9) rfl dX2_copyFrom_192 (fun v9 hf418 hV9 => ?_)
        obtain ⟨b419, rfl, ht_b419⟩ := hV9
        have ht_b419 : t b419 = (28, 6, rg1) := ht_b419
        refine lv_iload_n hx hb dX2_copyFrom_195 rfl (lv_at hl 0 rfl) ?_
        refine tk_aald hx hb hK hG 5 rfl rfl ht_b419 (by decide) (fun _ h => h) tk_no rfl (by omega) (by omega) dX2_copyFrom_196 (fun o420 ht_o420 => ?_)
        have hj426 : ∀ (H : Heap) (locs : List Loc), tk_G D cy ld t [] H → va_S (tk_w t [(3, rg0, rg0), (20, rg0, rg0), (21, rg0, rg0), (32, rg0, rg0), (33, rg0, rg0), (34, rg0, rg0), (35, rg0, rg0), (36, rg0, rg0), (37, rg0, rg0), (24, rg0, rg0), (28, rg0, rg0), (10, rg0, rg0)]) s.heap H locs → tk_f D H a1 2 0 (.int v2) → tk_f D H a0 2 0 (.int v2) → tk_f D H a1 2 4 (.int v19) → tk_f D H a0 2 4 (.int v19) → tk_f D H a1 2 7 (.int v29) → tk_f D H a0 2 7 (.int v29) → tk_f D H a1 2 11 (.int v42) → tk_f D H a0 2 11 (.int v42) → tk_f D H a1 2 13 (.int v53) → tk_f D H a0 2 13 (.int v53) → ∀ ls : Array Slot, lv_has ls 3 [(2, .int v56), (0, .ref a0), (1, .ref a1)] → W p l e ({ frames := 5, cells := 0, slots := 0, locals := 280 }) s m args below meth c H locs 0 0 (MQ below (tv D cy ld t [] (fun H => True) (tk_w t [(3, rg0, rg0), (20, rg0, rg0), (21, rg0, rg0), (32, rg0, rg0), (33, rg0, rg0), (34, rg0, rg0), (35, rg0, rg0), (36, rg0, rg0), (37, rg0, rg0), (24, rg0, rg0), (28, rg0, rg0), (10, rg0, rg0)])) args s 0 0 (tk_w t [(3, rg0, rg0), (20, rg0, rg0), (21, rg0, rg0), (32, rg0, rg0), (33, rg0, rg0), (34, rg0, rg0), (35, rg0, rg0), (36, rg0, rg0), (37, rg0, rg0), (24, rg0, rg0), (28, rg0, rg0), (10, rg0, rg0)])) (F0 m 198 ls []) := by
          intro H locs hG hS hf1 hf3 hf18 hf20 hf28 hf30 hf41 hf43 hf52 hf54 ls hl
          obtain ⟨v427, h_v427, e_v427⟩ := tk_inc v56 1 (by decide) (by omega) (by omega)
          refine lv_iinc (v := v427) (lv' := [(2, .int v427), (0, .ref a0), (1, .ref a1)]) hx hb dX2_copyFrom_198 hl (k := 0) rfl e_v427 (by decide) rfl (fun ls hl => ?_)
          refine lv_goto (tgt := 180) hx hb dX2_copyFrom_201 (by decide) ?_
          exact ih_l378 v427 _ _ (by omega) (by omega) (by omega) hG hS hf1 hf3 hf18 hf20 hf28 hf30 hf41 hf43 hf52 hf54 _ (lv_sub hl [0, 1, 2] rfl)
        rcases o420 with _ | b421
        · refine fx_top (v := .null) rfl ?_
          refine tk_aastN hx hb hK hG hS 5 rfl ht_b417 (by decide) (fun _ => Iff.rfl) tk_no rfl (by omega) (by omega) (fun _ h => by cases h) (tk_w.of ht_b417 (by decide) (List.mem_of_getElem? (i := 10) rfl) (Nat.le_refl _) (Nat.le_refl _)) dX2_copyFrom_197 (fun H locs hG hS hq9 => ?_)
          have hf1 := hf1.kept (hq9 _ (tk_ne ht_a1 ht_b417 (Or.inl (by decide))))
          have hf3 := hf3.kept (hq9 _ (tk_ne ht_a0 ht_b417 (Or.inl (by decide))))
          have hf18 := hf18.kept (hq9 _ (tk_ne ht_a1 ht_b417 (Or.inl (by decide))))
          have hf20 := hf20.kept (hq9 _ (tk_ne ht_a0 ht_b417 (Or.inl (by decide))))
          have hf28 := hf28.kept (hq9 _ (tk_ne ht_a1 ht_b417 (Or.inl (by decide))))
          have hf30 := hf30.kept (hq9 _ (tk_ne ht_a0 ht_b417 (Or.inl (by decide))))
          have hf41 := hf41.kept (hq9 _ (tk_ne ht_a1 ht_b417 (Or.inl (by decide))))
          have hf43 := hf43.kept (hq9 _ (tk_ne ht_a0 ht_b417 (Or.inl (by decide))))
          have hf52 := hf52.kept (hq9 _ (tk_ne ht_a1 ht_b417 (Or.inl (by decide))))
          have hf54 := hf54.kept (hq9 _ (tk_ne ht_a0 ht_b417 (Or.inl (by decide))))
          exact hj426 _ _ hG hS hf1 hf3 hf18 hf20 hf28 hf30 hf41 hf43 hf52 hf54 _ (lv_sub hl [0, 1, 2] rfl)
        · obtain ⟨n_b421, r_b421, ht_b421⟩ := ht_o420 b421 rfl
          refine fx_top (v := .ref b421) rfl ?_
          refine tk_aast (ci := 7) hx hb hK hG hS 5 rfl ht_b417 (by decide) (fun _ => Iff.rfl) tk_no ht_b421 (by decide) tk_no rfl rfl (by omega) (by omega) (fun _ h => by cases h; exact ⟨_, _, ht_b421⟩) (tk_w.of ht_b417 (by decide) (List.mem_of_getElem? (i := 10) rfl) (Nat.le_refl _) (Nat.le_refl _)) dX2_copyFrom_197 (fun H locs hG hS hq9 => ?_)
          have hf1 := hf1.kept (hq9 _ (tk_ne ht_a1 ht_b417 (Or.inl (by decide))))
          have hf3 := hf3.kept (hq9 _ (tk_ne ht_a0 ht_b417 (Or.inl (by decide))))
          have hf18 := hf18.kept (hq9 _ (tk_ne ht_a1 ht_b417 (Or.inl (by decide))))
          have hf20 := hf20.kept (hq9 _ (tk_ne ht_a0 ht_b417 (Or.inl (by decide))))
          have hf28 := hf28.kept (hq9 _ (tk_ne ht_a1 ht_b417 (Or.inl (by decide))))
          have hf30 := hf30.kept (hq9 _ (tk_ne ht_a0 ht_b417 (Or.inl (by decide))))
          have hf41 := hf41.kept (hq9 _ (tk_ne ht_a1 ht_b417 (Or.inl (by decide))))
          have hf43 := hf43.kept (hq9 _ (tk_ne ht_a0 ht_b417 (Or.inl (by decide))))
          have hf52 := hf52.kept (hq9 _ (tk_ne ht_a1 ht_b417 (Or.inl (by decide))))
          have hf54 := hf54.kept (hq9 _ (tk_ne ht_a0 ht_b417 (Or.inl (by decide))))
          exact hj426 _ _ hG hS hf1 hf3 hf18 hf20 hf28 hf30 hf41 hf43 hf52 hf54 _ (lv_sub hl [0, 1, 2] rfl)
  have hk_0 : (0 : Int32).toInt = 0 := by decide
  exact hl378 7 0 _ _ (by omega) (by omega) (by omega) hG hS hf1 hf3 hf18 hf20 hf28 hf30 hf41 hf43 hf52 hf54 _ (lv_sub hl [0, 1, 2] rfl)
theorem dX2_isOfClan_0 : decode cX2_isOfClan 0 = .ok (.aload_n 0, 1) := by decide +kernel
theorem dX2_isOfClan_1 : decode cX2_isOfClan 1 = .ok (.iload_n 1, 1) := by decide +kernel
theorem dX2_isOfClan_2 : decode cX2_isOfClan 2 = .ok (.invokevirtual 90, 3) := by decide +kernel
theorem dX2_isOfClan_5 : decode cX2_isOfClan 5 = .ok (.ifCond .eq 17, 3) := by decide +kernel
theorem dX2_isOfClan_22 : decode cX2_isOfClan 22 = .ok (.iconst 0, 1) := by decide +kernel
theorem dX2_isOfClan_23 : decode cX2_isOfClan 23 = .ok (.ireturn, 1) := by decide +kernel
theorem dX2_isOfClan_8 : decode cX2_isOfClan 8 = .ok (.aload_n 0, 1) := by decide +kernel
theorem dX2_isOfClan_9 : decode cX2_isOfClan 9 = .ok (.getfield 15, 3) := by decide +kernel
theorem dX2_isOfClan_12 : decode cX2_isOfClan 12 = .ok (.iload_n 1, 1) := by decide +kernel
theorem dX2_isOfClan_13 : decode cX2_isOfClan 13 = .ok (.iaload, 1) := by decide +kernel
theorem dX2_isOfClan_14 : decode cX2_isOfClan 14 = .ok (.iload_n 2, 1) := by decide +kernel
theorem dX2_isOfClan_15 : decode cX2_isOfClan 15 = .ok (.if_icmp .ne 7, 3) := by decide +kernel
theorem dX2_isOfClan_18 : decode cX2_isOfClan 18 = .ok (.iconst 1, 1) := by decide +kernel
theorem dX2_isOfClan_19 : decode cX2_isOfClan 19 = .ok (.goto 4, 3) := by decide +kernel
set_option maxHeartbeats 4000000 in
set_option maxRecDepth 100000 in
theorem k_X2_isOfClan (l : Launch) (D : va_G) (cy : Nat → ClassId) (ld : Nat → Nat) (t : tk_T) (a0 : Nat) (p1 : Int32) (p2 : Int32) (ht_a0 : t a0 = (3, 0, 0)) : Met l yX2_isOfClan (wl yX2_isOfClan cX2_isOfClan 3 (some .boolean)) ({ frames := 4, cells := 0, slots := 0, locals := 210 }) (tp D cy ld t [] [.ref a0, .int p1, .int p2] (fun H => True)) (ti D cy ld t [] (fun r H => (1 ≤ r.toInt → 0 ≤ p1.toInt ∧ p1.toInt ≤ 7) ∧ 0 ≤ r.toInt ∧ r.toInt ≤ 1 ∧ 0 ≤ r.toInt ∧ r.toInt ≤ 1) (tk_w t [])) 0 0 (tk_w t []) := by
  refine tk_met (y := yX2_isOfClan) (cc := cX2_isOfClan) (maxL := 3) (ret := (some .boolean)) (av := [.ref a0, .int p1, .int p2]) _ _ (by decide) (Nat.le_of_ble_eq_true rfl) ?_
  intro p e s m args below meth c hx hb hr hml hts htl hown hlocks hK H locs hH hG hS hB hZ ls hl
  have hown : s.vm.findClass RX2 = some m.cls := hown
  have hl : lv_has ls 3 [(0, .ref a0), (1, .int p1), (2, .int p2)] := hl
  have hr_p1 := tk_rng p1
  have hr_p2 := tk_rng p2
  refine lv_aload_n hx hb dX2_isOfClan_0 rfl (lv_at hl 0 rfl) ?_
  refine lv_iload_n hx hb dX2_isOfClan_1 rfl (lv_at hl 1 rfl) ?_
  refine tk_Vi (As := [.int p1]) (rest := []) (ci := 2) ⟨hx, hb, hml, hown, hts⟩ hK hG hZ hS (k_X2_isSinger l D cy ld t a0 p1 ht_a0) trivial ⟨callB_of 1 hts (wl_in mw_311) rfl rfl rfl (htl _ mw_14) (htl _ mw_880) hd_yX2_isSinger ⟨(Nat.le_of_ble_eq_true rfl), (Nat.le_of_ble_eq_true rfl)⟩, htl _ mw_309, htl _ mw_310⟩ ht_a0 (by decide) tk_no rfl (tk_w.pick [] rfl) rfl hl.1 rfl (Nat.le_of_ble_eq_true rfl) dX2_isOfClan_2 ⟨(Nat.le_of_ble_eq_true rfl), (Nat.le_of_ble_eq_true rfl)⟩ (fun v1 H locs hpo hG hS hq9 => ?_)
  obtain ⟨hpo3, hpo4, hpo5, hpo6, hpo7⟩ := hpo
  refine lv_if_eq (tgt := 22) hx hb dX2_isOfClan_5 (by decide) (fun c9 => ?_) (fun c9 => ?_)
  · have hc8 : v1.toInt = 0 := (fi_eq rfl (show (0 : Int32).toInt = 0 by decide)).mp c9
    refine lv_iconst (v := 0) hx hb dX2_isOfClan_22 (by decide) ?_
    have hk_0 : (0 : Int32).toInt = 0 := by decide
    exact tk_iret (v := 0) hx hb hr rfl hlocks (show (1 ≤ (0 : Int32).toInt → 0 ≤ p1.toInt ∧ p1.toInt ≤ 7) ∧ 0 ≤ (0 : Int32).toInt ∧ (0 : Int32).toInt ≤ 1 ∧ 0 ≤ (0 : Int32).toInt ∧ (0 : Int32).toInt ≤ 1 from ⟨(fun _ => ⟨by omega, by omega⟩), (by omega), (by omega), (by omega), (by omega)⟩) hG hS dX2_isOfClan_23
  · have hc8 : ¬ (v1.toInt = 0) := fun h9 => c9 ((fi_eq rfl (show (0 : Int32).toInt = 0 by decide)).mpr h9)
    refine lv_aload_n hx hb dX2_isOfClan_8 rfl (lv_at hl 0 rfl) ?_
    refine tk_get (ci := 2) (C := RX2) (T := TX2) (N := 20) (sp := (1, 21, 8, 0)) hx hb htl inX2 hown hK hG ht_a0 (by decide) tk_no rfl 2 (by decide) (htl _ mw_61) (fun _ h9 => h9) rfl dX2_isOfClan_9 (fun v9 hf9 hV9 => ?_)
    obtain ⟨b10, rfl, ht_b10⟩ := hV9
    have ht_b10 : t b10 = (21, 8, 0) := ht_b10
    refine lv_iload_n hx hb dX2_isOfClan_12 rfl (lv_at hl 1 rfl) ?_
    refine tk_iald hx hb hK hG ht_b10 (by decide) (fun _ h => h) tk_no rfl (by omega) (by omega) dX2_isOfClan_13 (fun v11 hE9 _ => ?_)
    have he_v11 : 0 ≤ v11.toInt ∧ v11.toInt ≤ 1 := hE9
    refine lv_iload_n hx hb dX2_isOfClan_14 rfl (lv_at hl 2 rfl) ?_
    refine lv_icmp_ne (tgt := 22) hx hb dX2_isOfClan_15 (by decide) (fun c9 => ?_) (fun c9 => ?_)
    · have hc12 : ¬ (v11.toInt = p2.toInt) := fun h9 => c9 ((fi_eq rfl rfl).mpr h9)
      refine lv_iconst (v := 0) hx hb dX2_isOfClan_22 (by decide) ?_
      have hk_0 : (0 : Int32).toInt = 0 := by decide
      exact tk_iret (v := 0) hx hb hr rfl hlocks (show (1 ≤ (0 : Int32).toInt → 0 ≤ p1.toInt ∧ p1.toInt ≤ 7) ∧ 0 ≤ (0 : Int32).toInt ∧ (0 : Int32).toInt ≤ 1 ∧ 0 ≤ (0 : Int32).toInt ∧ (0 : Int32).toInt ≤ 1 from ⟨(fun _ => ⟨by omega, by omega⟩), (by omega), (by omega), (by omega), (by omega)⟩) hG hS dX2_isOfClan_23
    · have hc12 : v11.toInt = p2.toInt := (fi_eq rfl rfl).mp c9
      refine lv_iconst (v := 1) hx hb dX2_isOfClan_18 (by decide) ?_
      refine lv_goto (tgt := 23) hx hb dX2_isOfClan_19 (by decide) ?_
      have hk_1 : (1 : Int32).toInt = 1 := by decide
      exact tk_iret (v := 1) hx hb hr rfl hlocks (show (1 ≤ (1 : Int32).toInt → 0 ≤ p1.toInt ∧ p1.toInt ≤ 7) ∧ 0 ≤ (1 : Int32).toInt ∧ (1 : Int32).toInt ≤ 1 ∧ 0 ≤ (1 : Int32).toInt ∧ (1 : Int32).toInt ≤ 1 from ⟨(fun _ => ⟨by omega, by omega⟩), (by omega), (by omega), (by omega), (by omega)⟩) hG hS dX2_isOfClan_23
theorem dX2_addSinger_0 : decode cX2_addSinger 0 = .ok (.iload_n 1, 1) := by decide +kernel
theorem dX2_addSinger_1 : decode cX2_addSinger 1 = .ok (.iconst 0, 1) := by decide +kernel
theorem dX2_addSinger_2 : decode cX2_addSinger 2 = .ok (.sipush 999, 3) := by decide +kernel
theorem dX2_addSinger_5 : decode cX2_addSinger 5 = .ok (.invokestatic 94, 3) := by decide +kernel
theorem dX2_addSinger_8 : decode cX2_addSinger 8 = .ok (.ifCond .eq 22, 3) := by decide +kernel
theorem dX2_addSinger_30 : decode cX2_addSinger 30 = .ok (.iconst (-1), 1) := by decide +kernel
theorem dX2_addSinger_31 : decode cX2_addSinger 31 = .ok (.ireturn, 1) := by decide +kernel
theorem dX2_addSinger_11 : decode cX2_addSinger 11 = .ok (.iload_n 2, 1) := by decide +kernel
theorem dX2_addSinger_12 : decode cX2_addSinger 12 = .ok (.iconst 0, 1) := by decide +kernel
theorem dX2_addSinger_13 : decode cX2_addSinger 13 = .ok (.bipush 9, 2) := by decide +kernel
theorem dX2_addSinger_15 : decode cX2_addSinger 15 = .ok (.invokestatic 94, 3) := by decide +kernel
theorem dX2_addSinger_18 : decode cX2_addSinger 18 = .ok (.ifCond .eq 12, 3) := by decide +kernel
theorem dX2_addSinger_21 : decode cX2_addSinger 21 = .ok (.iload_n 3, 1) := by decide +kernel
theorem dX2_addSinger_22 : decode cX2_addSinger 22 = .ok (.iconst 0, 1) := by decide +kernel
theorem dX2_addSinger_23 : decode cX2_addSinger 23 = .ok (.iconst 1, 1) := by decide +kernel
theorem dX2_addSinger_24 : decode cX2_addSinger 24 = .ok (.invokestatic 94, 3) := by decide +kernel
theorem dX2_addSinger_27 : decode cX2_addSinger 27 = .ok (.ifCond .ne 5, 3) := by decide +kernel
theorem dX2_addSinger_32 : decode cX2_addSinger 32 = .ok (.aload_n 0, 1) := by decide +kernel
theorem dX2_addSinger_33 : decode cX2_addSinger 33 = .ok (.getfield 62, 3) := by decide +kernel
theorem dX2_addSinger_36 : decode cX2_addSinger 36 = .ok (.bipush 8, 2) := by decide +kernel
theorem dX2_addSinger_38 : decode cX2_addSinger 38 = .ok (.if_icmp .lt 6, 3) := by decide +kernel
theorem dX2_addSinger_44 : decode cX2_addSinger 44 = .ok (.aload_n 0, 1) := by decide +kernel
theorem dX2_addSinger_45 : decode cX2_addSinger 45 = .ok (.getfield 62, 3) := by decide +kernel
theorem dX2_addSinger_48 : decode cX2_addSinger 48 = .ok (.istore 4, 2) := by decide +kernel
theorem dX2_addSinger_50 : decode cX2_addSinger 50 = .ok (.aload_n 0, 1) := by decide +kernel
theorem dX2_addSinger_51 : decode cX2_addSinger 51 = .ok (.getfield 9, 3) := by decide +kernel
theorem dX2_addSinger_54 : decode cX2_addSinger 54 = .ok (.iload 4, 2) := by decide +kernel
theorem dX2_addSinger_56 : decode cX2_addSinger 56 = .ok (.iload_n 2, 1) := by decide +kernel
theorem dX2_addSinger_57 : decode cX2_addSinger 57 = .ok (.iastore, 1) := by decide +kernel
theorem dX2_addSinger_58 : decode cX2_addSinger 58 = .ok (.aload_n 0, 1) := by decide +kernel
theorem dX2_addSinger_59 : decode cX2_addSinger 59 = .ok (.getfield 15, 3) := by decide +kernel
theorem dX2_addSinger_62 : decode cX2_addSinger 62 = .ok (.iload 4, 2) := by decide +kernel
theorem dX2_addSinger_64 : decode cX2_addSinger 64 = .ok (.iload_n 3, 1) := by decide +kernel
theorem dX2_addSinger_65 : decode cX2_addSinger 65 = .ok (.iastore, 1) := by decide +kernel
theorem dX2_addSinger_66 : decode cX2_addSinger 66 = .ok (.aload_n 0, 1) := by decide +kernel
theorem dX2_addSinger_67 : decode cX2_addSinger 67 = .ok (.getfield 18, 3) := by decide +kernel
theorem dX2_addSinger_70 : decode cX2_addSinger 70 = .ok (.iload 4, 2) := by decide +kernel
theorem dX2_addSinger_72 : decode cX2_addSinger 72 = .ok (.iconst 0, 1) := by decide +kernel
theorem dX2_addSinger_73 : decode cX2_addSinger 73 = .ok (.iastore, 1) := by decide +kernel
theorem dX2_addSinger_74 : decode cX2_addSinger 74 = .ok (.aload_n 0, 1) := by decide +kernel
theorem dX2_addSinger_75 : decode cX2_addSinger 75 = .ok (.getfield 58, 3) := by decide +kernel
theorem dX2_addSinger_78 : decode cX2_addSinger 78 = .ok (.getfield 98, 3) := by decide +kernel
theorem dX2_addSinger_81 : decode cX2_addSinger 81 = .ok (.iload 4, 2) := by decide +kernel
theorem dX2_addSinger_83 : decode cX2_addSinger 83 = .ok (.iload_n 1, 1) := by decide +kernel
theorem dX2_addSinger_84 : decode cX2_addSinger 84 = .ok (.iastore, 1) := by decide +kernel
theorem dX2_addSinger_85 : decode cX2_addSinger 85 = .ok (.aload_n 0, 1) := by decide +kernel
theorem dX2_addSinger_86 : decode cX2_addSinger 86 = .ok (.getfield 58, 3) := by decide +kernel
theorem dX2_addSinger_89 : decode cX2_addSinger 89 = .ok (.getfield 101, 3) := by decide +kernel
theorem dX2_addSinger_92 : decode cX2_addSinger 92 = .ok (.iload 4, 2) := by decide +kernel
theorem dX2_addSinger_94 : decode cX2_addSinger 94 = .ok (.iconst 0, 1) := by decide +kernel
theorem dX2_addSinger_95 : decode cX2_addSinger 95 = .ok (.iastore, 1) := by decide +kernel
theorem dX2_addSinger_96 : decode cX2_addSinger 96 = .ok (.aload_n 0, 1) := by decide +kernel
theorem dX2_addSinger_97 : decode cX2_addSinger 97 = .ok (.getfield 58, 3) := by decide +kernel
theorem dX2_addSinger_100 : decode cX2_addSinger 100 = .ok (.getfield 104, 3) := by decide +kernel
theorem dX2_addSinger_103 : decode cX2_addSinger 103 = .ok (.iload 4, 2) := by decide +kernel
theorem dX2_addSinger_105 : decode cX2_addSinger 105 = .ok (.iconst 0, 1) := by decide +kernel
theorem dX2_addSinger_106 : decode cX2_addSinger 106 = .ok (.iastore, 1) := by decide +kernel
theorem dX2_addSinger_107 : decode cX2_addSinger 107 = .ok (.aload_n 0, 1) := by decide +kernel
theorem dX2_addSinger_108 : decode cX2_addSinger 108 = .ok (.dup, 1) := by decide +kernel
theorem dX2_addSinger_109 : decode cX2_addSinger 109 = .ok (.getfield 62, 3) := by decide +kernel
theorem dX2_addSinger_112 : decode cX2_addSinger 112 = .ok (.iconst 1, 1) := by decide +kernel
theorem dX2_addSinger_113 : decode cX2_addSinger 113 = .ok (.iadd, 1) := by decide +kernel
theorem dX2_addSinger_114 : decode cX2_addSinger 114 = .ok (.putfield 62, 3) := by decide +kernel
theorem dX2_addSinger_117 : decode cX2_addSinger 117 = .ok (.iload 4, 2) := by decide +kernel
theorem dX2_addSinger_119 : decode cX2_addSinger 119 = .ok (.ireturn, 1) := by decide +kernel
theorem dX2_addSinger_41 : decode cX2_addSinger 41 = .ok (.bipush (-5), 2) := by decide +kernel
theorem dX2_addSinger_43 : decode cX2_addSinger 43 = .ok (.ireturn, 1) := by decide +kernel
set_option maxHeartbeats 4000000 in
set_option maxRecDepth 100000 in
theorem k_X2_addSinger (l : Launch) (D : va_G) (cy : Nat → ClassId) (ld : Nat → Nat) (t : tk_T) (a0 : Nat) (p1 : Int32) (p2 : Int32) (p3 : Int32) (ht_a0 : t a0 = (3, 0, 0)) : Met l yX2_addSinger (wl yX2_addSinger cX2_addSinger 5 (some .int)) ({ frames := 4, cells := 0, slots := 0, locals := 210 }) (tp D cy ld t [] [.ref a0, .int p1, .int p2, .int p3] (fun H => True)) (ti D cy ld t [] (fun r H => (-5) ≤ r.toInt ∧ r.toInt ≤ 7) (tk_w t [(20, 0, 0), (21, 0, 0), (32, 0, 0), (3, 0, 0)])) 0 0 (tk_w t [(20, 0, 0), (21, 0, 0), (32, 0, 0), (3, 0, 0)]) := by
  refine tk_met (y := yX2_addSinger) (cc := cX2_addSinger) (maxL := 5) (ret := (some .int)) (av := [.ref a0, .int p1, .int p2, .int p3]) _ _ (by decide) (Nat.le_of_ble_eq_true rfl) ?_
  intro p e s m args below meth c hx hb hr hml hts htl hown hlocks hK H locs hH hG hS hB hZ ls hl
  have hown : s.vm.findClass RX2 = some m.cls := hown
  have hl : lv_has ls 5 [(0, .ref a0), (1, .int p1), (2, .int p2), (3, .int p3)] := hl
  have hr_p1 := tk_rng p1
  have hr_p2 := tk_rng p2
  have hr_p3 := tk_rng p3
  refine lv_iload_n hx hb dX2_addSinger_0 rfl (lv_at hl 1 rfl) ?_
  refine lv_iconst (v := 0) hx hb dX2_addSinger_1 (by decide) ?_
  refine lv_sipush (v := 999) hx hb dX2_addSinger_2 (by decide) ?_
  have hk_0 : (0 : Int32).toInt = 0 := by decide
  have hk_999 : (999 : Int32).toInt = 999 := by decide
  refine tk_Ni (As := [.int p1, .int 0, .int 999]) (rest := []) ⟨hx, hb, hml, hown, hts⟩ hK hG hZ hS (k_X12_within l D cy ld t _ p1 0 999) trivial ⟨va_cnB 3 hts (wl_in mw_262) rfl rfl rfl hK.2.2.2.1.1 (htl _ mw_2) hd_yX12_within ⟨(Nat.le_of_ble_eq_true rfl), (Nat.le_of_ble_eq_true rfl)⟩, htl _ mw_261, trivial⟩ (tk_w.pick [] rfl) rfl hl.1 rfl (Nat.le_of_ble_eq_true rfl) dX2_addSinger_5 ⟨(Nat.le_of_ble_eq_true rfl), (Nat.le_of_ble_eq_true rfl)⟩ (fun v1 H locs hpo hG hS hq9 => ?_)
  obtain ⟨hpo3, hpo4, hpo5, hpo6, hpo7⟩ := hpo
  refine lv_if_eq (tgt := 30) hx hb dX2_addSinger_8 (by decide) (fun c9 => ?_) (fun c9 => ?_)
  · have hc8 : v1.toInt = 0 := (fi_eq rfl (show (0 : Int32).toInt = 0 by decide)).mp c9
    refine lv_iconst (v := (-1)) hx hb dX2_addSinger_30 (by decide) ?_
    have hk_m1 : ((-1) : Int32).toInt = (-1) := by decide
    exact tk_iret (v := (-1)) hx hb hr rfl hlocks (show (-5) ≤ ((-1) : Int32).toInt ∧ ((-1) : Int32).toInt ≤ 7 from ⟨(by omega), (by omega)⟩) hG hS dX2_addSinger_31
  · have hc8 : ¬ (v1.toInt = 0) := fun h9 => c9 ((fi_eq rfl (show (0 : Int32).toInt = 0 by decide)).mpr h9)
    refine lv_iload_n hx hb dX2_addSinger_11 rfl (lv_at hl 2 rfl) ?_
    refine lv_iconst (v := 0) hx hb dX2_addSinger_12 (by decide) ?_
    refine lv_bipush (v := 9) hx hb dX2_addSinger_13 (by decide) ?_
    have hk_0 : (0 : Int32).toInt = 0 := by decide
    have hk_9 : (9 : Int32).toInt = 9 := by decide
    refine tk_Ni (As := [.int p2, .int 0, .int 9]) (rest := []) ⟨hx, hb, hml, hown, hts⟩ hK hG hZ hS (k_X12_within l D cy ld t _ p2 0 9) trivial ⟨va_cnB 3 hts (wl_in mw_262) rfl rfl rfl hK.2.2.2.1.1 (htl _ mw_2) hd_yX12_within ⟨(Nat.le_of_ble_eq_true rfl), (Nat.le_of_ble_eq_true rfl)⟩, htl _ mw_261, trivial⟩ (tk_w.pick [] rfl) rfl hl.1 rfl (Nat.le_of_ble_eq_true rfl) dX2_addSinger_15 ⟨(Nat.le_of_ble_eq_true rfl), (Nat.le_of_ble_eq_true rfl)⟩ (fun v9 H locs hpo hG hS hq9 => ?_)
    obtain ⟨hpo11, hpo12, hpo13, hpo14, hpo15⟩ := hpo
    refine lv_if_eq (tgt := 30) hx hb dX2_addSinger_18 (by decide) (fun c9 => ?_) (fun c9 => ?_)
    · have hc16 : v9.toInt = 0 := (fi_eq rfl (show (0 : Int32).toInt = 0 by decide)).mp c9
      refine lv_iconst (v := (-1)) hx hb dX2_addSinger_30 (by decide) ?_
      have hk_m1 : ((-1) : Int32).toInt = (-1) := by decide
      exact tk_iret (v := (-1)) hx hb hr rfl hlocks (show (-5) ≤ ((-1) : Int32).toInt ∧ ((-1) : Int32).toInt ≤ 7 from ⟨(by omega), (by omega)⟩) hG hS dX2_addSinger_31
    · have hc16 : ¬ (v9.toInt = 0) := fun h9 => c9 ((fi_eq rfl (show (0 : Int32).toInt = 0 by decide)).mpr h9)
      refine lv_iload_n hx hb dX2_addSinger_21 rfl (lv_at hl 3 rfl) ?_
      refine lv_iconst (v := 0) hx hb dX2_addSinger_22 (by decide) ?_
      refine lv_iconst (v := 1) hx hb dX2_addSinger_23 (by decide) ?_
      have hk_0 : (0 : Int32).toInt = 0 := by decide
      have hk_1 : (1 : Int32).toInt = 1 := by decide
      refine tk_Ni (As := [.int p3, .int 0, .int 1]) (rest := []) ⟨hx, hb, hml, hown, hts⟩ hK hG hZ hS (k_X12_within l D cy ld t _ p3 0 1) trivial ⟨va_cnB 3 hts (wl_in mw_262) rfl rfl rfl hK.2.2.2.1.1 (htl _ mw_2) hd_yX12_within ⟨(Nat.le_of_ble_eq_true rfl), (Nat.le_of_ble_eq_true rfl)⟩, htl _ mw_261, trivial⟩ (tk_w.pick [] rfl) rfl hl.1 rfl (Nat.le_of_ble_eq_true rfl) dX2_addSinger_24 ⟨(Nat.le_of_ble_eq_true rfl), (Nat.le_of_ble_eq_true rfl)⟩ (fun v17 H locs hpo hG hS hq9 => ?_)
      obtain ⟨hpo19, hpo20, hpo21, hpo22, hpo23⟩ := hpo
      refine lv_if_ne (tgt := 32) hx hb dX2_addSinger_27 (by decide) (fun c9 => ?_) (fun c9 => ?_)
      · have hc24 : ¬ (v17.toInt = 0) := fun h9 => c9 ((fi_eq rfl (show (0 : Int32).toInt = 0 by decide)).mpr h9)
        refine lv_aload_n hx hb dX2_addSinger_32 rfl (lv_at hl 0 rfl) ?_
        refine tk_get (ci := 2) (C := RX2) (T := TX2) (N := 20) (sp := (0, 0, 8, 0)) hx hb htl inX2 hown hK hG ht_a0 (by decide) tk_no rfl 0 (by decide) (htl _ mw_257) (fun _ h9 => h9) rfl dX2_addSinger_33 (fun v9 hf25 hV9 => ?_)
        obtain ⟨v26, rfl, (ha_v26 : 0 ≤ v26.toInt), (hb_v26 : v26.toInt ≤ 8)⟩ := hV9
        refine lv_bipush (v := 8) hx hb dX2_addSinger_36 (by decide) ?_
        refine lv_icmp_lt (tgt := 44) hx hb dX2_addSinger_38 (by decide) (fun c9 => ?_) (fun c9 => ?_)
        · have hc27 : v26.toInt < 8 := (fi_lt rfl (show (8 : Int32).toInt = 8 by decide)).mp c9
          refine lv_aload_n hx hb dX2_addSinger_44 rfl (lv_at hl 0 rfl) ?_
          refine tk_getk (ci := 2) (C := RX2) (T := TX2) (N := 20) (sp := (0, 0, 8, 0)) hx hb htl inX2 hown hK hG ht_a0 (by decide) tk_no rfl 0 (by decide) (htl _ mw_257) (fun _ h9 => h9) rfl hf25 dX2_addSinger_45 ?_
          refine lv_istore (lv' := [(4, .int v26), (0, .ref a0), (1, .int p1), (2, .int p2), (3, .int p3)]) hx hb dX2_addSinger_48 hl (by decide) rfl (fun ls hl => ?_)
          refine lv_aload_n hx hb dX2_addSinger_50 rfl (lv_at hl 1 rfl) ?_
          refine tk_get (ci := 2) (C := RX2) (T := TX2) (N := 20) (sp := (1, 20, 8, 0)) hx hb htl inX2 hown hK hG ht_a0 (by decide) tk_no rfl 1 (by decide) (htl _ mw_60) (fun _ h9 => h9) rfl dX2_addSinger_51 (fun v9 hf28 hV9 => ?_)
          obtain ⟨b29, rfl, ht_b29⟩ := hV9
          have ht_b29 : t b29 = (20, 8, 0) := ht_b29
          refine lv_iload hx hb dX2_addSinger_54 (lv_at hl 0 rfl) ?_
          refine lv_iload_n hx hb dX2_addSinger_56 rfl (lv_at hl 3 rfl) ?_
          refine tk_iast hx hb hK hG hS ht_b29 (by decide) (fun _ => Iff.rfl) tk_no rfl (by omega) (by omega) trivial (tk_w.of ht_b29 (by decide) (List.mem_of_getElem? (i := 0) rfl) (Nat.le_refl _) (Nat.le_refl _)) dX2_addSinger_57 (fun H locs hG hS hq9 => ?_)
          have hf25 := hf25.kept (hq9 _ (tk_ne ht_a0 ht_b29 (Or.inl (by decide))))
          refine lv_aload_n hx hb dX2_addSinger_58 rfl (lv_at hl 1 rfl) ?_
          refine tk_get (ci := 2) (C := RX2) (T := TX2) (N := 20) (sp := (1, 21, 8, 0)) hx hb htl inX2 hown hK hG ht_a0 (by decide) tk_no rfl 2 (by decide) (htl _ mw_61) (fun _ h9 => h9) rfl dX2_addSinger_59 (fun v9 hf31 hV9 => ?_)
          obtain ⟨b32, rfl, ht_b32⟩ := hV9
          have ht_b32 : t b32 = (21, 8, 0) := ht_b32
          refine lv_iload hx hb dX2_addSinger_62 (lv_at hl 0 rfl) ?_
          refine lv_iload_n hx hb dX2_addSinger_64 rfl (lv_at hl 4 rfl) ?_
          refine tk_iast hx hb hK hG hS ht_b32 (by decide) (fun _ => Iff.rfl) tk_no rfl (by omega) (by omega) (show 0 ≤ (p3 : Int32).toInt ∧ (p3 : Int32).toInt ≤ 1 from ⟨by omega, by omega⟩) (tk_w.of ht_b32 (by decide) (List.mem_of_getElem? (i := 1) rfl) (Nat.le_refl _) (Nat.le_refl _)) dX2_addSinger_65 (fun H locs hG hS hq9 => ?_)
          have hf25 := hf25.kept (hq9 _ (tk_ne ht_a0 ht_b32 (Or.inl (by decide))))
          refine lv_aload_n hx hb dX2_addSinger_66 rfl (lv_at hl 1 rfl) ?_
          refine tk_get (ci := 2) (C := RX2) (T := TX2) (N := 20) (sp := (11, 70, 32, 8)) hx hb htl inX2 hown hK hG ht_a0 (by decide) tk_no rfl 3 (by decide) (htl _ mw_62) (fun _ h9 => h9) rfl dX2_addSinger_67 (fun v9 hf34 hV9 => ?_)
          obtain ⟨rfl, ht_ld70⟩ := hV9
          have ht_ld70 : t (ld 70) = (32, 8, 0) := ht_ld70
          refine fx_top (v := .ref (ld 70)) rfl ?_
          refine lv_iload hx hb dX2_addSinger_70 (lv_at hl 0 rfl) ?_
          refine lv_iconst (v := 0) hx hb dX2_addSinger_72 (by decide) ?_
          have hk_0 : (0 : Int32).toInt = 0 := by decide
          refine tk_iast hx hb hK hG hS ht_ld70 (by decide) (fun _ => Iff.rfl) tk_no rfl (by omega) (by omega) trivial (tk_w.of ht_ld70 (by decide) (List.mem_of_getElem? (i := 2) rfl) (Nat.le_refl _) (Nat.le_refl _)) dX2_addSinger_73 (fun H locs hG hS hq9 => ?_)
          have hf25 := hf25.kept (hq9 _ (tk_ne ht_a0 ht_ld70 (Or.inl (by decide))))
          refine lv_aload_n hx hb dX2_addSinger_74 rfl (lv_at hl 1 rfl) ?_
          refine tk_get (ci := 2) (C := RX2) (T := TX2) (N := 20) (sp := (9, 40, 10, 0)) hx hb htl inX2 hown hK hG ht_a0 (by decide) tk_no rfl 19 (by decide) (htl _ mw_77) (fun _ h9 => h9) rfl dX2_addSinger_75 (fun v9 hf36 hV9 => ?_)
          obtain ⟨rfl, ht_ld40⟩ := hV9
          have ht_ld40 : t (ld 40) = (10, 0, 0) := ht_ld40
          refine fx_top (v := .ref (ld 40)) rfl ?_
          refine tk_get (ci := 9) (C := RX9) (T := TX9) (N := 11) (sp := (1, 20, 8, 0)) hx hb htl inX9 hown hK hG ht_ld40 (by decide) tk_no rfl 0 (by decide) (htl _ mw_258) (fun _ h9 => h9) rfl dX2_addSinger_78 (fun v9 hf37 hV9 => ?_)
          obtain ⟨b38, rfl, ht_b38⟩ := hV9
          have ht_b38 : t b38 = (20, 8, 0) := ht_b38
          refine lv_iload hx hb dX2_addSinger_81 (lv_at hl 0 rfl) ?_
          refine lv_iload_n hx hb dX2_addSinger_83 rfl (lv_at hl 2 rfl) ?_
          refine tk_iast hx hb hK hG hS ht_b38 (by decide) (fun _ => Iff.rfl) tk_no rfl (by omega) (by omega) trivial (tk_w.of ht_b38 (by decide) (List.mem_of_getElem? (i := 0) rfl) (Nat.le_refl _) (Nat.le_refl _)) dX2_addSinger_84 (fun H locs hG hS hq9 => ?_)
          have hf25 := hf25.kept (hq9 _ (tk_ne ht_a0 ht_b38 (Or.inl (by decide))))
          refine lv_aload_n hx hb dX2_addSinger_85 rfl (lv_at hl 1 rfl) ?_
          refine tk_get (ci := 2) (C := RX2) (T := TX2) (N := 20) (sp := (9, 40, 10, 0)) hx hb htl inX2 hown hK hG ht_a0 (by decide) tk_no rfl 19 (by decide) (htl _ mw_77) (fun _ h9 => h9) rfl dX2_addSinger_86 (fun v9 hf40 hV9 => ?_)
          obtain ⟨rfl, ht_ld40⟩ := hV9
          have ht_ld40 : t (ld 40) = (10, 0, 0) := ht_ld40
          refine fx_top (v := .ref (ld 40)) rfl ?_
          refine tk_get (ci := 9) (C := RX9) (T := TX9) (N := 11) (sp := (1, 20, 8, 0)) hx hb htl inX9 hown hK hG ht_ld40 (by decide) tk_no rfl 1 (by decide) (htl _ mw_259) (fun _ h9 => h9) rfl dX2_addSinger_89 (fun v9 hf41 hV9 => ?_)
          obtain ⟨b42, rfl, ht_b42⟩ := hV9
          have ht_b42 : t b42 = (20, 8, 0) := ht_b42
          refine lv_iload hx hb dX2_addSinger_92 (lv_at hl 0 rfl) ?_
          refine lv_iconst (v := 0) hx hb dX2_addSinger_94 (by decide) ?_
          refine tk_iast hx hb hK hG hS ht_b42 (by decide) (fun _ => Iff.rfl) tk_no rfl (by omega) (by omega) trivial (tk_w.of ht_b42 (by decide) (List.mem_of_getElem? (i := 0) rfl) (Nat.le_refl _) (Nat.le_refl _)) dX2_addSinger_95 (fun H locs hG hS hq9 => ?_)
          have hf25 := hf25.kept (hq9 _ (tk_ne ht_a0 ht_b42 (Or.inl (by decide))))
          refine lv_aload_n hx hb dX2_addSinger_96 rfl (lv_at hl 1 rfl) ?_
          refine tk_get (ci := 2) (C := RX2) (T := TX2) (N := 20) (sp := (9, 40, 10, 0)) hx hb htl inX2 hown hK hG ht_a0 (by decide) tk_no rfl 19 (by decide) (htl _ mw_77) (fun _ h9 => h9) rfl dX2_addSinger_97 (fun v9 hf44 hV9 => ?_)
          obtain ⟨rfl, ht_ld40⟩ := hV9
          have ht_ld40 : t (ld 40) = (10, 0, 0) := ht_ld40
          refine fx_top (v := .ref (ld 40)) rfl ?_
          refine tk_get (ci := 9) (C := RX9) (T := TX9) (N := 11) (sp := (1, 20, 8, 0)) hx hb htl inX9 hown hK hG ht_ld40 (by decide) tk_no rfl 2 (by decide) (htl _ mw_260) (fun _ h9 => h9) rfl dX2_addSinger_100 (fun v9 hf45 hV9 => ?_)
          obtain ⟨b46, rfl, ht_b46⟩ := hV9
          have ht_b46 : t b46 = (20, 8, 0) := ht_b46
          refine lv_iload hx hb dX2_addSinger_103 (lv_at hl 0 rfl) ?_
          refine lv_iconst (v := 0) hx hb dX2_addSinger_105 (by decide) ?_
          refine tk_iast hx hb hK hG hS ht_b46 (by decide) (fun _ => Iff.rfl) tk_no rfl (by omega) (by omega) trivial (tk_w.of ht_b46 (by decide) (List.mem_of_getElem? (i := 0) rfl) (Nat.le_refl _) (Nat.le_refl _)) dX2_addSinger_106 (fun H locs hG hS hq9 => ?_)
          have hf25 := hf25.kept (hq9 _ (tk_ne ht_a0 ht_b46 (Or.inl (by decide))))
          refine lv_aload_n hx hb dX2_addSinger_107 rfl (lv_at hl 1 rfl) ?_
          refine lv_dup hx hb dX2_addSinger_108 rfl ?_
          refine tk_getk (ci := 2) (C := RX2) (T := TX2) (N := 20) (sp := (0, 0, 8, 0)) hx hb htl inX2 hown hK hG ht_a0 (by decide) tk_no rfl 0 (by decide) (htl _ mw_257) (fun _ h9 => h9) rfl hf25 dX2_addSinger_109 ?_
          refine lv_iconst (v := 1) hx hb dX2_addSinger_112 (by decide) ?_
          refine lv_iadd hx hb dX2_addSinger_113 ?_
          refine tk_add rfl (show (1 : Int32).toInt = 1 by decide) (by omega) (by omega) (fun v48 h_v48 => ?_)
          refine tk_put (ci := 2) (v := .int v48) (ty := .int) (C := RX2) (T := TX2) (N := 20) (sp := (0, 0, 8, 0)) hx hb htl inX2 tyX2 tyX2_ok nmX2 hown hK hG hS ht_a0 (by decide) tk_no rfl 0 (by decide) (htl _ mw_257) (fun _ h9 => h9) rfl (tyX2_ok 0 (by decide)) rfl rfl rfl (tk_V0 (by omega) (by omega)) (fun _ h => h) (tk_w.of ht_a0 (by decide) (List.mem_of_getElem? (i := 3) rfl) (Nat.le_refl _) (Nat.le_refl _)) dX2_addSinger_114 (fun H locs hG hS hf49 hq9 hj9 => ?_)
          refine lv_iload hx hb dX2_addSinger_117 (lv_at hl 0 rfl) ?_
          exact tk_iret (v := v26) hx hb hr rfl hlocks (show (-5) ≤ v26.toInt ∧ v26.toInt ≤ 7 from ⟨(by omega), (by omega)⟩) hG hS dX2_addSinger_119
        · have hc27 : ¬ (v26.toInt < 8) := fun h9 => c9 ((fi_lt rfl (show (8 : Int32).toInt = 8 by decide)).mpr h9)
          refine lv_bipush (v := (-5)) hx hb dX2_addSinger_41 (by decide) ?_
          have hk_m5 : ((-5) : Int32).toInt = (-5) := by decide
          exact tk_iret (v := (-5)) hx hb hr rfl hlocks (show (-5) ≤ ((-5) : Int32).toInt ∧ ((-5) : Int32).toInt ≤ 7 from ⟨(by omega), (by omega)⟩) hG hS dX2_addSinger_43
      · have hc24 : v17.toInt = 0 := (fi_eq rfl (show (0 : Int32).toInt = 0 by decide)).mp c9
        refine lv_iconst (v := (-1)) hx hb dX2_addSinger_30 (by decide) ?_
        have hk_m1 : ((-1) : Int32).toInt = (-1) := by decide
        exact tk_iret (v := (-1)) hx hb hr rfl hlocks (show (-5) ≤ ((-1) : Int32).toInt ∧ ((-1) : Int32).toInt ≤ 7 from ⟨(by omega), (by omega)⟩) hG hS dX2_addSinger_31
theorem dX2_addVerse_0 : decode cX2_addVerse 0 = .ok (.iload_n 1, 1) := by decide +kernel
theorem dX2_addVerse_1 : decode cX2_addVerse 1 = .ok (.iconst 1, 1) := by decide +kernel
theorem dX2_addVerse_2 : decode cX2_addVerse 2 = .ok (.bipush 99, 2) := by decide +kernel
theorem dX2_addVerse_4 : decode cX2_addVerse 4 = .ok (.invokestatic 94, 3) := by decide +kernel
theorem dX2_addVerse_7 : decode cX2_addVerse 7 = .ok (.ifCond .eq 12, 3) := by decide +kernel
theorem dX2_addVerse_19 : decode cX2_addVerse 19 = .ok (.iconst (-1), 1) := by decide +kernel
theorem dX2_addVerse_20 : decode cX2_addVerse 20 = .ok (.ireturn, 1) := by decide +kernel
theorem dX2_addVerse_10 : decode cX2_addVerse 10 = .ok (.iload_n 2, 1) := by decide +kernel
theorem dX2_addVerse_11 : decode cX2_addVerse 11 = .ok (.iconst 0, 1) := by decide +kernel
theorem dX2_addVerse_12 : decode cX2_addVerse 12 = .ok (.iconst 4, 1) := by decide +kernel
theorem dX2_addVerse_13 : decode cX2_addVerse 13 = .ok (.invokestatic 94, 3) := by decide +kernel
theorem dX2_addVerse_16 : decode cX2_addVerse 16 = .ok (.ifCond .ne 5, 3) := by decide +kernel
theorem dX2_addVerse_21 : decode cX2_addVerse 21 = .ok (.aload_n 0, 1) := by decide +kernel
theorem dX2_addVerse_22 : decode cX2_addVerse 22 = .ok (.getfield 71, 3) := by decide +kernel
theorem dX2_addVerse_25 : decode cX2_addVerse 25 = .ok (.bipush 10, 2) := by decide +kernel
theorem dX2_addVerse_27 : decode cX2_addVerse 27 = .ok (.if_icmp .lt 6, 3) := by decide +kernel
theorem dX2_addVerse_33 : decode cX2_addVerse 33 = .ok (.aload_n 0, 1) := by decide +kernel
theorem dX2_addVerse_34 : decode cX2_addVerse 34 = .ok (.getfield 21, 3) := by decide +kernel
theorem dX2_addVerse_37 : decode cX2_addVerse 37 = .ok (.aload_n 0, 1) := by decide +kernel
theorem dX2_addVerse_38 : decode cX2_addVerse 38 = .ok (.getfield 71, 3) := by decide +kernel
theorem dX2_addVerse_41 : decode cX2_addVerse 41 = .ok (.iload_n 1, 1) := by decide +kernel
theorem dX2_addVerse_42 : decode cX2_addVerse 42 = .ok (.iastore, 1) := by decide +kernel
theorem dX2_addVerse_43 : decode cX2_addVerse 43 = .ok (.aload_n 0, 1) := by decide +kernel
theorem dX2_addVerse_44 : decode cX2_addVerse 44 = .ok (.getfield 24, 3) := by decide +kernel
theorem dX2_addVerse_47 : decode cX2_addVerse 47 = .ok (.aload_n 0, 1) := by decide +kernel
theorem dX2_addVerse_48 : decode cX2_addVerse 48 = .ok (.getfield 71, 3) := by decide +kernel
theorem dX2_addVerse_51 : decode cX2_addVerse 51 = .ok (.iload_n 2, 1) := by decide +kernel
theorem dX2_addVerse_52 : decode cX2_addVerse 52 = .ok (.iastore, 1) := by decide +kernel
theorem dX2_addVerse_53 : decode cX2_addVerse 53 = .ok (.aload_n 0, 1) := by decide +kernel
theorem dX2_addVerse_54 : decode cX2_addVerse 54 = .ok (.dup, 1) := by decide +kernel
theorem dX2_addVerse_55 : decode cX2_addVerse 55 = .ok (.getfield 71, 3) := by decide +kernel
theorem dX2_addVerse_58 : decode cX2_addVerse 58 = .ok (.iconst 1, 1) := by decide +kernel
theorem dX2_addVerse_59 : decode cX2_addVerse 59 = .ok (.iadd, 1) := by decide +kernel
theorem dX2_addVerse_60 : decode cX2_addVerse 60 = .ok (.putfield 71, 3) := by decide +kernel
theorem dX2_addVerse_63 : decode cX2_addVerse 63 = .ok (.aload_n 0, 1) := by decide +kernel
theorem dX2_addVerse_64 : decode cX2_addVerse 64 = .ok (.getfield 71, 3) := by decide +kernel
theorem dX2_addVerse_67 : decode cX2_addVerse 67 = .ok (.iconst 1, 1) := by decide +kernel
theorem dX2_addVerse_68 : decode cX2_addVerse 68 = .ok (.isub, 1) := by decide +kernel
theorem dX2_addVerse_69 : decode cX2_addVerse 69 = .ok (.ireturn, 1) := by decide +kernel
theorem dX2_addVerse_30 : decode cX2_addVerse 30 = .ok (.bipush (-5), 2) := by decide +kernel
theorem dX2_addVerse_32 : decode cX2_addVerse 32 = .ok (.ireturn, 1) := by decide +kernel
set_option maxHeartbeats 4000000 in
set_option maxRecDepth 100000 in
theorem k_X2_addVerse (l : Launch) (D : va_G) (cy : Nat → ClassId) (ld : Nat → Nat) (t : tk_T) (a0 : Nat) (p1 : Int32) (p2 : Int32) (ht_a0 : t a0 = (3, 0, 0)) : Met l yX2_addVerse (wl yX2_addVerse cX2_addVerse 3 (some .int)) ({ frames := 4, cells := 0, slots := 0, locals := 210 }) (tp D cy ld t [] [.ref a0, .int p1, .int p2] (fun H => True)) (ti D cy ld t [] (fun r H => (-5) ≤ r.toInt ∧ r.toInt ≤ 9) (tk_w t [(33, 0, 0), (34, 0, 0), (3, 0, 0)])) 0 0 (tk_w t [(33, 0, 0), (34, 0, 0), (3, 0, 0)]) := by
  refine tk_met (y := yX2_addVerse) (cc := cX2_addVerse) (maxL := 3) (ret := (some .int)) (av := [.ref a0, .int p1, .int p2]) _ _ (by decide) (Nat.le_of_ble_eq_true rfl) ?_
  intro p e s m args below meth c hx hb hr hml hts htl hown hlocks hK H locs hH hG hS hB hZ ls hl
  have hown : s.vm.findClass RX2 = some m.cls := hown
  have hl : lv_has ls 3 [(0, .ref a0), (1, .int p1), (2, .int p2)] := hl
  have hr_p1 := tk_rng p1
  have hr_p2 := tk_rng p2
  refine lv_iload_n hx hb dX2_addVerse_0 rfl (lv_at hl 1 rfl) ?_
  refine lv_iconst (v := 1) hx hb dX2_addVerse_1 (by decide) ?_
  refine lv_bipush (v := 99) hx hb dX2_addVerse_2 (by decide) ?_
  have hk_1 : (1 : Int32).toInt = 1 := by decide
  have hk_99 : (99 : Int32).toInt = 99 := by decide
  refine tk_Ni (As := [.int p1, .int 1, .int 99]) (rest := []) ⟨hx, hb, hml, hown, hts⟩ hK hG hZ hS (k_X12_within l D cy ld t _ p1 1 99) trivial ⟨va_cnB 3 hts (wl_in mw_262) rfl rfl rfl hK.2.2.2.1.1 (htl _ mw_2) hd_yX12_within ⟨(Nat.le_of_ble_eq_true rfl), (Nat.le_of_ble_eq_true rfl)⟩, htl _ mw_261, trivial⟩ (tk_w.pick [] rfl) rfl hl.1 rfl (Nat.le_of_ble_eq_true rfl) dX2_addVerse_4 ⟨(Nat.le_of_ble_eq_true rfl), (Nat.le_of_ble_eq_true rfl)⟩ (fun v1 H locs hpo hG hS hq9 => ?_)
  obtain ⟨hpo3, hpo4, hpo5, hpo6, hpo7⟩ := hpo
  refine lv_if_eq (tgt := 19) hx hb dX2_addVerse_7 (by decide) (fun c9 => ?_) (fun c9 => ?_)
  · have hc8 : v1.toInt = 0 := (fi_eq rfl (show (0 : Int32).toInt = 0 by decide)).mp c9
    refine lv_iconst (v := (-1)) hx hb dX2_addVerse_19 (by decide) ?_
    have hk_m1 : ((-1) : Int32).toInt = (-1) := by decide
    exact tk_iret (v := (-1)) hx hb hr rfl hlocks (show (-5) ≤ ((-1) : Int32).toInt ∧ ((-1) : Int32).toInt ≤ 9 from ⟨(by omega), (by omega)⟩) hG hS dX2_addVerse_20
  · have hc8 : ¬ (v1.toInt = 0) := fun h9 => c9 ((fi_eq rfl (show (0 : Int32).toInt = 0 by decide)).mpr h9)
    refine lv_iload_n hx hb dX2_addVerse_10 rfl (lv_at hl 2 rfl) ?_
    refine lv_iconst (v := 0) hx hb dX2_addVerse_11 (by decide) ?_
    refine lv_iconst (v := 4) hx hb dX2_addVerse_12 (by decide) ?_
    have hk_0 : (0 : Int32).toInt = 0 := by decide
    have hk_4 : (4 : Int32).toInt = 4 := by decide
    refine tk_Ni (As := [.int p2, .int 0, .int 4]) (rest := []) ⟨hx, hb, hml, hown, hts⟩ hK hG hZ hS (k_X12_within l D cy ld t _ p2 0 4) trivial ⟨va_cnB 3 hts (wl_in mw_262) rfl rfl rfl hK.2.2.2.1.1 (htl _ mw_2) hd_yX12_within ⟨(Nat.le_of_ble_eq_true rfl), (Nat.le_of_ble_eq_true rfl)⟩, htl _ mw_261, trivial⟩ (tk_w.pick [] rfl) rfl hl.1 rfl (Nat.le_of_ble_eq_true rfl) dX2_addVerse_13 ⟨(Nat.le_of_ble_eq_true rfl), (Nat.le_of_ble_eq_true rfl)⟩ (fun v9 H locs hpo hG hS hq9 => ?_)
    obtain ⟨hpo11, hpo12, hpo13, hpo14, hpo15⟩ := hpo
    refine lv_if_ne (tgt := 21) hx hb dX2_addVerse_16 (by decide) (fun c9 => ?_) (fun c9 => ?_)
    · have hc16 : ¬ (v9.toInt = 0) := fun h9 => c9 ((fi_eq rfl (show (0 : Int32).toInt = 0 by decide)).mpr h9)
      refine lv_aload_n hx hb dX2_addVerse_21 rfl (lv_at hl 0 rfl) ?_
      refine tk_get (ci := 2) (C := RX2) (T := TX2) (N := 20) (sp := (0, 0, 10, 0)) hx hb htl inX2 hown hK hG ht_a0 (by decide) tk_no rfl 4 (by decide) (htl _ mw_333) (fun _ h9 => h9) rfl dX2_addVerse_22 (fun v9 hf17 hV9 => ?_)
      obtain ⟨v18, rfl, (ha_v18 : 0 ≤ v18.toInt), (hb_v18 : v18.toInt ≤ 10)⟩ := hV9
      refine lv_bipush (v := 10) hx hb dX2_addVerse_25 (by decide) ?_
      refine lv_icmp_lt (tgt := 33) hx hb dX2_addVerse_27 (by decide) (fun c9 => ?_) (fun c9 => ?_)
      · have hc19 : v18.toInt < 10 := (fi_lt rfl (show (10 : Int32).toInt = 10 by decide)).mp c9
        refine lv_aload_n hx hb dX2_addVerse_33 rfl (lv_at hl 0 rfl) ?_
        refine tk_get (ci := 2) (C := RX2) (T := TX2) (N := 20) (sp := (11, 80, 33, 10)) hx hb htl inX2 hown hK hG ht_a0 (by decide) tk_no rfl 5 (by decide) (htl _ mw_63) (fun _ h9 => h9) rfl dX2_addVerse_34 (fun v9 hf20 hV9 => ?_)
        obtain ⟨rfl, ht_ld80⟩ := hV9
        have ht_ld80 : t (ld 80) = (33, 10, 0) := ht_ld80
        refine fx_top (v := .ref (ld 80)) rfl ?_
        refine lv_aload_n hx hb dX2_addVerse_37 rfl (lv_at hl 0 rfl) ?_
        refine tk_getk (ci := 2) (C := RX2) (T := TX2) (N := 20) (sp := (0, 0, 10, 0)) hx hb htl inX2 hown hK hG ht_a0 (by decide) tk_no rfl 4 (by decide) (htl _ mw_333) (fun _ h9 => h9) rfl hf17 dX2_addVerse_38 ?_
        refine lv_iload_n hx hb dX2_addVerse_41 rfl (lv_at hl 1 rfl) ?_
        refine tk_iast hx hb hK hG hS ht_ld80 (by decide) (fun _ => Iff.rfl) tk_no rfl (by omega) (by omega) trivial (tk_w.of ht_ld80 (by decide) (List.mem_of_getElem? (i := 0) rfl) (Nat.le_refl _) (Nat.le_refl _)) dX2_addVerse_42 (fun H locs hG hS hq9 => ?_)
        have hf17 := hf17.kept (hq9 _ (tk_ne ht_a0 ht_ld80 (Or.inl (by decide))))
        refine lv_aload_n hx hb dX2_addVerse_43 rfl (lv_at hl 0 rfl) ?_
        refine tk_get (ci := 2) (C := RX2) (T := TX2) (N := 20) (sp := (11, 90, 34, 10)) hx hb htl inX2 hown hK hG ht_a0 (by decide) tk_no rfl 6 (by decide) (htl _ mw_64) (fun _ h9 => h9) rfl dX2_addVerse_44 (fun v9 hf22 hV9 => ?_)
        obtain ⟨rfl, ht_ld90⟩ := hV9
        have ht_ld90 : t (ld 90) = (34, 10, 0) := ht_ld90
        refine fx_top (v := .ref (ld 90)) rfl ?_
        refine lv_aload_n hx hb dX2_addVerse_47 rfl (lv_at hl 0 rfl) ?_
        refine tk_getk (ci := 2) (C := RX2) (T := TX2) (N := 20) (sp := (0, 0, 10, 0)) hx hb htl inX2 hown hK hG ht_a0 (by decide) tk_no rfl 4 (by decide) (htl _ mw_333) (fun _ h9 => h9) rfl hf17 dX2_addVerse_48 ?_
        refine lv_iload_n hx hb dX2_addVerse_51 rfl (lv_at hl 2 rfl) ?_
        refine tk_iast hx hb hK hG hS ht_ld90 (by decide) (fun _ => Iff.rfl) tk_no rfl (by omega) (by omega) trivial (tk_w.of ht_ld90 (by decide) (List.mem_of_getElem? (i := 1) rfl) (Nat.le_refl _) (Nat.le_refl _)) dX2_addVerse_52 (fun H locs hG hS hq9 => ?_)
        have hf17 := hf17.kept (hq9 _ (tk_ne ht_a0 ht_ld90 (Or.inl (by decide))))
        refine lv_aload_n hx hb dX2_addVerse_53 rfl (lv_at hl 0 rfl) ?_
        refine lv_dup hx hb dX2_addVerse_54 rfl ?_
        refine tk_getk (ci := 2) (C := RX2) (T := TX2) (N := 20) (sp := (0, 0, 10, 0)) hx hb htl inX2 hown hK hG ht_a0 (by decide) tk_no rfl 4 (by decide) (htl _ mw_333) (fun _ h9 => h9) rfl hf17 dX2_addVerse_55 ?_
        refine lv_iconst (v := 1) hx hb dX2_addVerse_58 (by decide) ?_
        refine lv_iadd hx hb dX2_addVerse_59 ?_
        refine tk_add rfl (show (1 : Int32).toInt = 1 by decide) (by omega) (by omega) (fun v24 h_v24 => ?_)
        refine tk_put (ci := 2) (v := .int v24) (ty := .int) (C := RX2) (T := TX2) (N := 20) (sp := (0, 0, 10, 0)) hx hb htl inX2 tyX2 tyX2_ok nmX2 hown hK hG hS ht_a0 (by decide) tk_no rfl 4 (by decide) (htl _ mw_333) (fun _ h9 => h9) rfl (tyX2_ok 4 (by decide)) rfl rfl rfl (tk_V0 (by omega) (by omega)) (fun _ h => h) (tk_w.of ht_a0 (by decide) (List.mem_of_getElem? (i := 2) rfl) (Nat.le_refl _) (Nat.le_refl _)) dX2_addVerse_60 (fun H locs hG hS hf25 hq9 hj9 => ?_)
        refine lv_aload_n hx hb dX2_addVerse_63 rfl (lv_at hl 0 rfl) ?_
        refine tk_getk (ci := 2) (C := RX2) (T := TX2) (N := 20) (sp := (0, 0, 10, 0)) hx hb htl inX2 hown hK hG ht_a0 (by decide) tk_no rfl 4 (by decide) (htl _ mw_333) (fun _ h9 => h9) rfl hf25 dX2_addVerse_64 ?_
        refine lv_iconst (v := 1) hx hb dX2_addVerse_67 (by decide) ?_
        refine lv_isub hx hb dX2_addVerse_68 ?_
        refine tk_sub rfl (show (1 : Int32).toInt = 1 by decide) (by omega) (by omega) (fun v27 h_v27 => ?_)
        exact tk_iret (v := v27) hx hb hr rfl hlocks (show (-5) ≤ v27.toInt ∧ v27.toInt ≤ 9 from ⟨(by omega), (by omega)⟩) hG hS dX2_addVerse_69
      · have hc19 : ¬ (v18.toInt < 10) := fun h9 => c9 ((fi_lt rfl (show (10 : Int32).toInt = 10 by decide)).mpr h9)
        refine lv_bipush (v := (-5)) hx hb dX2_addVerse_30 (by decide) ?_
        have hk_m5 : ((-5) : Int32).toInt = (-5) := by decide
        exact tk_iret (v := (-5)) hx hb hr rfl hlocks (show (-5) ≤ ((-5) : Int32).toInt ∧ ((-5) : Int32).toInt ≤ 9 from ⟨(by omega), (by omega)⟩) hG hS dX2_addVerse_32
    · have hc16 : v9.toInt = 0 := (fi_eq rfl (show (0 : Int32).toInt = 0 by decide)).mp c9
      refine lv_iconst (v := (-1)) hx hb dX2_addVerse_19 (by decide) ?_
      have hk_m1 : ((-1) : Int32).toInt = (-1) := by decide
      exact tk_iret (v := (-1)) hx hb hr rfl hlocks (show (-5) ≤ ((-1) : Int32).toInt ∧ ((-1) : Int32).toInt ≤ 9 from ⟨(by omega), (by omega)⟩) hG hS dX2_addVerse_20
theorem dX2_addPart_0 : decode cX2_addPart 0 = .ok (.iload_n 1, 1) := by decide +kernel
theorem dX2_addPart_1 : decode cX2_addPart 1 = .ok (.iconst 1, 1) := by decide +kernel
theorem dX2_addPart_2 : decode cX2_addPart 2 = .ok (.bipush 99, 2) := by decide +kernel
theorem dX2_addPart_4 : decode cX2_addPart 4 = .ok (.invokestatic 94, 3) := by decide +kernel
theorem dX2_addPart_7 : decode cX2_addPart 7 = .ok (.ifCond .eq 22, 3) := by decide +kernel
theorem dX2_addPart_29 : decode cX2_addPart 29 = .ok (.iconst (-1), 1) := by decide +kernel
theorem dX2_addPart_30 : decode cX2_addPart 30 = .ok (.ireturn, 1) := by decide +kernel
theorem dX2_addPart_10 : decode cX2_addPart 10 = .ok (.iload_n 2, 1) := by decide +kernel
theorem dX2_addPart_11 : decode cX2_addPart 11 = .ok (.iconst 0, 1) := by decide +kernel
theorem dX2_addPart_12 : decode cX2_addPart 12 = .ok (.iconst 4, 1) := by decide +kernel
theorem dX2_addPart_13 : decode cX2_addPart 13 = .ok (.invokestatic 94, 3) := by decide +kernel
theorem dX2_addPart_16 : decode cX2_addPart 16 = .ok (.ifCond .eq 13, 3) := by decide +kernel
theorem dX2_addPart_19 : decode cX2_addPart 19 = .ok (.iload_n 3, 1) := by decide +kernel
theorem dX2_addPart_20 : decode cX2_addPart 20 = .ok (.iconst 1, 1) := by decide +kernel
theorem dX2_addPart_21 : decode cX2_addPart 21 = .ok (.bipush 9, 2) := by decide +kernel
theorem dX2_addPart_23 : decode cX2_addPart 23 = .ok (.invokestatic 94, 3) := by decide +kernel
theorem dX2_addPart_26 : decode cX2_addPart 26 = .ok (.ifCond .ne 5, 3) := by decide +kernel
theorem dX2_addPart_31 : decode cX2_addPart 31 = .ok (.aload_n 0, 1) := by decide +kernel
theorem dX2_addPart_32 : decode cX2_addPart 32 = .ok (.getfield 74, 3) := by decide +kernel
theorem dX2_addPart_35 : decode cX2_addPart 35 = .ok (.bipush 10, 2) := by decide +kernel
theorem dX2_addPart_37 : decode cX2_addPart 37 = .ok (.if_icmp .lt 6, 3) := by decide +kernel
theorem dX2_addPart_43 : decode cX2_addPart 43 = .ok (.aload_n 0, 1) := by decide +kernel
theorem dX2_addPart_44 : decode cX2_addPart 44 = .ok (.getfield 27, 3) := by decide +kernel
theorem dX2_addPart_47 : decode cX2_addPart 47 = .ok (.aload_n 0, 1) := by decide +kernel
theorem dX2_addPart_48 : decode cX2_addPart 48 = .ok (.getfield 74, 3) := by decide +kernel
theorem dX2_addPart_51 : decode cX2_addPart 51 = .ok (.iload_n 1, 1) := by decide +kernel
theorem dX2_addPart_52 : decode cX2_addPart 52 = .ok (.iastore, 1) := by decide +kernel
theorem dX2_addPart_53 : decode cX2_addPart 53 = .ok (.aload_n 0, 1) := by decide +kernel
theorem dX2_addPart_54 : decode cX2_addPart 54 = .ok (.getfield 30, 3) := by decide +kernel
theorem dX2_addPart_57 : decode cX2_addPart 57 = .ok (.aload_n 0, 1) := by decide +kernel
theorem dX2_addPart_58 : decode cX2_addPart 58 = .ok (.getfield 74, 3) := by decide +kernel
theorem dX2_addPart_61 : decode cX2_addPart 61 = .ok (.iload_n 2, 1) := by decide +kernel
theorem dX2_addPart_62 : decode cX2_addPart 62 = .ok (.iastore, 1) := by decide +kernel
theorem dX2_addPart_63 : decode cX2_addPart 63 = .ok (.aload_n 0, 1) := by decide +kernel
theorem dX2_addPart_64 : decode cX2_addPart 64 = .ok (.getfield 33, 3) := by decide +kernel
theorem dX2_addPart_67 : decode cX2_addPart 67 = .ok (.aload_n 0, 1) := by decide +kernel
theorem dX2_addPart_68 : decode cX2_addPart 68 = .ok (.getfield 74, 3) := by decide +kernel
theorem dX2_addPart_71 : decode cX2_addPart 71 = .ok (.iload_n 3, 1) := by decide +kernel
theorem dX2_addPart_72 : decode cX2_addPart 72 = .ok (.iastore, 1) := by decide +kernel
theorem dX2_addPart_73 : decode cX2_addPart 73 = .ok (.aload_n 0, 1) := by decide +kernel
theorem dX2_addPart_74 : decode cX2_addPart 74 = .ok (.dup, 1) := by decide +kernel
theorem dX2_addPart_75 : decode cX2_addPart 75 = .ok (.getfield 74, 3) := by decide +kernel
theorem dX2_addPart_78 : decode cX2_addPart 78 = .ok (.iconst 1, 1) := by decide +kernel
theorem dX2_addPart_79 : decode cX2_addPart 79 = .ok (.iadd, 1) := by decide +kernel
theorem dX2_addPart_80 : decode cX2_addPart 80 = .ok (.putfield 74, 3) := by decide +kernel
theorem dX2_addPart_83 : decode cX2_addPart 83 = .ok (.aload_n 0, 1) := by decide +kernel
theorem dX2_addPart_84 : decode cX2_addPart 84 = .ok (.getfield 74, 3) := by decide +kernel
theorem dX2_addPart_87 : decode cX2_addPart 87 = .ok (.iconst 1, 1) := by decide +kernel
theorem dX2_addPart_88 : decode cX2_addPart 88 = .ok (.isub, 1) := by decide +kernel
theorem dX2_addPart_89 : decode cX2_addPart 89 = .ok (.ireturn, 1) := by decide +kernel
theorem dX2_addPart_40 : decode cX2_addPart 40 = .ok (.bipush (-5), 2) := by decide +kernel
theorem dX2_addPart_42 : decode cX2_addPart 42 = .ok (.ireturn, 1) := by decide +kernel
set_option maxHeartbeats 4000000 in
set_option maxRecDepth 100000 in
theorem k_X2_addPart (l : Launch) (D : va_G) (cy : Nat → ClassId) (ld : Nat → Nat) (t : tk_T) (a0 : Nat) (p1 : Int32) (p2 : Int32) (p3 : Int32) (ht_a0 : t a0 = (3, 0, 0)) : Met l yX2_addPart (wl yX2_addPart cX2_addPart 4 (some .int)) ({ frames := 4, cells := 0, slots := 0, locals := 210 }) (tp D cy ld t [] [.ref a0, .int p1, .int p2, .int p3] (fun H => True)) (ti D cy ld t [] (fun r H => (-5) ≤ r.toInt ∧ r.toInt ≤ 9) (tk_w t [(35, 0, 0), (36, 0, 0), (37, 0, 0), (3, 0, 0)])) 0 0 (tk_w t [(35, 0, 0), (36, 0, 0), (37, 0, 0), (3, 0, 0)]) := by
  refine tk_met (y := yX2_addPart) (cc := cX2_addPart) (maxL := 4) (ret := (some .int)) (av := [.ref a0, .int p1, .int p2, .int p3]) _ _ (by decide) (Nat.le_of_ble_eq_true rfl) ?_
  intro p e s m args below meth c hx hb hr hml hts htl hown hlocks hK H locs hH hG hS hB hZ ls hl
  have hown : s.vm.findClass RX2 = some m.cls := hown
  have hl : lv_has ls 4 [(0, .ref a0), (1, .int p1), (2, .int p2), (3, .int p3)] := hl
  have hr_p1 := tk_rng p1
  have hr_p2 := tk_rng p2
  have hr_p3 := tk_rng p3
  refine lv_iload_n hx hb dX2_addPart_0 rfl (lv_at hl 1 rfl) ?_
  refine lv_iconst (v := 1) hx hb dX2_addPart_1 (by decide) ?_
  refine lv_bipush (v := 99) hx hb dX2_addPart_2 (by decide) ?_
  have hk_1 : (1 : Int32).toInt = 1 := by decide
  have hk_99 : (99 : Int32).toInt = 99 := by decide
  refine tk_Ni (As := [.int p1, .int 1, .int 99]) (rest := []) ⟨hx, hb, hml, hown, hts⟩ hK hG hZ hS (k_X12_within l D cy ld t _ p1 1 99) trivial ⟨va_cnB 3 hts (wl_in mw_262) rfl rfl rfl hK.2.2.2.1.1 (htl _ mw_2) hd_yX12_within ⟨(Nat.le_of_ble_eq_true rfl), (Nat.le_of_ble_eq_true rfl)⟩, htl _ mw_261, trivial⟩ (tk_w.pick [] rfl) rfl hl.1 rfl (Nat.le_of_ble_eq_true rfl) dX2_addPart_4 ⟨(Nat.le_of_ble_eq_true rfl), (Nat.le_of_ble_eq_true rfl)⟩ (fun v1 H locs hpo hG hS hq9 => ?_)
  obtain ⟨hpo3, hpo4, hpo5, hpo6, hpo7⟩ := hpo
  refine lv_if_eq (tgt := 29) hx hb dX2_addPart_7 (by decide) (fun c9 => ?_) (fun c9 => ?_)
  · have hc8 : v1.toInt = 0 := (fi_eq rfl (show (0 : Int32).toInt = 0 by decide)).mp c9
    refine lv_iconst (v := (-1)) hx hb dX2_addPart_29 (by decide) ?_
    have hk_m1 : ((-1) : Int32).toInt = (-1) := by decide
    exact tk_iret (v := (-1)) hx hb hr rfl hlocks (show (-5) ≤ ((-1) : Int32).toInt ∧ ((-1) : Int32).toInt ≤ 9 from ⟨(by omega), (by omega)⟩) hG hS dX2_addPart_30
  · have hc8 : ¬ (v1.toInt = 0) := fun h9 => c9 ((fi_eq rfl (show (0 : Int32).toInt = 0 by decide)).mpr h9)
    refine lv_iload_n hx hb dX2_addPart_10 rfl (lv_at hl 2 rfl) ?_
    refine lv_iconst (v := 0) hx hb dX2_addPart_11 (by decide) ?_
    refine lv_iconst (v := 4) hx hb dX2_addPart_12 (by decide) ?_
    have hk_0 : (0 : Int32).toInt = 0 := by decide
    have hk_4 : (4 : Int32).toInt = 4 := by decide
    refine tk_Ni (As := [.int p2, .int 0, .int 4]) (rest := []) ⟨hx, hb, hml, hown, hts⟩ hK hG hZ hS (k_X12_within l D cy ld t _ p2 0 4) trivial ⟨va_cnB 3 hts (wl_in mw_262) rfl rfl rfl hK.2.2.2.1.1 (htl _ mw_2) hd_yX12_within ⟨(Nat.le_of_ble_eq_true rfl), (Nat.le_of_ble_eq_true rfl)⟩, htl _ mw_261, trivial⟩ (tk_w.pick [] rfl) rfl hl.1 rfl (Nat.le_of_ble_eq_true rfl) dX2_addPart_13 ⟨(Nat.le_of_ble_eq_true rfl), (Nat.le_of_ble_eq_true rfl)⟩ (fun v9 H locs hpo hG hS hq9 => ?_)
    obtain ⟨hpo11, hpo12, hpo13, hpo14, hpo15⟩ := hpo
    refine lv_if_eq (tgt := 29) hx hb dX2_addPart_16 (by decide) (fun c9 => ?_) (fun c9 => ?_)
    · have hc16 : v9.toInt = 0 := (fi_eq rfl (show (0 : Int32).toInt = 0 by decide)).mp c9
      refine lv_iconst (v := (-1)) hx hb dX2_addPart_29 (by decide) ?_
      have hk_m1 : ((-1) : Int32).toInt = (-1) := by decide
      exact tk_iret (v := (-1)) hx hb hr rfl hlocks (show (-5) ≤ ((-1) : Int32).toInt ∧ ((-1) : Int32).toInt ≤ 9 from ⟨(by omega), (by omega)⟩) hG hS dX2_addPart_30
    · have hc16 : ¬ (v9.toInt = 0) := fun h9 => c9 ((fi_eq rfl (show (0 : Int32).toInt = 0 by decide)).mpr h9)
      refine lv_iload_n hx hb dX2_addPart_19 rfl (lv_at hl 3 rfl) ?_
      refine lv_iconst (v := 1) hx hb dX2_addPart_20 (by decide) ?_
      refine lv_bipush (v := 9) hx hb dX2_addPart_21 (by decide) ?_
      have hk_1 : (1 : Int32).toInt = 1 := by decide
      have hk_9 : (9 : Int32).toInt = 9 := by decide
      refine tk_Ni (As := [.int p3, .int 1, .int 9]) (rest := []) ⟨hx, hb, hml, hown, hts⟩ hK hG hZ hS (k_X12_within l D cy ld t _ p3 1 9) trivial ⟨va_cnB 3 hts (wl_in mw_262) rfl rfl rfl hK.2.2.2.1.1 (htl _ mw_2) hd_yX12_within ⟨(Nat.le_of_ble_eq_true rfl), (Nat.le_of_ble_eq_true rfl)⟩, htl _ mw_261, trivial⟩ (tk_w.pick [] rfl) rfl hl.1 rfl (Nat.le_of_ble_eq_true rfl) dX2_addPart_23 ⟨(Nat.le_of_ble_eq_true rfl), (Nat.le_of_ble_eq_true rfl)⟩ (fun v17 H locs hpo hG hS hq9 => ?_)
      obtain ⟨hpo19, hpo20, hpo21, hpo22, hpo23⟩ := hpo
      refine lv_if_ne (tgt := 31) hx hb dX2_addPart_26 (by decide) (fun c9 => ?_) (fun c9 => ?_)
      · have hc24 : ¬ (v17.toInt = 0) := fun h9 => c9 ((fi_eq rfl (show (0 : Int32).toInt = 0 by decide)).mpr h9)
        refine lv_aload_n hx hb dX2_addPart_31 rfl (lv_at hl 0 rfl) ?_
        refine tk_get (ci := 2) (C := RX2) (T := TX2) (N := 20) (sp := (0, 0, 10, 0)) hx hb htl inX2 hown hK hG ht_a0 (by decide) tk_no rfl 7 (by decide) (htl _ mw_369) (fun _ h9 => h9) rfl dX2_addPart_32 (fun v9 hf25 hV9 => ?_)
        obtain ⟨v26, rfl, (ha_v26 : 0 ≤ v26.toInt), (hb_v26 : v26.toInt ≤ 10)⟩ := hV9
        refine lv_bipush (v := 10) hx hb dX2_addPart_35 (by decide) ?_
        refine lv_icmp_lt (tgt := 43) hx hb dX2_addPart_37 (by decide) (fun c9 => ?_) (fun c9 => ?_)
        · have hc27 : v26.toInt < 10 := (fi_lt rfl (show (10 : Int32).toInt = 10 by decide)).mp c9
          refine lv_aload_n hx hb dX2_addPart_43 rfl (lv_at hl 0 rfl) ?_
          refine tk_get (ci := 2) (C := RX2) (T := TX2) (N := 20) (sp := (11, 100, 35, 10)) hx hb htl inX2 hown hK hG ht_a0 (by decide) tk_no rfl 8 (by decide) (htl _ mw_65) (fun _ h9 => h9) rfl dX2_addPart_44 (fun v9 hf28 hV9 => ?_)
          obtain ⟨rfl, ht_ld100⟩ := hV9
          have ht_ld100 : t (ld 100) = (35, 10, 0) := ht_ld100
          refine fx_top (v := .ref (ld 100)) rfl ?_
          refine lv_aload_n hx hb dX2_addPart_47 rfl (lv_at hl 0 rfl) ?_
          refine tk_getk (ci := 2) (C := RX2) (T := TX2) (N := 20) (sp := (0, 0, 10, 0)) hx hb htl inX2 hown hK hG ht_a0 (by decide) tk_no rfl 7 (by decide) (htl _ mw_369) (fun _ h9 => h9) rfl hf25 dX2_addPart_48 ?_
          refine lv_iload_n hx hb dX2_addPart_51 rfl (lv_at hl 1 rfl) ?_
          refine tk_iast hx hb hK hG hS ht_ld100 (by decide) (fun _ => Iff.rfl) tk_no rfl (by omega) (by omega) trivial (tk_w.of ht_ld100 (by decide) (List.mem_of_getElem? (i := 0) rfl) (Nat.le_refl _) (Nat.le_refl _)) dX2_addPart_52 (fun H locs hG hS hq9 => ?_)
          have hf25 := hf25.kept (hq9 _ (tk_ne ht_a0 ht_ld100 (Or.inl (by decide))))
          refine lv_aload_n hx hb dX2_addPart_53 rfl (lv_at hl 0 rfl) ?_
          refine tk_get (ci := 2) (C := RX2) (T := TX2) (N := 20) (sp := (11, 110, 36, 10)) hx hb htl inX2 hown hK hG ht_a0 (by decide) tk_no rfl 9 (by decide) (htl _ mw_66) (fun _ h9 => h9) rfl dX2_addPart_54 (fun v9 hf30 hV9 => ?_)
          obtain ⟨rfl, ht_ld110⟩ := hV9
          have ht_ld110 : t (ld 110) = (36, 10, 0) := ht_ld110
          refine fx_top (v := .ref (ld 110)) rfl ?_
          refine lv_aload_n hx hb dX2_addPart_57 rfl (lv_at hl 0 rfl) ?_
          refine tk_getk (ci := 2) (C := RX2) (T := TX2) (N := 20) (sp := (0, 0, 10, 0)) hx hb htl inX2 hown hK hG ht_a0 (by decide) tk_no rfl 7 (by decide) (htl _ mw_369) (fun _ h9 => h9) rfl hf25 dX2_addPart_58 ?_
          refine lv_iload_n hx hb dX2_addPart_61 rfl (lv_at hl 2 rfl) ?_
          refine tk_iast hx hb hK hG hS ht_ld110 (by decide) (fun _ => Iff.rfl) tk_no rfl (by omega) (by omega) trivial (tk_w.of ht_ld110 (by decide) (List.mem_of_getElem? (i := 1) rfl) (Nat.le_refl _) (Nat.le_refl _)) dX2_addPart_62 (fun H locs hG hS hq9 => ?_)
          have hf25 := hf25.kept (hq9 _ (tk_ne ht_a0 ht_ld110 (Or.inl (by decide))))
          refine lv_aload_n hx hb dX2_addPart_63 rfl (lv_at hl 0 rfl) ?_
          refine tk_get (ci := 2) (C := RX2) (T := TX2) (N := 20) (sp := (11, 120, 37, 10)) hx hb htl inX2 hown hK hG ht_a0 (by decide) tk_no rfl 10 (by decide) (htl _ mw_67) (fun _ h9 => h9) rfl dX2_addPart_64 (fun v9 hf32 hV9 => ?_)
          obtain ⟨rfl, ht_ld120⟩ := hV9
          have ht_ld120 : t (ld 120) = (37, 10, 0) := ht_ld120
          refine fx_top (v := .ref (ld 120)) rfl ?_
          refine lv_aload_n hx hb dX2_addPart_67 rfl (lv_at hl 0 rfl) ?_
          refine tk_getk (ci := 2) (C := RX2) (T := TX2) (N := 20) (sp := (0, 0, 10, 0)) hx hb htl inX2 hown hK hG ht_a0 (by decide) tk_no rfl 7 (by decide) (htl _ mw_369) (fun _ h9 => h9) rfl hf25 dX2_addPart_68 ?_
          refine lv_iload_n hx hb dX2_addPart_71 rfl (lv_at hl 3 rfl) ?_
          refine tk_iast hx hb hK hG hS ht_ld120 (by decide) (fun _ => Iff.rfl) tk_no rfl (by omega) (by omega) trivial (tk_w.of ht_ld120 (by decide) (List.mem_of_getElem? (i := 2) rfl) (Nat.le_refl _) (Nat.le_refl _)) dX2_addPart_72 (fun H locs hG hS hq9 => ?_)
          have hf25 := hf25.kept (hq9 _ (tk_ne ht_a0 ht_ld120 (Or.inl (by decide))))
          refine lv_aload_n hx hb dX2_addPart_73 rfl (lv_at hl 0 rfl) ?_
          refine lv_dup hx hb dX2_addPart_74 rfl ?_
          refine tk_getk (ci := 2) (C := RX2) (T := TX2) (N := 20) (sp := (0, 0, 10, 0)) hx hb htl inX2 hown hK hG ht_a0 (by decide) tk_no rfl 7 (by decide) (htl _ mw_369) (fun _ h9 => h9) rfl hf25 dX2_addPart_75 ?_
          refine lv_iconst (v := 1) hx hb dX2_addPart_78 (by decide) ?_
          refine lv_iadd hx hb dX2_addPart_79 ?_
          refine tk_add rfl (show (1 : Int32).toInt = 1 by decide) (by omega) (by omega) (fun v34 h_v34 => ?_)
          refine tk_put (ci := 2) (v := .int v34) (ty := .int) (C := RX2) (T := TX2) (N := 20) (sp := (0, 0, 10, 0)) hx hb htl inX2 tyX2 tyX2_ok nmX2 hown hK hG hS ht_a0 (by decide) tk_no rfl 7 (by decide) (htl _ mw_369) (fun _ h9 => h9) rfl (tyX2_ok 7 (by decide)) rfl rfl rfl (tk_V0 (by omega) (by omega)) (fun _ h => h) (tk_w.of ht_a0 (by decide) (List.mem_of_getElem? (i := 3) rfl) (Nat.le_refl _) (Nat.le_refl _)) dX2_addPart_80 (fun H locs hG hS hf35 hq9 hj9 => ?_)
          refine lv_aload_n hx hb dX2_addPart_83 rfl (lv_at hl 0 rfl) ?_
          refine tk_getk (ci := 2) (C := RX2) (T := TX2) (N := 20) (sp := (0, 0, 10, 0)) hx hb htl inX2 hown hK hG ht_a0 (by decide) tk_no rfl 7 (by decide) (htl _ mw_369) (fun _ h9 => h9) rfl hf35 dX2_addPart_84 ?_
          refine lv_iconst (v := 1) hx hb dX2_addPart_87 (by decide) ?_
          refine lv_isub hx hb dX2_addPart_88 ?_
          refine tk_sub rfl (show (1 : Int32).toInt = 1 by decide) (by omega) (by omega) (fun v37 h_v37 => ?_)
          exact tk_iret (v := v37) hx hb hr rfl hlocks (show (-5) ≤ v37.toInt ∧ v37.toInt ≤ 9 from ⟨(by omega), (by omega)⟩) hG hS dX2_addPart_89
        · have hc27 : ¬ (v26.toInt < 10) := fun h9 => c9 ((fi_lt rfl (show (10 : Int32).toInt = 10 by decide)).mpr h9)
          refine lv_bipush (v := (-5)) hx hb dX2_addPart_40 (by decide) ?_
          have hk_m5 : ((-5) : Int32).toInt = (-5) := by decide
          exact tk_iret (v := (-5)) hx hb hr rfl hlocks (show (-5) ≤ ((-5) : Int32).toInt ∧ ((-5) : Int32).toInt ≤ 9 from ⟨(by omega), (by omega)⟩) hG hS dX2_addPart_42
      · have hc24 : v17.toInt = 0 := (fi_eq rfl (show (0 : Int32).toInt = 0 by decide)).mp c9
        refine lv_iconst (v := (-1)) hx hb dX2_addPart_29 (by decide) ?_
        have hk_m1 : ((-1) : Int32).toInt = (-1) := by decide
        exact tk_iret (v := (-1)) hx hb hr rfl hlocks (show (-5) ≤ ((-1) : Int32).toInt ∧ ((-1) : Int32).toInt ≤ 9 from ⟨(by omega), (by omega)⟩) hG hS dX2_addPart_30
theorem dX2_addLaw_0 : decode cX2_addLaw 0 = .ok (.aload_n 0, 1) := by decide +kernel
theorem dX2_addLaw_1 : decode cX2_addLaw 1 = .ok (.getfield 80, 3) := by decide +kernel
theorem dX2_addLaw_4 : decode cX2_addLaw 4 = .ok (.bipush 6, 2) := by decide +kernel
theorem dX2_addLaw_6 : decode cX2_addLaw 6 = .ok (.if_icmp .lt 6, 3) := by decide +kernel
theorem dX2_addLaw_12 : decode cX2_addLaw 12 = .ok (.aload_n 0, 1) := by decide +kernel
theorem dX2_addLaw_13 : decode cX2_addLaw 13 = .ok (.getfield 41, 3) := by decide +kernel
theorem dX2_addLaw_16 : decode cX2_addLaw 16 = .ok (.aload_n 0, 1) := by decide +kernel
theorem dX2_addLaw_17 : decode cX2_addLaw 17 = .ok (.getfield 80, 3) := by decide +kernel
theorem dX2_addLaw_20 : decode cX2_addLaw 20 = .ok (.aload_n 1, 1) := by decide +kernel
theorem dX2_addLaw_21 : decode cX2_addLaw 21 = .ok (.aastore, 1) := by decide +kernel
theorem dX2_addLaw_22 : decode cX2_addLaw 22 = .ok (.aload_n 0, 1) := by decide +kernel
theorem dX2_addLaw_23 : decode cX2_addLaw 23 = .ok (.dup, 1) := by decide +kernel
theorem dX2_addLaw_24 : decode cX2_addLaw 24 = .ok (.getfield 80, 3) := by decide +kernel
theorem dX2_addLaw_27 : decode cX2_addLaw 27 = .ok (.iconst 1, 1) := by decide +kernel
theorem dX2_addLaw_28 : decode cX2_addLaw 28 = .ok (.iadd, 1) := by decide +kernel
theorem dX2_addLaw_29 : decode cX2_addLaw 29 = .ok (.putfield 80, 3) := by decide +kernel
theorem dX2_addLaw_32 : decode cX2_addLaw 32 = .ok (.aload_n 0, 1) := by decide +kernel
theorem dX2_addLaw_33 : decode cX2_addLaw 33 = .ok (.getfield 80, 3) := by decide +kernel
theorem dX2_addLaw_36 : decode cX2_addLaw 36 = .ok (.iconst 1, 1) := by decide +kernel
theorem dX2_addLaw_37 : decode cX2_addLaw 37 = .ok (.isub, 1) := by decide +kernel
theorem dX2_addLaw_38 : decode cX2_addLaw 38 = .ok (.ireturn, 1) := by decide +kernel
theorem dX2_addLaw_9 : decode cX2_addLaw 9 = .ok (.bipush (-5), 2) := by decide +kernel
theorem dX2_addLaw_11 : decode cX2_addLaw 11 = .ok (.ireturn, 1) := by decide +kernel
set_option maxHeartbeats 4000000 in
set_option maxRecDepth 100000 in
theorem k_X2_addLaw (l : Launch) (D : va_G) (cy : Nat → ClassId) (ld : Nat → Nat) (t : tk_T) (sn1 : Nat) (sr1 : Nat) (a0 : Nat) (a1 : Nat) (ht_a0 : t a0 = (3, 0, 0)) (ht_a1 : t a1 = (8, sn1, sr1)) : Met l yX2_addLaw (wl yX2_addLaw cX2_addLaw 2 (some .int)) ({ frames := 3, cells := 0, slots := 0, locals := 140 }) (tp D cy ld t [] [.ref a0, .ref a1] (fun H => True)) (ti D cy ld t [] (fun r H => (-5) ≤ r.toInt ∧ r.toInt ≤ 5) (tk_w t [(28, 0, 0), (3, 0, 0)])) 0 0 (tk_w t [(28, 0, 0), (3, 0, 0)]) := by
  refine tk_met (y := yX2_addLaw) (cc := cX2_addLaw) (maxL := 2) (ret := (some .int)) (av := [.ref a0, .ref a1]) _ _ (by decide) (Nat.le_of_ble_eq_true rfl) ?_
  intro p e s m args below meth c hx hb hr hml hts htl hown hlocks hK H locs hH hG hS hB hZ ls hl
  have hown : s.vm.findClass RX2 = some m.cls := hown
  have hl : lv_has ls 2 [(0, .ref a0), (1, .ref a1)] := hl
  have hb_a1 := tk_X8 hG ht_a1 tk_no
  refine lv_aload_n hx hb dX2_addLaw_0 rfl (lv_at hl 0 rfl) ?_
  refine tk_get (ci := 2) (C := RX2) (T := TX2) (N := 20) (sp := (0, 0, 6, 0)) hx hb htl inX2 hown hK hG ht_a0 (by decide) tk_no rfl 13 (by decide) (htl _ mw_663) (fun _ h9 => h9) rfl dX2_addLaw_1 (fun v9 hf1 hV9 => ?_)
  obtain ⟨v2, rfl, (ha_v2 : 0 ≤ v2.toInt), (hb_v2 : v2.toInt ≤ 6)⟩ := hV9
  refine lv_bipush (v := 6) hx hb dX2_addLaw_4 (by decide) ?_
  refine lv_icmp_lt (tgt := 12) hx hb dX2_addLaw_6 (by decide) (fun c9 => ?_) (fun c9 => ?_)
  · have hc3 : v2.toInt < 6 := (fi_lt rfl (show (6 : Int32).toInt = 6 by decide)).mp c9
    refine lv_aload_n hx hb dX2_addLaw_12 rfl (lv_at hl 0 rfl) ?_
    refine tk_get (ci := 2) (C := RX2) (T := TX2) (N := 20) (sp := (1, 28, 6, 0)) hx hb htl inX2 hown hK hG ht_a0 (by decide) tk_no rfl 14 (by decide) (htl _ mw_70) (fun _ h9 => h9) rfl dX2_addLaw_13 (fun v9 hf4 hV9 => ?_)
    obtain ⟨b5, rfl, ht_b5⟩ := hV9
    have ht_b5 : t b5 = (28, 6, 0) := ht_b5
    refine lv_aload_n hx hb dX2_addLaw_16 rfl (lv_at hl 0 rfl) ?_
    refine tk_getk (ci := 2) (C := RX2) (T := TX2) (N := 20) (sp := (0, 0, 6, 0)) hx hb htl inX2 hown hK hG ht_a0 (by decide) tk_no rfl 13 (by decide) (htl _ mw_663) (fun _ h9 => h9) rfl hf1 dX2_addLaw_17 ?_
    refine lv_aload_n hx hb dX2_addLaw_20 rfl (lv_at hl 1 rfl) ?_
    refine tk_aast (ci := 7) hx hb hK hG hS 5 rfl ht_b5 (by decide) (fun _ => Iff.rfl) tk_no ht_a1 (by decide) tk_no rfl rfl (by omega) (by omega) (fun _ h => by cases h; exact ⟨_, _, ht_a1⟩) (tk_w.of ht_b5 (by decide) (List.mem_of_getElem? (i := 0) rfl) (Nat.le_refl _) (Nat.le_refl _)) dX2_addLaw_21 (fun H locs hG hS hq9 => ?_)
    have hf1 := hf1.kept (hq9 _ (tk_ne ht_a0 ht_b5 (Or.inl (by decide))))
    refine lv_aload_n hx hb dX2_addLaw_22 rfl (lv_at hl 0 rfl) ?_
    refine lv_dup hx hb dX2_addLaw_23 rfl ?_
    refine tk_getk (ci := 2) (C := RX2) (T := TX2) (N := 20) (sp := (0, 0, 6, 0)) hx hb htl inX2 hown hK hG ht_a0 (by decide) tk_no rfl 13 (by decide) (htl _ mw_663) (fun _ h9 => h9) rfl hf1 dX2_addLaw_24 ?_
    refine lv_iconst (v := 1) hx hb dX2_addLaw_27 (by decide) ?_
    refine lv_iadd hx hb dX2_addLaw_28 ?_
    refine tk_add rfl (show (1 : Int32).toInt = 1 by decide) (by omega) (by omega) (fun v7 h_v7 => ?_)
    refine tk_put (ci := 2) (v := .int v7) (ty := .int) (C := RX2) (T := TX2) (N := 20) (sp := (0, 0, 6, 0)) hx hb htl inX2 tyX2 tyX2_ok nmX2 hown hK hG hS ht_a0 (by decide) tk_no rfl 13 (by decide) (htl _ mw_663) (fun _ h9 => h9) rfl (tyX2_ok 13 (by decide)) rfl rfl rfl (tk_V0 (by omega) (by omega)) (fun _ h => h) (tk_w.of ht_a0 (by decide) (List.mem_of_getElem? (i := 1) rfl) (Nat.le_refl _) (Nat.le_refl _)) dX2_addLaw_29 (fun H locs hG hS hf8 hq9 hj9 => ?_)
    refine lv_aload_n hx hb dX2_addLaw_32 rfl (lv_at hl 0 rfl) ?_
    refine tk_getk (ci := 2) (C := RX2) (T := TX2) (N := 20) (sp := (0, 0, 6, 0)) hx hb htl inX2 hown hK hG ht_a0 (by decide) tk_no rfl 13 (by decide) (htl _ mw_663) (fun _ h9 => h9) rfl hf8 dX2_addLaw_33 ?_
    refine lv_iconst (v := 1) hx hb dX2_addLaw_36 (by decide) ?_
    refine lv_isub hx hb dX2_addLaw_37 ?_
    refine tk_sub rfl (show (1 : Int32).toInt = 1 by decide) (by omega) (by omega) (fun v10 h_v10 => ?_)
    exact tk_iret (v := v10) hx hb hr rfl hlocks (show (-5) ≤ v10.toInt ∧ v10.toInt ≤ 5 from ⟨(by omega), (by omega)⟩) hG hS dX2_addLaw_38
  · have hc3 : ¬ (v2.toInt < 6) := fun h9 => c9 ((fi_lt rfl (show (6 : Int32).toInt = 6 by decide)).mpr h9)
    refine lv_bipush (v := (-5)) hx hb dX2_addLaw_9 (by decide) ?_
    have hk_m5 : ((-5) : Int32).toInt = (-5) := by decide
    exact tk_iret (v := (-5)) hx hb hr rfl hlocks (show (-5) ≤ ((-5) : Int32).toInt ∧ ((-5) : Int32).toInt ≤ 5 from ⟨(by omega), (by omega)⟩) hG hS dX2_addLaw_11
theorem dX2_addSight_0 : decode cX2_addSight 0 = .ok (.aload_n 0, 1) := by decide +kernel
theorem dX2_addSight_1 : decode cX2_addSight 1 = .ok (.getfield 77, 3) := by decide +kernel
theorem dX2_addSight_4 : decode cX2_addSight 4 = .ok (.bipush 8, 2) := by decide +kernel
theorem dX2_addSight_6 : decode cX2_addSight 6 = .ok (.if_icmp .lt 6, 3) := by decide +kernel
theorem dX2_addSight_12 : decode cX2_addSight 12 = .ok (.aload_n 0, 1) := by decide +kernel
theorem dX2_addSight_13 : decode cX2_addSight 13 = .ok (.getfield 77, 3) := by decide +kernel
theorem dX2_addSight_16 : decode cX2_addSight 16 = .ok (.iconst 5, 1) := by decide +kernel
theorem dX2_addSight_17 : decode cX2_addSight 17 = .ok (.imul, 1) := by decide +kernel
theorem dX2_addSight_18 : decode cX2_addSight 18 = .ok (.istore 6, 2) := by decide +kernel
theorem dX2_addSight_20 : decode cX2_addSight 20 = .ok (.aload_n 0, 1) := by decide +kernel
theorem dX2_addSight_21 : decode cX2_addSight 21 = .ok (.getfield 36, 3) := by decide +kernel
theorem dX2_addSight_24 : decode cX2_addSight 24 = .ok (.iload 6, 2) := by decide +kernel
theorem dX2_addSight_26 : decode cX2_addSight 26 = .ok (.iload_n 1, 1) := by decide +kernel
theorem dX2_addSight_27 : decode cX2_addSight 27 = .ok (.iastore, 1) := by decide +kernel
theorem dX2_addSight_28 : decode cX2_addSight 28 = .ok (.aload_n 0, 1) := by decide +kernel
theorem dX2_addSight_29 : decode cX2_addSight 29 = .ok (.getfield 36, 3) := by decide +kernel
theorem dX2_addSight_32 : decode cX2_addSight 32 = .ok (.iload 6, 2) := by decide +kernel
theorem dX2_addSight_34 : decode cX2_addSight 34 = .ok (.iconst 1, 1) := by decide +kernel
theorem dX2_addSight_35 : decode cX2_addSight 35 = .ok (.iadd, 1) := by decide +kernel
theorem dX2_addSight_36 : decode cX2_addSight 36 = .ok (.iload_n 2, 1) := by decide +kernel
theorem dX2_addSight_37 : decode cX2_addSight 37 = .ok (.iastore, 1) := by decide +kernel
theorem dX2_addSight_38 : decode cX2_addSight 38 = .ok (.aload_n 0, 1) := by decide +kernel
theorem dX2_addSight_39 : decode cX2_addSight 39 = .ok (.getfield 36, 3) := by decide +kernel
theorem dX2_addSight_42 : decode cX2_addSight 42 = .ok (.iload 6, 2) := by decide +kernel
theorem dX2_addSight_44 : decode cX2_addSight 44 = .ok (.iconst 2, 1) := by decide +kernel
theorem dX2_addSight_45 : decode cX2_addSight 45 = .ok (.iadd, 1) := by decide +kernel
theorem dX2_addSight_46 : decode cX2_addSight 46 = .ok (.iload_n 3, 1) := by decide +kernel
theorem dX2_addSight_47 : decode cX2_addSight 47 = .ok (.iastore, 1) := by decide +kernel
theorem dX2_addSight_48 : decode cX2_addSight 48 = .ok (.aload_n 0, 1) := by decide +kernel
theorem dX2_addSight_49 : decode cX2_addSight 49 = .ok (.getfield 36, 3) := by decide +kernel
theorem dX2_addSight_52 : decode cX2_addSight 52 = .ok (.iload 6, 2) := by decide +kernel
theorem dX2_addSight_54 : decode cX2_addSight 54 = .ok (.iconst 3, 1) := by decide +kernel
theorem dX2_addSight_55 : decode cX2_addSight 55 = .ok (.iadd, 1) := by decide +kernel
theorem dX2_addSight_56 : decode cX2_addSight 56 = .ok (.iload 4, 2) := by decide +kernel
theorem dX2_addSight_58 : decode cX2_addSight 58 = .ok (.iastore, 1) := by decide +kernel
theorem dX2_addSight_59 : decode cX2_addSight 59 = .ok (.aload_n 0, 1) := by decide +kernel
theorem dX2_addSight_60 : decode cX2_addSight 60 = .ok (.getfield 36, 3) := by decide +kernel
theorem dX2_addSight_63 : decode cX2_addSight 63 = .ok (.iload 6, 2) := by decide +kernel
theorem dX2_addSight_65 : decode cX2_addSight 65 = .ok (.iconst 4, 1) := by decide +kernel
theorem dX2_addSight_66 : decode cX2_addSight 66 = .ok (.iadd, 1) := by decide +kernel
theorem dX2_addSight_67 : decode cX2_addSight 67 = .ok (.iload 5, 2) := by decide +kernel
theorem dX2_addSight_69 : decode cX2_addSight 69 = .ok (.iastore, 1) := by decide +kernel
theorem dX2_addSight_70 : decode cX2_addSight 70 = .ok (.aload_n 0, 1) := by decide +kernel
theorem dX2_addSight_71 : decode cX2_addSight 71 = .ok (.dup, 1) := by decide +kernel
theorem dX2_addSight_72 : decode cX2_addSight 72 = .ok (.getfield 77, 3) := by decide +kernel
theorem dX2_addSight_75 : decode cX2_addSight 75 = .ok (.iconst 1, 1) := by decide +kernel
theorem dX2_addSight_76 : decode cX2_addSight 76 = .ok (.iadd, 1) := by decide +kernel
theorem dX2_addSight_77 : decode cX2_addSight 77 = .ok (.putfield 77, 3) := by decide +kernel
theorem dX2_addSight_80 : decode cX2_addSight 80 = .ok (.aload_n 0, 1) := by decide +kernel
theorem dX2_addSight_81 : decode cX2_addSight 81 = .ok (.getfield 77, 3) := by decide +kernel
theorem dX2_addSight_84 : decode cX2_addSight 84 = .ok (.ireturn, 1) := by decide +kernel
theorem dX2_addSight_9 : decode cX2_addSight 9 = .ok (.bipush (-5), 2) := by decide +kernel
theorem dX2_addSight_11 : decode cX2_addSight 11 = .ok (.ireturn, 1) := by decide +kernel
set_option maxHeartbeats 4000000 in
set_option maxRecDepth 100000 in
theorem k_X2_addSight (l : Launch) (D : va_G) (cy : Nat → ClassId) (ld : Nat → Nat) (t : tk_T) (a0 : Nat) (p1 : Int32) (p2 : Int32) (p3 : Int32) (p4 : Int32) (p5 : Int32) (ht_a0 : t a0 = (3, 0, 0)) (hp_0 : 0 ≤ p1.toInt) (hp_1 : p1.toInt ≤ 9) (hp_2 : 0 ≤ p2.toInt) (hp_3 : p2.toInt ≤ 7) (hp_4 : 0 ≤ p3.toInt) (hp_5 : p3.toInt ≤ 11) (hp_6 : 0 ≤ p4.toInt) (hp_7 : p4.toInt ≤ 1) (hp_8 : 0 ≤ p5.toInt) (hp_9 : p5.toInt ≤ 1) : Met l yX2_addSight (wl yX2_addSight cX2_addSight 7 (some .int)) ({ frames := 3, cells := 0, slots := 0, locals := 140 }) (tp D cy ld t [] [.ref a0, .int p1, .int p2, .int p3, .int p4, .int p5] (fun H => True)) (ti D cy ld t [] (fun r H => (-5) ≤ r.toInt ∧ r.toInt ≤ 8) (tk_w t [(24, 0, 0), (3, 0, 0)])) 0 0 (tk_w t [(24, 0, 0), (3, 0, 0)]) := by
  refine tk_met (y := yX2_addSight) (cc := cX2_addSight) (maxL := 7) (ret := (some .int)) (av := [.ref a0, .int p1, .int p2, .int p3, .int p4, .int p5]) _ _ (by decide) (Nat.le_of_ble_eq_true rfl) ?_
  intro p e s m args below meth c hx hb hr hml hts htl hown hlocks hK H locs hH hG hS hB hZ ls hl
  have hown : s.vm.findClass RX2 = some m.cls := hown
  have hl : lv_has ls 7 [(0, .ref a0), (1, .int p1), (2, .int p2), (3, .int p3), (4, .int p4), (5, .int p5)] := hl
  have hr_p1 := tk_rng p1
  have hr_p2 := tk_rng p2
  have hr_p3 := tk_rng p3
  have hr_p4 := tk_rng p4
  have hr_p5 := tk_rng p5
  refine lv_aload_n hx hb dX2_addSight_0 rfl (lv_at hl 0 rfl) ?_
  refine tk_get (ci := 2) (C := RX2) (T := TX2) (N := 20) (sp := (0, 0, 8, 0)) hx hb htl inX2 hown hK hG ht_a0 (by decide) tk_no rfl 11 (by decide) (htl _ mw_1489) (fun _ h9 => h9) rfl dX2_addSight_1 (fun v9 hf1 hV9 => ?_)
  obtain ⟨v2, rfl, (ha_v2 : 0 ≤ v2.toInt), (hb_v2 : v2.toInt ≤ 8)⟩ := hV9
  refine lv_bipush (v := 8) hx hb dX2_addSight_4 (by decide) ?_
  refine lv_icmp_lt (tgt := 12) hx hb dX2_addSight_6 (by decide) (fun c9 => ?_) (fun c9 => ?_)
  · have hc3 : v2.toInt < 8 := (fi_lt rfl (show (8 : Int32).toInt = 8 by decide)).mp c9
    refine lv_aload_n hx hb dX2_addSight_12 rfl (lv_at hl 0 rfl) ?_
    refine tk_getk (ci := 2) (C := RX2) (T := TX2) (N := 20) (sp := (0, 0, 8, 0)) hx hb htl inX2 hown hK hG ht_a0 (by decide) tk_no rfl 11 (by decide) (htl _ mw_1489) (fun _ h9 => h9) rfl hf1 dX2_addSight_13 ?_
    refine lv_iconst (v := 5) hx hb dX2_addSight_16 (by decide) ?_
    refine lv_imul hx hb dX2_addSight_17 ?_
    refine tk_mul rfl (show (5 : Int32).toInt = 5 by decide) (by omega) (by omega) (fun v4 h_v4 => ?_)
    refine lv_istore (lv' := [(6, .int v4), (0, .ref a0), (1, .int p1), (2, .int p2), (3, .int p3), (4, .int p4), (5, .int p5)]) hx hb dX2_addSight_18 hl (by decide) rfl (fun ls hl => ?_)
    refine lv_aload_n hx hb dX2_addSight_20 rfl (lv_at hl 1 rfl) ?_
    refine tk_get (ci := 2) (C := RX2) (T := TX2) (N := 20) (sp := (1, 24, 40, 0)) hx hb htl inX2 hown hK hG ht_a0 (by decide) tk_no rfl 12 (by decide) (htl _ mw_68) (fun _ h9 => h9) rfl dX2_addSight_21 (fun v9 hf5 hV9 => ?_)
    obtain ⟨b6, rfl, ht_b6⟩ := hV9
    have ht_b6 : t b6 = (24, 40, 0) := ht_b6
    refine lv_iload hx hb dX2_addSight_24 (lv_at hl 0 rfl) ?_
    refine lv_iload_n hx hb dX2_addSight_26 rfl (lv_at hl 2 rfl) ?_
    refine tk_iast hx hb hK hG hS ht_b6 (by decide) (fun _ => Iff.rfl) tk_no rfl (by omega) (by omega) (show 0 ≤ (p1 : Int32).toInt ∧ (p1 : Int32).toInt ≤ 11 ∧ (v4.toInt % 5 = 0 → (p1 : Int32).toInt ≤ 9) ∧ (v4.toInt % 5 = 1 → (p1 : Int32).toInt ≤ 7) from ⟨by omega, by omega, by omega, by omega⟩) (tk_w.of ht_b6 (by decide) (List.mem_of_getElem? (i := 0) rfl) (Nat.le_refl _) (Nat.le_refl _)) dX2_addSight_27 (fun H locs hG hS hq9 => ?_)
    have hf1 := hf1.kept (hq9 _ (tk_ne ht_a0 ht_b6 (Or.inl (by decide))))
    refine lv_aload_n hx hb dX2_addSight_28 rfl (lv_at hl 1 rfl) ?_
    refine tk_get (ci := 2) (C := RX2) (T := TX2) (N := 20) (sp := (1, 24, 40, 0)) hx hb htl inX2 hown hK hG ht_a0 (by decide) tk_no rfl 12 (by decide) (htl _ mw_68) (fun _ h9 => h9) rfl dX2_addSight_29 (fun v9 hf8 hV9 => ?_)
    obtain ⟨b9, rfl, ht_b9⟩ := hV9
    have ht_b9 : t b9 = (24, 40, 0) := ht_b9
    refine lv_iload hx hb dX2_addSight_32 (lv_at hl 0 rfl) ?_
    refine lv_iconst (v := 1) hx hb dX2_addSight_34 (by decide) ?_
    refine lv_iadd hx hb dX2_addSight_35 ?_
    refine tk_add rfl (show (1 : Int32).toInt = 1 by decide) (by omega) (by omega) (fun v10 h_v10 => ?_)
    refine lv_iload_n hx hb dX2_addSight_36 rfl (lv_at hl 3 rfl) ?_
    refine tk_iast hx hb hK hG hS ht_b9 (by decide) (fun _ => Iff.rfl) tk_no rfl (by omega) (by omega) (show 0 ≤ (p2 : Int32).toInt ∧ (p2 : Int32).toInt ≤ 11 ∧ (v10.toInt % 5 = 0 → (p2 : Int32).toInt ≤ 9) ∧ (v10.toInt % 5 = 1 → (p2 : Int32).toInt ≤ 7) from ⟨by omega, by omega, by omega, by omega⟩) (tk_w.of ht_b9 (by decide) (List.mem_of_getElem? (i := 0) rfl) (Nat.le_refl _) (Nat.le_refl _)) dX2_addSight_37 (fun H locs hG hS hq9 => ?_)
    have hf1 := hf1.kept (hq9 _ (tk_ne ht_a0 ht_b9 (Or.inl (by decide))))
    refine lv_aload_n hx hb dX2_addSight_38 rfl (lv_at hl 1 rfl) ?_
    refine tk_get (ci := 2) (C := RX2) (T := TX2) (N := 20) (sp := (1, 24, 40, 0)) hx hb htl inX2 hown hK hG ht_a0 (by decide) tk_no rfl 12 (by decide) (htl _ mw_68) (fun _ h9 => h9) rfl dX2_addSight_39 (fun v9 hf12 hV9 => ?_)
    obtain ⟨b13, rfl, ht_b13⟩ := hV9
    have ht_b13 : t b13 = (24, 40, 0) := ht_b13
    refine lv_iload hx hb dX2_addSight_42 (lv_at hl 0 rfl) ?_
    refine lv_iconst (v := 2) hx hb dX2_addSight_44 (by decide) ?_
    refine lv_iadd hx hb dX2_addSight_45 ?_
    refine tk_add rfl (show (2 : Int32).toInt = 2 by decide) (by omega) (by omega) (fun v14 h_v14 => ?_)
    refine lv_iload_n hx hb dX2_addSight_46 rfl (lv_at hl 4 rfl) ?_
    refine tk_iast hx hb hK hG hS ht_b13 (by decide) (fun _ => Iff.rfl) tk_no rfl (by omega) (by omega) (show 0 ≤ (p3 : Int32).toInt ∧ (p3 : Int32).toInt ≤ 11 ∧ (v14.toInt % 5 = 0 → (p3 : Int32).toInt ≤ 9) ∧ (v14.toInt % 5 = 1 → (p3 : Int32).toInt ≤ 7) from ⟨by omega, by omega, by omega, by omega⟩) (tk_w.of ht_b13 (by decide) (List.mem_of_getElem? (i := 0) rfl) (Nat.le_refl _) (Nat.le_refl _)) dX2_addSight_47 (fun H locs hG hS hq9 => ?_)
    have hf1 := hf1.kept (hq9 _ (tk_ne ht_a0 ht_b13 (Or.inl (by decide))))
    refine lv_aload_n hx hb dX2_addSight_48 rfl (lv_at hl 1 rfl) ?_
    refine tk_get (ci := 2) (C := RX2) (T := TX2) (N := 20) (sp := (1, 24, 40, 0)) hx hb htl inX2 hown hK hG ht_a0 (by decide) tk_no rfl 12 (by decide) (htl _ mw_68) (fun _ h9 => h9) rfl dX2_addSight_49 (fun v9 hf16 hV9 => ?_)
    obtain ⟨b17, rfl, ht_b17⟩ := hV9
    have ht_b17 : t b17 = (24, 40, 0) := ht_b17
    refine lv_iload hx hb dX2_addSight_52 (lv_at hl 0 rfl) ?_
    refine lv_iconst (v := 3) hx hb dX2_addSight_54 (by decide) ?_
    refine lv_iadd hx hb dX2_addSight_55 ?_
    refine tk_add rfl (show (3 : Int32).toInt = 3 by decide) (by omega) (by omega) (fun v18 h_v18 => ?_)
    refine lv_iload hx hb dX2_addSight_56 (lv_at hl 5 rfl) ?_
    refine tk_iast hx hb hK hG hS ht_b17 (by decide) (fun _ => Iff.rfl) tk_no rfl (by omega) (by omega) (show 0 ≤ (p4 : Int32).toInt ∧ (p4 : Int32).toInt ≤ 11 ∧ (v18.toInt % 5 = 0 → (p4 : Int32).toInt ≤ 9) ∧ (v18.toInt % 5 = 1 → (p4 : Int32).toInt ≤ 7) from ⟨by omega, by omega, by omega, by omega⟩) (tk_w.of ht_b17 (by decide) (List.mem_of_getElem? (i := 0) rfl) (Nat.le_refl _) (Nat.le_refl _)) dX2_addSight_58 (fun H locs hG hS hq9 => ?_)
    have hf1 := hf1.kept (hq9 _ (tk_ne ht_a0 ht_b17 (Or.inl (by decide))))
    refine lv_aload_n hx hb dX2_addSight_59 rfl (lv_at hl 1 rfl) ?_
    refine tk_get (ci := 2) (C := RX2) (T := TX2) (N := 20) (sp := (1, 24, 40, 0)) hx hb htl inX2 hown hK hG ht_a0 (by decide) tk_no rfl 12 (by decide) (htl _ mw_68) (fun _ h9 => h9) rfl dX2_addSight_60 (fun v9 hf20 hV9 => ?_)
    obtain ⟨b21, rfl, ht_b21⟩ := hV9
    have ht_b21 : t b21 = (24, 40, 0) := ht_b21
    refine lv_iload hx hb dX2_addSight_63 (lv_at hl 0 rfl) ?_
    refine lv_iconst (v := 4) hx hb dX2_addSight_65 (by decide) ?_
    refine lv_iadd hx hb dX2_addSight_66 ?_
    refine tk_add rfl (show (4 : Int32).toInt = 4 by decide) (by omega) (by omega) (fun v22 h_v22 => ?_)
    refine lv_iload hx hb dX2_addSight_67 (lv_at hl 6 rfl) ?_
    refine tk_iast hx hb hK hG hS ht_b21 (by decide) (fun _ => Iff.rfl) tk_no rfl (by omega) (by omega) (show 0 ≤ (p5 : Int32).toInt ∧ (p5 : Int32).toInt ≤ 11 ∧ (v22.toInt % 5 = 0 → (p5 : Int32).toInt ≤ 9) ∧ (v22.toInt % 5 = 1 → (p5 : Int32).toInt ≤ 7) from ⟨by omega, by omega, by omega, by omega⟩) (tk_w.of ht_b21 (by decide) (List.mem_of_getElem? (i := 0) rfl) (Nat.le_refl _) (Nat.le_refl _)) dX2_addSight_69 (fun H locs hG hS hq9 => ?_)
    have hf1 := hf1.kept (hq9 _ (tk_ne ht_a0 ht_b21 (Or.inl (by decide))))
    refine lv_aload_n hx hb dX2_addSight_70 rfl (lv_at hl 1 rfl) ?_
    refine lv_dup hx hb dX2_addSight_71 rfl ?_
    refine tk_getk (ci := 2) (C := RX2) (T := TX2) (N := 20) (sp := (0, 0, 8, 0)) hx hb htl inX2 hown hK hG ht_a0 (by decide) tk_no rfl 11 (by decide) (htl _ mw_1489) (fun _ h9 => h9) rfl hf1 dX2_addSight_72 ?_
    refine lv_iconst (v := 1) hx hb dX2_addSight_75 (by decide) ?_
    refine lv_iadd hx hb dX2_addSight_76 ?_
    refine tk_add rfl (show (1 : Int32).toInt = 1 by decide) (by omega) (by omega) (fun v24 h_v24 => ?_)
    refine tk_put (ci := 2) (v := .int v24) (ty := .int) (C := RX2) (T := TX2) (N := 20) (sp := (0, 0, 8, 0)) hx hb htl inX2 tyX2 tyX2_ok nmX2 hown hK hG hS ht_a0 (by decide) tk_no rfl 11 (by decide) (htl _ mw_1489) (fun _ h9 => h9) rfl (tyX2_ok 11 (by decide)) rfl rfl rfl (tk_V0 (by omega) (by omega)) (fun _ h => h) (tk_w.of ht_a0 (by decide) (List.mem_of_getElem? (i := 1) rfl) (Nat.le_refl _) (Nat.le_refl _)) dX2_addSight_77 (fun H locs hG hS hf25 hq9 hj9 => ?_)
    refine lv_aload_n hx hb dX2_addSight_80 rfl (lv_at hl 1 rfl) ?_
    refine tk_getk (ci := 2) (C := RX2) (T := TX2) (N := 20) (sp := (0, 0, 8, 0)) hx hb htl inX2 hown hK hG ht_a0 (by decide) tk_no rfl 11 (by decide) (htl _ mw_1489) (fun _ h9 => h9) rfl hf25 dX2_addSight_81 ?_
    exact tk_iret (v := v24) hx hb hr rfl hlocks (show (-5) ≤ v24.toInt ∧ v24.toInt ≤ 8 from ⟨(by omega), (by omega)⟩) hG hS dX2_addSight_84
  · have hc3 : ¬ (v2.toInt < 8) := fun h9 => c9 ((fi_lt rfl (show (8 : Int32).toInt = 8 by decide)).mpr h9)
    refine lv_bipush (v := (-5)) hx hb dX2_addSight_9 (by decide) ?_
    have hk_m5 : ((-5) : Int32).toInt = (-5) := by decide
    exact tk_iret (v := (-5)) hx hb hr rfl hlocks (show (-5) ≤ ((-5) : Int32).toInt ∧ ((-5) : Int32).toInt ≤ 8 from ⟨(by omega), (by omega)⟩) hG hS dX2_addSight_11
