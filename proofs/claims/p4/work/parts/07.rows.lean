theorem dX1_takeBack_0 : decode cX1_takeBack 0 = .ok (.aload_n 0, 1) := by decide +kernel
theorem dX1_takeBack_1 : decode cX1_takeBack 1 = .ok (.getfield 99, 3) := by decide +kernel
theorem dX1_takeBack_4 : decode cX1_takeBack 4 = .ok (.ifCond .ne 6, 3) := by decide +kernel
theorem dX1_takeBack_10 : decode cX1_takeBack 10 = .ok (.aload_n 0, 1) := by decide +kernel
theorem dX1_takeBack_11 : decode cX1_takeBack 11 = .ok (.dup, 1) := by decide +kernel
theorem dX1_takeBack_12 : decode cX1_takeBack 12 = .ok (.getfield 99, 3) := by decide +kernel
theorem dX1_takeBack_15 : decode cX1_takeBack 15 = .ok (.iconst 1, 1) := by decide +kernel
theorem dX1_takeBack_16 : decode cX1_takeBack 16 = .ok (.isub, 1) := by decide +kernel
theorem dX1_takeBack_17 : decode cX1_takeBack 17 = .ok (.putfield 99, 3) := by decide +kernel
theorem dX1_takeBack_20 : decode cX1_takeBack 20 = .ok (.aload_n 0, 1) := by decide +kernel
theorem dX1_takeBack_21 : decode cX1_takeBack 21 = .ok (.getfield 102, 3) := by decide +kernel
theorem dX1_takeBack_24 : decode cX1_takeBack 24 = .ok (.aload_n 0, 1) := by decide +kernel
theorem dX1_takeBack_25 : decode cX1_takeBack 25 = .ok (.getfield 99, 3) := by decide +kernel
theorem dX1_takeBack_28 : decode cX1_takeBack 28 = .ok (.iadd, 1) := by decide +kernel
theorem dX1_takeBack_29 : decode cX1_takeBack 29 = .ok (.bipush 16, 2) := by decide +kernel
theorem dX1_takeBack_31 : decode cX1_takeBack 31 = .ok (.irem, 1) := by decide +kernel
theorem dX1_takeBack_32 : decode cX1_takeBack 32 = .ok (.istore_n 1, 1) := by decide +kernel
theorem dX1_takeBack_33 : decode cX1_takeBack 33 = .ok (.aload_n 0, 1) := by decide +kernel
theorem dX1_takeBack_34 : decode cX1_takeBack 34 = .ok (.getfield 32, 3) := by decide +kernel
theorem dX1_takeBack_37 : decode cX1_takeBack 37 = .ok (.getfield 50, 3) := by decide +kernel
theorem dX1_takeBack_40 : decode cX1_takeBack 40 = .ok (.aload_n 0, 1) := by decide +kernel
theorem dX1_takeBack_41 : decode cX1_takeBack 41 = .ok (.getfield 11, 3) := by decide +kernel
theorem dX1_takeBack_44 : decode cX1_takeBack 44 = .ok (.iload_n 1, 1) := by decide +kernel
theorem dX1_takeBack_45 : decode cX1_takeBack 45 = .ok (.aaload, 1) := by decide +kernel
theorem dX1_takeBack_46 : decode cX1_takeBack 46 = .ok (.invokevirtual 105, 3) := by decide +kernel
theorem dX1_takeBack_49 : decode cX1_takeBack 49 = .ok (.aload_n 0, 1) := by decide +kernel
theorem dX1_takeBack_50 : decode cX1_takeBack 50 = .ok (.getfield 17, 3) := by decide +kernel
theorem dX1_takeBack_53 : decode cX1_takeBack 53 = .ok (.iload_n 1, 1) := by decide +kernel
theorem dX1_takeBack_54 : decode cX1_takeBack 54 = .ok (.iaload, 1) := by decide +kernel
theorem dX1_takeBack_55 : decode cX1_takeBack 55 = .ok (.ireturn, 1) := by decide +kernel
theorem dX1_takeBack_7 : decode cX1_takeBack 7 = .ok (.bipush (-3), 2) := by decide +kernel
theorem dX1_takeBack_9 : decode cX1_takeBack 9 = .ok (.ireturn, 1) := by decide +kernel
set_option maxHeartbeats 4000000 in
set_option maxRecDepth 100000 in
theorem k_X1_takeBack (l : Launch) (D : va_G) (cy : Nat → ClassId) (ld : Nat → Nat) (t : tk_T) (a0 : Nat) (ht_a0 : t a0 = (2, 0, 0)) : Met l yX1_takeBack (wl yX1_takeBack cX1_takeBack 2 (some .int)) ({ frames := 5, cells := 0, slots := 0, locals := 280 }) (tp D cy ld t [] [.ref a0] (fun H => True)) (ti D cy ld t [] (fun r H => True) (tk_w t [(2, 0, 0), (20, 0, 0), (10, 0, 0)])) 0 0 (tk_w t [(2, 0, 0), (20, 0, 0), (10, 0, 0)]) := by
  refine tk_met (y := yX1_takeBack) (cc := cX1_takeBack) (maxL := 2) (ret := (some .int)) (av := [.ref a0]) _ _ (by decide) (Nat.le_of_ble_eq_true rfl) ?_
  intro p e s m args below meth c hx hb hr hml hts htl hown hlocks hK H locs hH hG hS hB hZ ls hl
  have hown : s.vm.findClass RX1 = some m.cls := hown
  have hl : lv_has ls 2 [(0, .ref a0)] := hl
  refine lv_aload_n hx hb dX1_takeBack_0 rfl (lv_at hl 0 rfl) ?_
  refine tk_get (ci := 1) (C := RX1) (T := TX1) (N := 11) (sp := (0, 0, 16, 0)) hx hb htl inX1 hown hK hG ht_a0 (by decide) tk_no rfl 0 (by decide) (htl _ mw_267) (fun _ h9 => h9) rfl dX1_takeBack_1 (fun v9 hf1 hV9 => ?_)
  obtain ⟨v2, rfl, (ha_v2 : 0 ≤ v2.toInt), (hb_v2 : v2.toInt ≤ 16)⟩ := hV9
  refine lv_if_ne (tgt := 10) hx hb dX1_takeBack_4 (by decide) (fun c9 => ?_) (fun c9 => ?_)
  · have hc3 : ¬ (v2.toInt = 0) := fun h9 => c9 ((fi_eq rfl (show (0 : Int32).toInt = 0 by decide)).mpr h9)
    refine lv_aload_n hx hb dX1_takeBack_10 rfl (lv_at hl 0 rfl) ?_
    refine lv_dup hx hb dX1_takeBack_11 rfl ?_
    refine tk_getk (ci := 1) (C := RX1) (T := TX1) (N := 11) (sp := (0, 0, 16, 0)) hx hb htl inX1 hown hK hG ht_a0 (by decide) tk_no rfl 0 (by decide) (htl _ mw_267) (fun _ h9 => h9) rfl hf1 dX1_takeBack_12 ?_
    refine lv_iconst (v := 1) hx hb dX1_takeBack_15 (by decide) ?_
    refine lv_isub hx hb dX1_takeBack_16 ?_
    refine tk_sub rfl (show (1 : Int32).toInt = 1 by decide) (by omega) (by omega) (fun v4 h_v4 => ?_)
    refine tk_put (ci := 1) (v := .int v4) (ty := .int) (C := RX1) (T := TX1) (N := 11) (sp := (0, 0, 16, 0)) hx hb htl inX1 tyX1 tyX1_ok nmX1 hown hK hG hS ht_a0 (by decide) tk_no rfl 0 (by decide) (htl _ mw_267) (fun _ h9 => h9) rfl (tyX1_ok 0 (by decide)) rfl rfl rfl (tk_V0 (by omega) (by omega)) (fun _ h => h) (tk_w.of ht_a0 (by decide) (List.mem_of_getElem? (i := 0) rfl) (Nat.le_refl _) (Nat.le_refl _)) dX1_takeBack_17 (fun H locs hG hS hf5 hq9 hj9 => ?_)
    refine lv_aload_n hx hb dX1_takeBack_20 rfl (lv_at hl 0 rfl) ?_
    refine tk_get (ci := 1) (C := RX1) (T := TX1) (N := 11) (sp := (0, 0, 15, 0)) hx hb htl inX1 hown hK hG ht_a0 (by decide) tk_no rfl 5 (by decide) (htl _ mw_815) (fun _ h9 => h9) rfl dX1_takeBack_21 (fun v9 hf7 hV9 => ?_)
    obtain ⟨v8, rfl, (ha_v8 : 0 ≤ v8.toInt), (hb_v8 : v8.toInt ≤ 15)⟩ := hV9
    refine lv_aload_n hx hb dX1_takeBack_24 rfl (lv_at hl 0 rfl) ?_
    refine tk_getk (ci := 1) (C := RX1) (T := TX1) (N := 11) (sp := (0, 0, 16, 0)) hx hb htl inX1 hown hK hG ht_a0 (by decide) tk_no rfl 0 (by decide) (htl _ mw_267) (fun _ h9 => h9) rfl hf5 dX1_takeBack_25 ?_
    refine lv_iadd hx hb dX1_takeBack_28 ?_
    refine tk_add rfl rfl (by omega) (by omega) (fun v9 h_v9 => ?_)
    refine lv_bipush (v := 16) hx hb dX1_takeBack_29 (by decide) ?_
    refine lv_irem hx hb dX1_takeBack_31 (by decide) ?_
    refine tk_say (P := fun z => 0 ≤ z.toInt ∧ z.toInt < 16) (tk_rem rfl (show (16 : Int32).toInt = 16 by decide) (by omega) (by omega)) (fun v10 h_v10 => ?_)
    refine lv_istore_n (lv' := [(1, .int v10), (0, .ref a0)]) hx hb dX1_takeBack_32 rfl hl (by decide) rfl (fun ls hl => ?_)
    refine lv_aload_n hx hb dX1_takeBack_33 rfl (lv_at hl 1 rfl) ?_
    refine tk_get (ci := 1) (C := RX1) (T := TX1) (N := 11) (sp := (8, 20, 3, 0)) hx hb htl inX1 hown hK hG ht_a0 (by decide) tk_no rfl 1 (by decide) (htl _ mw_114) (fun _ h9 => h9) rfl dX1_takeBack_34 (fun v9 hf11 hV9 => ?_)
    obtain ⟨rfl, ht_ld20⟩ := hV9
    have ht_ld20 : t (ld 20) = (3, 0, 0) := ht_ld20
    refine fx_top (v := .ref (ld 20)) rfl ?_
    refine tk_get (ci := 2) (C := RX2) (T := TX2) (N := 20) (sp := (9, 40, 10, 0)) hx hb htl inX2 hown hK hG ht_ld20 (by decide) tk_no rfl 19 (by decide) (htl _ mw_814) (fun _ h9 => h9) rfl dX1_takeBack_37 (fun v9 hf12 hV9 => ?_)
    obtain ⟨rfl, ht_ld40⟩ := hV9
    have ht_ld40 : t (ld 40) = (10, 0, 0) := ht_ld40
    refine fx_top (v := .ref (ld 40)) rfl ?_
    refine lv_aload_n hx hb dX1_takeBack_40 rfl (lv_at hl 1 rfl) ?_
    refine tk_get (ci := 1) (C := RX1) (T := TX1) (N := 11) (sp := (6, 25, 16, 1)) hx hb htl inX1 hown hK hG ht_a0 (by decide) tk_no rfl 3 (by decide) (htl _ mw_109) (fun _ h9 => h9) rfl dX1_takeBack_41 (fun v9 hf13 hV9 => ?_)
    obtain ⟨b14, rfl, ht_b14⟩ := hV9
    have ht_b14 : t b14 = (25, 16, 1) := ht_b14
    refine lv_iload_n hx hb dX1_takeBack_44 rfl (lv_at hl 0 rfl) ?_
    refine tk_aald hx hb hK hG 3 rfl rfl ht_b14 (by decide) (fun _ h => h) tk_no rfl (by omega) (by omega) dX1_takeBack_45 (fun o15 ht_o15 => ?_)
    obtain ⟨b16, rfl, ht_b16⟩ := ht_o15
    have ht_b16 : t b16 = (10, 0, 1) := ht_b16
    refine fx_top (v := .ref b16) rfl ?_
    obtain ⟨v9, hf17, hV9⟩ := tk_peek (ci := 9) (C := RX9) (T := TX9) (N := 11) (sp := (0, (-1), 7, 0)) hG ht_b16 (by decide) tk_no rfl 5 (by decide) rfl
    obtain ⟨v18, rfl, (ha_v18 : (-1) ≤ v18.toInt), (hb_v18 : v18.toInt ≤ 7)⟩ := hV9
    refine tk_Vv (As := [.ref b16]) (rest := []) (ci := 9) ⟨hx, hb, hml, hown, hts⟩ hK hG hZ hS (k_X9_copyFrom l D cy ld t 0 1 (ld 40) b16 v18 ht_ld40 ht_b16 (by omega) (by omega) (by omega)) hf17 ⟨callB_of 1 hts (wl_in mw_821) rfl rfl rfl (htl _ mw_76) (htl _ mw_818) hd_yX9_copyFrom ⟨(Nat.le_of_ble_eq_true rfl), (Nat.le_of_ble_eq_true rfl)⟩, htl _ mw_819, htl _ mw_820⟩ ht_ld40 (by decide) tk_no rfl (tk_w.pick [1, 2] rfl) rfl hl.1 rfl (Nat.le_of_ble_eq_true rfl) dX1_takeBack_46 ⟨(Nat.le_of_ble_eq_true rfl), (Nat.le_of_ble_eq_true rfl)⟩ (fun H locs hpo hG hS hq9 => ?_)
    have hf5 := hf5.call hq9 (tk_w.no ht_a0 (by decide))
    have hf17 := hf17.call hq9 (tk_w.no ht_b16 (by decide))
    have hf20 := hpo
    refine lv_aload_n hx hb dX1_takeBack_49 rfl (lv_at hl 1 rfl) ?_
    refine tk_get (ci := 1) (C := RX1) (T := TX1) (N := 11) (sp := (6, 20, 16, 0)) hx hb htl inX1 hown hK hG ht_a0 (by decide) tk_no rfl 4 (by decide) (htl _ mw_110) (fun _ h9 => h9) rfl dX1_takeBack_50 (fun v9 hf21 hV9 => ?_)
    obtain ⟨b22, rfl, ht_b22⟩ := hV9
    have ht_b22 : t b22 = (20, 16, 0) := ht_b22
    refine lv_iload_n hx hb dX1_takeBack_53 rfl (lv_at hl 0 rfl) ?_
    refine tk_iald hx hb hK hG ht_b22 (by decide) (fun _ h => h) tk_no rfl (by omega) (by omega) dX1_takeBack_54 (fun v23 _ _ => ?_)
    have hr_v23 := tk_rng v23
    exact tk_iret (v := v23) hx hb hr rfl hlocks trivial hG hS dX1_takeBack_55
  · have hc3 : v2.toInt = 0 := (fi_eq rfl (show (0 : Int32).toInt = 0 by decide)).mp c9
    refine lv_bipush (v := (-3)) hx hb dX1_takeBack_7 (by decide) ?_
    have hk_m3 : ((-3) : Int32).toInt = (-3) := by decide
    exact tk_iret (v := (-3)) hx hb hr rfl hlocks trivial hG hS dX1_takeBack_9
theorem dX1_clearUndone_0 : decode cX1_clearUndone 0 = .ok (.aload_n 0, 1) := by decide +kernel
theorem dX1_clearUndone_1 : decode cX1_clearUndone 1 = .ok (.iconst 0, 1) := by decide +kernel
theorem dX1_clearUndone_2 : decode cX1_clearUndone 2 = .ok (.putfield 99, 3) := by decide +kernel
theorem dX1_clearUndone_5 : decode cX1_clearUndone 5 = .ok (.return_, 1) := by decide +kernel
set_option maxHeartbeats 4000000 in
set_option maxRecDepth 100000 in
theorem k_X1_clearUndone (l : Launch) (D : va_G) (cy : Nat → ClassId) (ld : Nat → Nat) (t : tk_T) (a0 : Nat) (ht_a0 : t a0 = (2, 0, 0)) : Met l yX1_clearUndone (wl yX1_clearUndone cX1_clearUndone 1 none) ({ frames := 3, cells := 0, slots := 0, locals := 140 }) (tp D cy ld t [] [.ref a0] (fun H => True)) (tv D cy ld t [] (fun H => True) (tk_w t [(2, 0, 0)])) 0 0 (tk_w t [(2, 0, 0)]) := by
  refine tk_met (y := yX1_clearUndone) (cc := cX1_clearUndone) (maxL := 1) (ret := none) (av := [.ref a0]) _ _ (by decide) (Nat.le_of_ble_eq_true rfl) ?_
  intro p e s m args below meth c hx hb hr hml hts htl hown hlocks hK H locs hH hG hS hB hZ ls hl
  have hown : s.vm.findClass RX1 = some m.cls := hown
  have hl : lv_has ls 1 [(0, .ref a0)] := hl
  refine lv_aload_n hx hb dX1_clearUndone_0 rfl (lv_at hl 0 rfl) ?_
  refine lv_iconst (v := 0) hx hb dX1_clearUndone_1 (by decide) ?_
  refine tk_put (ci := 1) (v := .int 0) (ty := .int) (C := RX1) (T := TX1) (N := 11) (sp := (0, 0, 16, 0)) hx hb htl inX1 tyX1 tyX1_ok nmX1 hown hK hG hS ht_a0 (by decide) tk_no rfl 0 (by decide) (htl _ mw_267) (fun _ h9 => h9) rfl (tyX1_ok 0 (by decide)) rfl rfl rfl (tk_V0 (by decide) (by decide)) (fun _ h => h) (tk_w.of ht_a0 (by decide) (List.mem_of_getElem? (i := 0) rfl) (Nat.le_refl _) (Nat.le_refl _)) dX1_clearUndone_2 (fun H locs hG hS hf1 hq9 hj9 => ?_)
  exact tk_vret hx hb hr hlocks trivial hG hS dX1_clearUndone_5
theorem dX1_save_0 : decode cX1_save 0 = .ok (.aload_n 0, 1) := by decide +kernel
theorem dX1_save_1 : decode cX1_save 1 = .ok (.getfield 22, 3) := by decide +kernel
theorem dX1_save_4 : decode cX1_save 4 = .ok (.aload_n 0, 1) := by decide +kernel
theorem dX1_save_5 : decode cX1_save 5 = .ok (.getfield 32, 3) := by decide +kernel
theorem dX1_save_8 : decode cX1_save 8 = .ok (.getfield 50, 3) := by decide +kernel
theorem dX1_save_11 : decode cX1_save 11 = .ok (.invokevirtual 105, 3) := by decide +kernel
theorem dX1_save_14 : decode cX1_save 14 = .ok (.aload_n 0, 1) := by decide +kernel
theorem dX1_save_15 : decode cX1_save 15 = .ok (.aload_n 0, 1) := by decide +kernel
theorem dX1_save_16 : decode cX1_save 16 = .ok (.getfield 102, 3) := by decide +kernel
theorem dX1_save_19 : decode cX1_save 19 = .ok (.putfield 109, 3) := by decide +kernel
theorem dX1_save_22 : decode cX1_save 22 = .ok (.aload_n 0, 1) := by decide +kernel
theorem dX1_save_23 : decode cX1_save 23 = .ok (.aload_n 0, 1) := by decide +kernel
theorem dX1_save_24 : decode cX1_save 24 = .ok (.getfield 99, 3) := by decide +kernel
theorem dX1_save_27 : decode cX1_save 27 = .ok (.putfield 112, 3) := by decide +kernel
theorem dX1_save_30 : decode cX1_save 30 = .ok (.iconst 0, 1) := by decide +kernel
theorem dX1_save_31 : decode cX1_save 31 = .ok (.istore_n 1, 1) := by decide +kernel
theorem dX1_save_32 : decode cX1_save 32 = .ok (.iload_n 1, 1) := by decide +kernel
theorem dX1_save_33 : decode cX1_save 33 = .ok (.bipush 16, 2) := by decide +kernel
theorem dX1_save_35 : decode cX1_save 35 = .ok (.if_icmp .ge 36, 3) := by decide +kernel
theorem dX1_save_71 : decode cX1_save 71 = .ok (.return_, 1) := by decide +kernel
theorem dX1_save_38 : decode cX1_save 38 = .ok (.aload_n 0, 1) := by decide +kernel
theorem dX1_save_39 : decode cX1_save 39 = .ok (.getfield 26, 3) := by decide +kernel
theorem dX1_save_42 : decode cX1_save 42 = .ok (.iload_n 1, 1) := by decide +kernel
theorem dX1_save_43 : decode cX1_save 43 = .ok (.aaload, 1) := by decide +kernel
theorem dX1_save_44 : decode cX1_save 44 = .ok (.aload_n 0, 1) := by decide +kernel
theorem dX1_save_45 : decode cX1_save 45 = .ok (.getfield 11, 3) := by decide +kernel
theorem dX1_save_48 : decode cX1_save 48 = .ok (.iload_n 1, 1) := by decide +kernel
theorem dX1_save_49 : decode cX1_save 49 = .ok (.aaload, 1) := by decide +kernel
theorem dX1_save_50 : decode cX1_save 50 = .ok (.invokevirtual 105, 3) := by decide +kernel
theorem dX1_save_53 : decode cX1_save 53 = .ok (.aload_n 0, 1) := by decide +kernel
theorem dX1_save_54 : decode cX1_save 54 = .ok (.getfield 29, 3) := by decide +kernel
theorem dX1_save_57 : decode cX1_save 57 = .ok (.iload_n 1, 1) := by decide +kernel
theorem dX1_save_58 : decode cX1_save 58 = .ok (.aload_n 0, 1) := by decide +kernel
theorem dX1_save_59 : decode cX1_save 59 = .ok (.getfield 17, 3) := by decide +kernel
theorem dX1_save_62 : decode cX1_save 62 = .ok (.iload_n 1, 1) := by decide +kernel
theorem dX1_save_63 : decode cX1_save 63 = .ok (.iaload, 1) := by decide +kernel
theorem dX1_save_64 : decode cX1_save 64 = .ok (.iastore, 1) := by decide +kernel
theorem dX1_save_65 : decode cX1_save 65 = .ok (.iinc 1 1, 3) := by decide +kernel
theorem dX1_save_68 : decode cX1_save 68 = .ok (.goto (-36), 3) := by decide +kernel
set_option maxHeartbeats 4000000 in
set_option maxRecDepth 100000 in
theorem k_X1_save (l : Launch) (D : va_G) (cy : Nat → ClassId) (ld : Nat → Nat) (t : tk_T) (a0 : Nat) (ht_a0 : t a0 = (2, 0, 0)) : Met l yX1_save (wl yX1_save cX1_save 2 none) ({ frames := 5, cells := 0, slots := 0, locals := 280 }) (tp D cy ld t [] [.ref a0] (fun H => True)) (tv D cy ld t [] (fun H => True) (tk_w t [(20, 2, 2), (10, 2, 2), (2, 0, 0), (20, 3, 3), (10, 3, 3), (20, 0, 0)])) 0 0 (tk_w t [(20, 2, 2), (10, 2, 2), (2, 0, 0), (20, 3, 3), (10, 3, 3), (20, 0, 0)]) := by
  refine tk_met (y := yX1_save) (cc := cX1_save) (maxL := 2) (ret := none) (av := [.ref a0]) _ _ (by decide) (Nat.le_of_ble_eq_true rfl) ?_
  intro p e s m args below meth c hx hb hr hml hts htl hown hlocks hK H locs hH hG hS hB hZ ls hl
  have hown : s.vm.findClass RX1 = some m.cls := hown
  have hl : lv_has ls 2 [(0, .ref a0)] := hl
  refine lv_aload_n hx hb dX1_save_0 rfl (lv_at hl 0 rfl) ?_
  refine tk_get (ci := 1) (C := RX1) (T := TX1) (N := 11) (sp := (6, 10, 0, 2)) hx hb htl inX1 hown hK hG ht_a0 (by decide) tk_no rfl 6 (by decide) (htl _ mw_111) (fun _ h9 => h9) rfl dX1_save_1 (fun v9 hf1 hV9 => ?_)
  obtain ⟨b2, rfl, ht_b2⟩ := hV9
  have ht_b2 : t b2 = (10, 0, 2) := ht_b2
  refine lv_aload_n hx hb dX1_save_4 rfl (lv_at hl 0 rfl) ?_
  refine tk_get (ci := 1) (C := RX1) (T := TX1) (N := 11) (sp := (8, 20, 3, 0)) hx hb htl inX1 hown hK hG ht_a0 (by decide) tk_no rfl 1 (by decide) (htl _ mw_114) (fun _ h9 => h9) rfl dX1_save_5 (fun v9 hf3 hV9 => ?_)
  obtain ⟨rfl, ht_ld20⟩ := hV9
  have ht_ld20 : t (ld 20) = (3, 0, 0) := ht_ld20
  refine fx_top (v := .ref (ld 20)) rfl ?_
  refine tk_get (ci := 2) (C := RX2) (T := TX2) (N := 20) (sp := (9, 40, 10, 0)) hx hb htl inX2 hown hK hG ht_ld20 (by decide) tk_no rfl 19 (by decide) (htl _ mw_814) (fun _ h9 => h9) rfl dX1_save_8 (fun v9 hf4 hV9 => ?_)
  obtain ⟨rfl, ht_ld40⟩ := hV9
  have ht_ld40 : t (ld 40) = (10, 0, 0) := ht_ld40
  refine fx_top (v := .ref (ld 40)) rfl ?_
  obtain ⟨v9, hf5, hV9⟩ := tk_peek (ci := 9) (C := RX9) (T := TX9) (N := 11) (sp := (0, (-1), 7, 0)) hG ht_ld40 (by decide) tk_no rfl 5 (by decide) rfl
  obtain ⟨v6, rfl, (ha_v6 : (-1) ≤ v6.toInt), (hb_v6 : v6.toInt ≤ 7)⟩ := hV9
  refine tk_Vv (As := [.ref (ld 40)]) (rest := []) (ci := 9) ⟨hx, hb, hml, hown, hts⟩ hK hG hZ hS (k_X9_copyFrom l D cy ld t 2 0 b2 (ld 40) v6 ht_b2 ht_ld40 (by omega) (by omega) (by omega)) hf5 ⟨callB_of 1 hts (wl_in mw_821) rfl rfl rfl (htl _ mw_76) (htl _ mw_818) hd_yX9_copyFrom ⟨(Nat.le_of_ble_eq_true rfl), (Nat.le_of_ble_eq_true rfl)⟩, htl _ mw_819, htl _ mw_820⟩ ht_b2 (by decide) tk_no rfl (tk_w.pick [0, 1] rfl) rfl hl.1 rfl (Nat.le_of_ble_eq_true rfl) dX1_save_11 ⟨(Nat.le_of_ble_eq_true rfl), (Nat.le_of_ble_eq_true rfl)⟩ (fun H locs hpo hG hS hq9 => ?_)
  have hf5 := hf5.call hq9 (tk_w.no ht_ld40 (by decide))
  have hf8 := hpo
  refine lv_aload_n hx hb dX1_save_14 rfl (lv_at hl 0 rfl) ?_
  refine lv_aload_n hx hb dX1_save_15 rfl (lv_at hl 0 rfl) ?_
  refine tk_get (ci := 1) (C := RX1) (T := TX1) (N := 11) (sp := (0, 0, 15, 0)) hx hb htl inX1 hown hK hG ht_a0 (by decide) tk_no rfl 5 (by decide) (htl _ mw_815) (fun _ h9 => h9) rfl dX1_save_16 (fun v9 hf9 hV9 => ?_)
  obtain ⟨v10, rfl, (ha_v10 : 0 ≤ v10.toInt), (hb_v10 : v10.toInt ≤ 15)⟩ := hV9
  refine tk_put (ci := 1) (v := .int v10) (ty := .int) (C := RX1) (T := TX1) (N := 11) (sp := (0, 0, 15, 0)) hx hb htl inX1 tyX1 tyX1_ok nmX1 hown hK hG hS ht_a0 (by decide) tk_no rfl 9 (by decide) (htl _ mw_816) (fun _ h9 => h9) rfl (tyX1_ok 9 (by decide)) rfl rfl rfl (tk_V0 (by omega) (by omega)) (fun _ h => h) (tk_w.of ht_a0 (by decide) (List.mem_of_getElem? (i := 2) rfl) (Nat.le_refl _) (Nat.le_refl _)) dX1_save_19 (fun H locs hG hS hf11 hq9 hj9 => ?_)
  have hf5 := hf5.kept (hq9 _ (tk_ne ht_ld40 ht_a0 (Or.inl (by decide))))
  have hf8 := hf8.kept (hq9 _ (tk_ne ht_b2 ht_a0 (Or.inl (by decide))))
  refine lv_aload_n hx hb dX1_save_22 rfl (lv_at hl 0 rfl) ?_
  refine lv_aload_n hx hb dX1_save_23 rfl (lv_at hl 0 rfl) ?_
  refine tk_get (ci := 1) (C := RX1) (T := TX1) (N := 11) (sp := (0, 0, 16, 0)) hx hb htl inX1 hown hK hG ht_a0 (by decide) tk_no rfl 0 (by decide) (htl _ mw_267) (fun _ h9 => h9) rfl dX1_save_24 (fun v9 hf13 hV9 => ?_)
  obtain ⟨v14, rfl, (ha_v14 : 0 ≤ v14.toInt), (hb_v14 : v14.toInt ≤ 16)⟩ := hV9
  refine tk_put (ci := 1) (v := .int v14) (ty := .int) (C := RX1) (T := TX1) (N := 11) (sp := (0, 0, 16, 0)) hx hb htl inX1 tyX1 tyX1_ok nmX1 hown hK hG hS ht_a0 (by decide) tk_no rfl 10 (by decide) (htl _ mw_817) (fun _ h9 => h9) rfl (tyX1_ok 10 (by decide)) rfl rfl rfl (tk_V0 (by omega) (by omega)) (fun _ h => h) (tk_w.of ht_a0 (by decide) (List.mem_of_getElem? (i := 2) rfl) (Nat.le_refl _) (Nat.le_refl _)) dX1_save_27 (fun H locs hG hS hf15 hq9 hj9 => ?_)
  have hf5 := hf5.kept (hq9 _ (tk_ne ht_ld40 ht_a0 (Or.inl (by decide))))
  have hf8 := hf8.kept (hq9 _ (tk_ne ht_b2 ht_a0 (Or.inl (by decide))))
  have hf13 := hj9 0 _ (by decide) (by decide) hf13
  refine lv_iconst (v := 0) hx hb dX1_save_30 (by decide) ?_
  refine lv_istore_n (lv' := [(1, .int 0), (0, .ref a0)]) hx hb dX1_save_31 rfl hl (by decide) rfl (fun ls hl => ?_)
  have hl158 : ∀ (N_l158 : Nat) (v17 : Int32) (H : Heap) (locs : List Loc), v17.toInt ≤ 16 → 0 ≤ v17.toInt → (-1) * v17.toInt + 16 < (N_l158 : Int) → tk_G D cy ld t [] H → va_S (tk_w t [(20, 2, 2), (10, 2, 2), (2, 0, 0), (20, 3, 3), (10, 3, 3), (20, 0, 0)]) s.heap H locs → tk_f D H (ld 40) 9 5 (.int v6) → tk_f D H b2 9 5 (.int v6) → tk_f D H a0 1 0 (.int v14) → ∀ ls : Array Slot, lv_has ls 2 [(1, .int v17), (0, .ref a0)] → W p l e ({ frames := 5, cells := 0, slots := 0, locals := 280 }) s m args below meth c H locs 0 0 (MQ below (tv D cy ld t [] (fun H => True) (tk_w t [(20, 2, 2), (10, 2, 2), (2, 0, 0), (20, 3, 3), (10, 3, 3), (20, 0, 0)])) args s 0 0 (tk_w t [(20, 2, 2), (10, 2, 2), (2, 0, 0), (20, 3, 3), (10, 3, 3), (20, 0, 0)])) (F0 m 32 ls []) := by
    intro N_l158
    induction N_l158 with
    | zero => intro v17 H locs hq0_l158 hq1_l158 hm_l158 hG hS hf5 hf8 hf13 ls hl; exfalso; omega
    | succ N_l158 ih_l158 =>
      intro v17 H locs hq0_l158 hq1_l158 hm_l158 hG hS hf5 hf8 hf13 ls hl
      refine lv_iload_n hx hb dX1_save_32 rfl (lv_at hl 0 rfl) ?_
      refine lv_bipush (v := 16) hx hb dX1_save_33 (by decide) ?_
      refine lv_icmp_ge (tgt := 71) hx hb dX1_save_35 (by decide) (fun c9 => ?_) (fun c9 => ?_)
      · have hc159 : 16 ≤ v17.toInt := (fi_le (show (16 : Int32).toInt = 16 by decide) rfl).mp c9
        exact tk_vret hx hb hr hlocks trivial hG hS dX1_save_71
      · have hc159 : ¬ (16 ≤ v17.toInt) := fun h9 => c9 ((fi_le (show (16 : Int32).toInt = 16 by decide) rfl).mpr h9)
        refine lv_aload_n hx hb dX1_save_38 rfl (lv_at hl 1 rfl) ?_
        refine tk_get (ci := 1) (C := RX1) (T := TX1) (N := 11) (sp := (6, 25, 16, 3)) hx hb htl inX1 hown hK hG ht_a0 (by decide) tk_no rfl 7 (by decide) (htl _ mw_112) (fun _ h9 => h9) rfl dX1_save_39 (fun v9 hf160 hV9 => ?_)
        obtain ⟨b161, rfl, ht_b161⟩ := hV9
        have ht_b161 : t b161 = (25, 16, 3) := ht_b161
        refine lv_iload_n hx hb dX1_save_42 rfl (lv_at hl 0 rfl) ?_
        refine tk_aald hx hb hK hG 3 rfl rfl ht_b161 (by decide) (fun _ h => h) tk_no rfl (by omega) (by omega) dX1_save_43 (fun o162 ht_o162 => ?_)
        obtain ⟨b163, rfl, ht_b163⟩ := ht_o162
        have ht_b163 : t b163 = (10, 0, 3) := ht_b163
        refine fx_top (v := .ref b163) rfl ?_
        refine lv_aload_n hx hb dX1_save_44 rfl (lv_at hl 1 rfl) ?_
        refine tk_get (ci := 1) (C := RX1) (T := TX1) (N := 11) (sp := (6, 25, 16, 1)) hx hb htl inX1 hown hK hG ht_a0 (by decide) tk_no rfl 3 (by decide) (htl _ mw_109) (fun _ h9 => h9) rfl dX1_save_45 (fun v9 hf164 hV9 => ?_)
        obtain ⟨b165, rfl, ht_b165⟩ := hV9
        have ht_b165 : t b165 = (25, 16, 1) := ht_b165
        refine lv_iload_n hx hb dX1_save_48 rfl (lv_at hl 0 rfl) ?_
        refine tk_aald hx hb hK hG 3 rfl rfl ht_b165 (by decide) (fun _ h => h) tk_no rfl (by omega) (by omega) dX1_save_49 (fun o166 ht_o166 => ?_)
        obtain ⟨b167, rfl, ht_b167⟩ := ht_o166
        have ht_b167 : t b167 = (10, 0, 1) := ht_b167
        refine fx_top (v := .ref b167) rfl ?_
        obtain ⟨v9, hf168, hV9⟩ := tk_peek (ci := 9) (C := RX9) (T := TX9) (N := 11) (sp := (0, (-1), 7, 0)) hG ht_b167 (by decide) tk_no rfl 5 (by decide) rfl
        obtain ⟨v169, rfl, (ha_v169 : (-1) ≤ v169.toInt), (hb_v169 : v169.toInt ≤ 7)⟩ := hV9
        refine tk_Vv (As := [.ref b167]) (rest := []) (ci := 9) ⟨hx, hb, hml, hown, hts⟩ hK hG hZ hS (k_X9_copyFrom l D cy ld t 3 1 b163 b167 v169 ht_b163 ht_b167 (by omega) (by omega) (by omega)) hf168 ⟨callB_of 1 hts (wl_in mw_821) rfl rfl rfl (htl _ mw_76) (htl _ mw_818) hd_yX9_copyFrom ⟨(Nat.le_of_ble_eq_true rfl), (Nat.le_of_ble_eq_true rfl)⟩, htl _ mw_819, htl _ mw_820⟩ ht_b163 (by decide) tk_no rfl (tk_w.pick [3, 4] rfl) rfl hl.1 rfl (Nat.le_of_ble_eq_true rfl) dX1_save_50 ⟨(Nat.le_of_ble_eq_true rfl), (Nat.le_of_ble_eq_true rfl)⟩ (fun H locs hpo hG hS hq9 => ?_)
        have hf5 := hf5.call hq9 (tk_w.no ht_ld40 (by decide))
        have hf8 := hf8.call hq9 (tk_w.no ht_b2 (by decide))
        have hf13 := hf13.call hq9 (tk_w.no ht_a0 (by decide))
        have hf168 := hf168.call hq9 (tk_w.no ht_b167 (by decide))
        have hf171 := hpo
        refine lv_aload_n hx hb dX1_save_53 rfl (lv_at hl 1 rfl) ?_
        refine tk_get (ci := 1) (C := RX1) (T := TX1) (N := 11) (sp := (6, 20, 16, 0)) hx hb htl inX1 hown hK hG ht_a0 (by decide) tk_no rfl 8 (by decide) (htl _ mw_113) (fun _ h9 => h9) rfl dX1_save_54 (fun v9 hf172 hV9 => ?_)
        obtain ⟨b173, rfl, ht_b173⟩ := hV9
        have ht_b173 : t b173 = (20, 16, 0) := ht_b173
        refine lv_iload_n hx hb dX1_save_57 rfl (lv_at hl 0 rfl) ?_
        refine lv_aload_n hx hb dX1_save_58 rfl (lv_at hl 1 rfl) ?_
        refine tk_get (ci := 1) (C := RX1) (T := TX1) (N := 11) (sp := (6, 20, 16, 0)) hx hb htl inX1 hown hK hG ht_a0 (by decide) tk_no rfl 4 (by decide) (htl _ mw_110) (fun _ h9 => h9) rfl dX1_save_59 (fun v9 hf174 hV9 => ?_)
        obtain ⟨b175, rfl, ht_b175⟩ := hV9
        have ht_b175 : t b175 = (20, 16, 0) := ht_b175
        refine lv_iload_n hx hb dX1_save_62 rfl (lv_at hl 0 rfl) ?_
        refine tk_iald hx hb hK hG ht_b175 (by decide) (fun _ h => h) tk_no rfl (by omega) (by omega) dX1_save_63 (fun v176 _ _ => ?_)
        have hr_v176 := tk_rng v176
        refine tk_iast hx hb hK hG hS ht_b173 (by decide) (fun _ => Iff.rfl) tk_no rfl (by omega) (by omega) trivial (tk_w.of ht_b173 (by decide) (List.mem_of_getElem? (i := 5) rfl) (Nat.le_refl _) (Nat.le_refl _)) dX1_save_64 (fun H locs hG hS hq9 => ?_)
        have hf5 := hf5.kept (hq9 _ (tk_ne ht_ld40 ht_b173 (Or.inl (by decide))))
        have hf8 := hf8.kept (hq9 _ (tk_ne ht_b2 ht_b173 (Or.inl (by decide))))
        have hf13 := hf13.kept (hq9 _ (tk_ne ht_a0 ht_b173 (Or.inl (by decide))))
        have hf168 := hf168.kept (hq9 _ (tk_ne ht_b167 ht_b173 (Or.inl (by decide))))
        have hf171 := hf171.kept (hq9 _ (tk_ne ht_b163 ht_b173 (Or.inl (by decide))))
        obtain ⟨v178, h_v178, e_v178⟩ := tk_inc v17 1 (by decide) (by omega) (by omega)
        refine lv_iinc (v := v178) (lv' := [(1, .int v178), (0, .ref a0)]) hx hb dX1_save_65 hl (k := 0) rfl e_v178 (by decide) rfl (fun ls hl => ?_)
        refine lv_goto (tgt := 32) hx hb dX1_save_68 (by decide) ?_
        exact ih_l158 v178 _ _ (by omega) (by omega) (by omega) hG hS hf5 hf8 hf13 _ (lv_sub hl [0, 1] rfl)
  have hk_0 : (0 : Int32).toInt = 0 := by decide
  exact hl158 17 0 _ _ (by omega) (by omega) (by omega) hG hS hf5 hf8 hf13 _ (lv_sub hl [0, 1] rfl)
theorem dX1_restore_0 : decode cX1_restore 0 = .ok (.aload_n 0, 1) := by decide +kernel
theorem dX1_restore_1 : decode cX1_restore 1 = .ok (.getfield 32, 3) := by decide +kernel
theorem dX1_restore_4 : decode cX1_restore 4 = .ok (.getfield 50, 3) := by decide +kernel
theorem dX1_restore_7 : decode cX1_restore 7 = .ok (.aload_n 0, 1) := by decide +kernel
theorem dX1_restore_8 : decode cX1_restore 8 = .ok (.getfield 22, 3) := by decide +kernel
theorem dX1_restore_11 : decode cX1_restore 11 = .ok (.invokevirtual 105, 3) := by decide +kernel
theorem dX1_restore_14 : decode cX1_restore 14 = .ok (.aload_n 0, 1) := by decide +kernel
theorem dX1_restore_15 : decode cX1_restore 15 = .ok (.aload_n 0, 1) := by decide +kernel
theorem dX1_restore_16 : decode cX1_restore 16 = .ok (.getfield 109, 3) := by decide +kernel
theorem dX1_restore_19 : decode cX1_restore 19 = .ok (.putfield 102, 3) := by decide +kernel
theorem dX1_restore_22 : decode cX1_restore 22 = .ok (.aload_n 0, 1) := by decide +kernel
theorem dX1_restore_23 : decode cX1_restore 23 = .ok (.aload_n 0, 1) := by decide +kernel
theorem dX1_restore_24 : decode cX1_restore 24 = .ok (.getfield 112, 3) := by decide +kernel
theorem dX1_restore_27 : decode cX1_restore 27 = .ok (.putfield 99, 3) := by decide +kernel
theorem dX1_restore_30 : decode cX1_restore 30 = .ok (.iconst 0, 1) := by decide +kernel
theorem dX1_restore_31 : decode cX1_restore 31 = .ok (.istore_n 1, 1) := by decide +kernel
theorem dX1_restore_32 : decode cX1_restore 32 = .ok (.iload_n 1, 1) := by decide +kernel
theorem dX1_restore_33 : decode cX1_restore 33 = .ok (.bipush 16, 2) := by decide +kernel
theorem dX1_restore_35 : decode cX1_restore 35 = .ok (.if_icmp .ge 36, 3) := by decide +kernel
theorem dX1_restore_71 : decode cX1_restore 71 = .ok (.return_, 1) := by decide +kernel
theorem dX1_restore_38 : decode cX1_restore 38 = .ok (.aload_n 0, 1) := by decide +kernel
theorem dX1_restore_39 : decode cX1_restore 39 = .ok (.getfield 11, 3) := by decide +kernel
theorem dX1_restore_42 : decode cX1_restore 42 = .ok (.iload_n 1, 1) := by decide +kernel
theorem dX1_restore_43 : decode cX1_restore 43 = .ok (.aaload, 1) := by decide +kernel
theorem dX1_restore_44 : decode cX1_restore 44 = .ok (.aload_n 0, 1) := by decide +kernel
theorem dX1_restore_45 : decode cX1_restore 45 = .ok (.getfield 26, 3) := by decide +kernel
theorem dX1_restore_48 : decode cX1_restore 48 = .ok (.iload_n 1, 1) := by decide +kernel
theorem dX1_restore_49 : decode cX1_restore 49 = .ok (.aaload, 1) := by decide +kernel
theorem dX1_restore_50 : decode cX1_restore 50 = .ok (.invokevirtual 105, 3) := by decide +kernel
theorem dX1_restore_53 : decode cX1_restore 53 = .ok (.aload_n 0, 1) := by decide +kernel
theorem dX1_restore_54 : decode cX1_restore 54 = .ok (.getfield 17, 3) := by decide +kernel
theorem dX1_restore_57 : decode cX1_restore 57 = .ok (.iload_n 1, 1) := by decide +kernel
theorem dX1_restore_58 : decode cX1_restore 58 = .ok (.aload_n 0, 1) := by decide +kernel
theorem dX1_restore_59 : decode cX1_restore 59 = .ok (.getfield 29, 3) := by decide +kernel
theorem dX1_restore_62 : decode cX1_restore 62 = .ok (.iload_n 1, 1) := by decide +kernel
theorem dX1_restore_63 : decode cX1_restore 63 = .ok (.iaload, 1) := by decide +kernel
theorem dX1_restore_64 : decode cX1_restore 64 = .ok (.iastore, 1) := by decide +kernel
theorem dX1_restore_65 : decode cX1_restore 65 = .ok (.iinc 1 1, 3) := by decide +kernel
theorem dX1_restore_68 : decode cX1_restore 68 = .ok (.goto (-36), 3) := by decide +kernel
set_option maxHeartbeats 4000000 in
set_option maxRecDepth 100000 in
theorem k_X1_restore (l : Launch) (D : va_G) (cy : Nat → ClassId) (ld : Nat → Nat) (t : tk_T) (a0 : Nat) (ht_a0 : t a0 = (2, 0, 0)) : Met l yX1_restore (wl yX1_restore cX1_restore 2 none) ({ frames := 5, cells := 0, slots := 0, locals := 280 }) (tp D cy ld t [] [.ref a0] (fun H => True)) (tv D cy ld t [] (fun H => True) (tk_w t [(20, 0, 0), (10, 0, 0), (2, 0, 0), (20, 1, 1), (10, 1, 1)])) 0 0 (tk_w t [(20, 0, 0), (10, 0, 0), (2, 0, 0), (20, 1, 1), (10, 1, 1)]) := by
  refine tk_met (y := yX1_restore) (cc := cX1_restore) (maxL := 2) (ret := none) (av := [.ref a0]) _ _ (by decide) (Nat.le_of_ble_eq_true rfl) ?_
  intro p e s m args below meth c hx hb hr hml hts htl hown hlocks hK H locs hH hG hS hB hZ ls hl
  have hown : s.vm.findClass RX1 = some m.cls := hown
  have hl : lv_has ls 2 [(0, .ref a0)] := hl
  refine lv_aload_n hx hb dX1_restore_0 rfl (lv_at hl 0 rfl) ?_
  refine tk_get (ci := 1) (C := RX1) (T := TX1) (N := 11) (sp := (8, 20, 3, 0)) hx hb htl inX1 hown hK hG ht_a0 (by decide) tk_no rfl 1 (by decide) (htl _ mw_114) (fun _ h9 => h9) rfl dX1_restore_1 (fun v9 hf1 hV9 => ?_)
  obtain ⟨rfl, ht_ld20⟩ := hV9
  have ht_ld20 : t (ld 20) = (3, 0, 0) := ht_ld20
  refine fx_top (v := .ref (ld 20)) rfl ?_
  refine tk_get (ci := 2) (C := RX2) (T := TX2) (N := 20) (sp := (9, 40, 10, 0)) hx hb htl inX2 hown hK hG ht_ld20 (by decide) tk_no rfl 19 (by decide) (htl _ mw_814) (fun _ h9 => h9) rfl dX1_restore_4 (fun v9 hf2 hV9 => ?_)
  obtain ⟨rfl, ht_ld40⟩ := hV9
  have ht_ld40 : t (ld 40) = (10, 0, 0) := ht_ld40
  refine fx_top (v := .ref (ld 40)) rfl ?_
  refine lv_aload_n hx hb dX1_restore_7 rfl (lv_at hl 0 rfl) ?_
  refine tk_get (ci := 1) (C := RX1) (T := TX1) (N := 11) (sp := (6, 10, 0, 2)) hx hb htl inX1 hown hK hG ht_a0 (by decide) tk_no rfl 6 (by decide) (htl _ mw_111) (fun _ h9 => h9) rfl dX1_restore_8 (fun v9 hf3 hV9 => ?_)
  obtain ⟨b4, rfl, ht_b4⟩ := hV9
  have ht_b4 : t b4 = (10, 0, 2) := ht_b4
  obtain ⟨v9, hf5, hV9⟩ := tk_peek (ci := 9) (C := RX9) (T := TX9) (N := 11) (sp := (0, (-1), 7, 0)) hG ht_b4 (by decide) tk_no rfl 5 (by decide) rfl
  obtain ⟨v6, rfl, (ha_v6 : (-1) ≤ v6.toInt), (hb_v6 : v6.toInt ≤ 7)⟩ := hV9
  refine tk_Vv (As := [.ref b4]) (rest := []) (ci := 9) ⟨hx, hb, hml, hown, hts⟩ hK hG hZ hS (k_X9_copyFrom l D cy ld t 0 2 (ld 40) b4 v6 ht_ld40 ht_b4 (by omega) (by omega) (by omega)) hf5 ⟨callB_of 1 hts (wl_in mw_821) rfl rfl rfl (htl _ mw_76) (htl _ mw_818) hd_yX9_copyFrom ⟨(Nat.le_of_ble_eq_true rfl), (Nat.le_of_ble_eq_true rfl)⟩, htl _ mw_819, htl _ mw_820⟩ ht_ld40 (by decide) tk_no rfl (tk_w.pick [0, 1] rfl) rfl hl.1 rfl (Nat.le_of_ble_eq_true rfl) dX1_restore_11 ⟨(Nat.le_of_ble_eq_true rfl), (Nat.le_of_ble_eq_true rfl)⟩ (fun H locs hpo hG hS hq9 => ?_)
  have hf5 := hf5.call hq9 (tk_w.no ht_b4 (by decide))
  have hf8 := hpo
  refine lv_aload_n hx hb dX1_restore_14 rfl (lv_at hl 0 rfl) ?_
  refine lv_aload_n hx hb dX1_restore_15 rfl (lv_at hl 0 rfl) ?_
  refine tk_get (ci := 1) (C := RX1) (T := TX1) (N := 11) (sp := (0, 0, 15, 0)) hx hb htl inX1 hown hK hG ht_a0 (by decide) tk_no rfl 9 (by decide) (htl _ mw_816) (fun _ h9 => h9) rfl dX1_restore_16 (fun v9 hf9 hV9 => ?_)
  obtain ⟨v10, rfl, (ha_v10 : 0 ≤ v10.toInt), (hb_v10 : v10.toInt ≤ 15)⟩ := hV9
  refine tk_put (ci := 1) (v := .int v10) (ty := .int) (C := RX1) (T := TX1) (N := 11) (sp := (0, 0, 15, 0)) hx hb htl inX1 tyX1 tyX1_ok nmX1 hown hK hG hS ht_a0 (by decide) tk_no rfl 5 (by decide) (htl _ mw_815) (fun _ h9 => h9) rfl (tyX1_ok 5 (by decide)) rfl rfl rfl (tk_V0 (by omega) (by omega)) (fun _ h => h) (tk_w.of ht_a0 (by decide) (List.mem_of_getElem? (i := 2) rfl) (Nat.le_refl _) (Nat.le_refl _)) dX1_restore_19 (fun H locs hG hS hf11 hq9 hj9 => ?_)
  have hf5 := hf5.kept (hq9 _ (tk_ne ht_b4 ht_a0 (Or.inl (by decide))))
  have hf8 := hf8.kept (hq9 _ (tk_ne ht_ld40 ht_a0 (Or.inl (by decide))))
  refine lv_aload_n hx hb dX1_restore_22 rfl (lv_at hl 0 rfl) ?_
  refine lv_aload_n hx hb dX1_restore_23 rfl (lv_at hl 0 rfl) ?_
  refine tk_get (ci := 1) (C := RX1) (T := TX1) (N := 11) (sp := (0, 0, 16, 0)) hx hb htl inX1 hown hK hG ht_a0 (by decide) tk_no rfl 10 (by decide) (htl _ mw_817) (fun _ h9 => h9) rfl dX1_restore_24 (fun v9 hf13 hV9 => ?_)
  obtain ⟨v14, rfl, (ha_v14 : 0 ≤ v14.toInt), (hb_v14 : v14.toInt ≤ 16)⟩ := hV9
  refine tk_put (ci := 1) (v := .int v14) (ty := .int) (C := RX1) (T := TX1) (N := 11) (sp := (0, 0, 16, 0)) hx hb htl inX1 tyX1 tyX1_ok nmX1 hown hK hG hS ht_a0 (by decide) tk_no rfl 0 (by decide) (htl _ mw_267) (fun _ h9 => h9) rfl (tyX1_ok 0 (by decide)) rfl rfl rfl (tk_V0 (by omega) (by omega)) (fun _ h => h) (tk_w.of ht_a0 (by decide) (List.mem_of_getElem? (i := 2) rfl) (Nat.le_refl _) (Nat.le_refl _)) dX1_restore_27 (fun H locs hG hS hf15 hq9 hj9 => ?_)
  have hf5 := hf5.kept (hq9 _ (tk_ne ht_b4 ht_a0 (Or.inl (by decide))))
  have hf8 := hf8.kept (hq9 _ (tk_ne ht_ld40 ht_a0 (Or.inl (by decide))))
  refine lv_iconst (v := 0) hx hb dX1_restore_30 (by decide) ?_
  refine lv_istore_n (lv' := [(1, .int 0), (0, .ref a0)]) hx hb dX1_restore_31 rfl hl (by decide) rfl (fun ls hl => ?_)
  have hl158 : ∀ (N_l158 : Nat) (v17 : Int32) (H : Heap) (locs : List Loc), v17.toInt ≤ 16 → 0 ≤ v17.toInt → (-1) * v17.toInt + 16 < (N_l158 : Int) → tk_G D cy ld t [] H → va_S (tk_w t [(20, 0, 0), (10, 0, 0), (2, 0, 0), (20, 1, 1), (10, 1, 1)]) s.heap H locs → tk_f D H b4 9 5 (.int v6) → tk_f D H (ld 40) 9 5 (.int v6) → tk_f D H a0 1 0 (.int v14) → ∀ ls : Array Slot, lv_has ls 2 [(1, .int v17), (0, .ref a0)] → W p l e ({ frames := 5, cells := 0, slots := 0, locals := 280 }) s m args below meth c H locs 0 0 (MQ below (tv D cy ld t [] (fun H => True) (tk_w t [(20, 0, 0), (10, 0, 0), (2, 0, 0), (20, 1, 1), (10, 1, 1)])) args s 0 0 (tk_w t [(20, 0, 0), (10, 0, 0), (2, 0, 0), (20, 1, 1), (10, 1, 1)])) (F0 m 32 ls []) := by
    intro N_l158
    induction N_l158 with
    | zero => intro v17 H locs hq0_l158 hq1_l158 hm_l158 hG hS hf5 hf8 hf15 ls hl; exfalso; omega
    | succ N_l158 ih_l158 =>
      intro v17 H locs hq0_l158 hq1_l158 hm_l158 hG hS hf5 hf8 hf15 ls hl
      refine lv_iload_n hx hb dX1_restore_32 rfl (lv_at hl 0 rfl) ?_
      refine lv_bipush (v := 16) hx hb dX1_restore_33 (by decide) ?_
      refine lv_icmp_ge (tgt := 71) hx hb dX1_restore_35 (by decide) (fun c9 => ?_) (fun c9 => ?_)
      · have hc159 : 16 ≤ v17.toInt := (fi_le (show (16 : Int32).toInt = 16 by decide) rfl).mp c9
        exact tk_vret hx hb hr hlocks trivial hG hS dX1_restore_71
      · have hc159 : ¬ (16 ≤ v17.toInt) := fun h9 => c9 ((fi_le (show (16 : Int32).toInt = 16 by decide) rfl).mpr h9)
        refine lv_aload_n hx hb dX1_restore_38 rfl (lv_at hl 1 rfl) ?_
        refine tk_get (ci := 1) (C := RX1) (T := TX1) (N := 11) (sp := (6, 25, 16, 1)) hx hb htl inX1 hown hK hG ht_a0 (by decide) tk_no rfl 3 (by decide) (htl _ mw_109) (fun _ h9 => h9) rfl dX1_restore_39 (fun v9 hf160 hV9 => ?_)
        obtain ⟨b161, rfl, ht_b161⟩ := hV9
        have ht_b161 : t b161 = (25, 16, 1) := ht_b161
        refine lv_iload_n hx hb dX1_restore_42 rfl (lv_at hl 0 rfl) ?_
        refine tk_aald hx hb hK hG 3 rfl rfl ht_b161 (by decide) (fun _ h => h) tk_no rfl (by omega) (by omega) dX1_restore_43 (fun o162 ht_o162 => ?_)
        obtain ⟨b163, rfl, ht_b163⟩ := ht_o162
        have ht_b163 : t b163 = (10, 0, 1) := ht_b163
        refine fx_top (v := .ref b163) rfl ?_
        refine lv_aload_n hx hb dX1_restore_44 rfl (lv_at hl 1 rfl) ?_
        refine tk_get (ci := 1) (C := RX1) (T := TX1) (N := 11) (sp := (6, 25, 16, 3)) hx hb htl inX1 hown hK hG ht_a0 (by decide) tk_no rfl 7 (by decide) (htl _ mw_112) (fun _ h9 => h9) rfl dX1_restore_45 (fun v9 hf164 hV9 => ?_)
        obtain ⟨b165, rfl, ht_b165⟩ := hV9
        have ht_b165 : t b165 = (25, 16, 3) := ht_b165
        refine lv_iload_n hx hb dX1_restore_48 rfl (lv_at hl 0 rfl) ?_
        refine tk_aald hx hb hK hG 3 rfl rfl ht_b165 (by decide) (fun _ h => h) tk_no rfl (by omega) (by omega) dX1_restore_49 (fun o166 ht_o166 => ?_)
        obtain ⟨b167, rfl, ht_b167⟩ := ht_o166
        have ht_b167 : t b167 = (10, 0, 3) := ht_b167
        refine fx_top (v := .ref b167) rfl ?_
        obtain ⟨v9, hf168, hV9⟩ := tk_peek (ci := 9) (C := RX9) (T := TX9) (N := 11) (sp := (0, (-1), 7, 0)) hG ht_b167 (by decide) tk_no rfl 5 (by decide) rfl
        obtain ⟨v169, rfl, (ha_v169 : (-1) ≤ v169.toInt), (hb_v169 : v169.toInt ≤ 7)⟩ := hV9
        refine tk_Vv (As := [.ref b167]) (rest := []) (ci := 9) ⟨hx, hb, hml, hown, hts⟩ hK hG hZ hS (k_X9_copyFrom l D cy ld t 1 3 b163 b167 v169 ht_b163 ht_b167 (by omega) (by omega) (by omega)) hf168 ⟨callB_of 1 hts (wl_in mw_821) rfl rfl rfl (htl _ mw_76) (htl _ mw_818) hd_yX9_copyFrom ⟨(Nat.le_of_ble_eq_true rfl), (Nat.le_of_ble_eq_true rfl)⟩, htl _ mw_819, htl _ mw_820⟩ ht_b163 (by decide) tk_no rfl (tk_w.pick [3, 4] rfl) rfl hl.1 rfl (Nat.le_of_ble_eq_true rfl) dX1_restore_50 ⟨(Nat.le_of_ble_eq_true rfl), (Nat.le_of_ble_eq_true rfl)⟩ (fun H locs hpo hG hS hq9 => ?_)
        have hf5 := hf5.call hq9 (tk_w.no ht_b4 (by decide))
        have hf8 := hf8.call hq9 (tk_w.no ht_ld40 (by decide))
        have hf15 := hf15.call hq9 (tk_w.no ht_a0 (by decide))
        have hf168 := hf168.call hq9 (tk_w.no ht_b167 (by decide))
        have hf171 := hpo
        refine lv_aload_n hx hb dX1_restore_53 rfl (lv_at hl 1 rfl) ?_
        refine tk_get (ci := 1) (C := RX1) (T := TX1) (N := 11) (sp := (6, 20, 16, 0)) hx hb htl inX1 hown hK hG ht_a0 (by decide) tk_no rfl 4 (by decide) (htl _ mw_110) (fun _ h9 => h9) rfl dX1_restore_54 (fun v9 hf172 hV9 => ?_)
        obtain ⟨b173, rfl, ht_b173⟩ := hV9
        have ht_b173 : t b173 = (20, 16, 0) := ht_b173
        refine lv_iload_n hx hb dX1_restore_57 rfl (lv_at hl 0 rfl) ?_
        refine lv_aload_n hx hb dX1_restore_58 rfl (lv_at hl 1 rfl) ?_
        refine tk_get (ci := 1) (C := RX1) (T := TX1) (N := 11) (sp := (6, 20, 16, 0)) hx hb htl inX1 hown hK hG ht_a0 (by decide) tk_no rfl 8 (by decide) (htl _ mw_113) (fun _ h9 => h9) rfl dX1_restore_59 (fun v9 hf174 hV9 => ?_)
        obtain ⟨b175, rfl, ht_b175⟩ := hV9
        have ht_b175 : t b175 = (20, 16, 0) := ht_b175
        refine lv_iload_n hx hb dX1_restore_62 rfl (lv_at hl 0 rfl) ?_
        refine tk_iald hx hb hK hG ht_b175 (by decide) (fun _ h => h) tk_no rfl (by omega) (by omega) dX1_restore_63 (fun v176 _ _ => ?_)
        have hr_v176 := tk_rng v176
        refine tk_iast hx hb hK hG hS ht_b173 (by decide) (fun _ => Iff.rfl) tk_no rfl (by omega) (by omega) trivial (tk_w.of ht_b173 (by decide) (List.mem_of_getElem? (i := 0) rfl) (Nat.le_refl _) (Nat.le_refl _)) dX1_restore_64 (fun H locs hG hS hq9 => ?_)
        have hf5 := hf5.kept (hq9 _ (tk_ne ht_b4 ht_b173 (Or.inl (by decide))))
        have hf8 := hf8.kept (hq9 _ (tk_ne ht_ld40 ht_b173 (Or.inl (by decide))))
        have hf15 := hf15.kept (hq9 _ (tk_ne ht_a0 ht_b173 (Or.inl (by decide))))
        have hf168 := hf168.kept (hq9 _ (tk_ne ht_b167 ht_b173 (Or.inl (by decide))))
        have hf171 := hf171.kept (hq9 _ (tk_ne ht_b163 ht_b173 (Or.inl (by decide))))
        obtain ⟨v178, h_v178, e_v178⟩ := tk_inc v17 1 (by decide) (by omega) (by omega)
        refine lv_iinc (v := v178) (lv' := [(1, .int v178), (0, .ref a0)]) hx hb dX1_restore_65 hl (k := 0) rfl e_v178 (by decide) rfl (fun ls hl => ?_)
        refine lv_goto (tgt := 32) hx hb dX1_restore_68 (by decide) ?_
        exact ih_l158 v178 _ _ (by omega) (by omega) (by omega) hG hS hf5 hf8 hf15 _ (lv_sub hl [0, 1] rfl)
  have hk_0 : (0 : Int32).toInt = 0 := by decide
  exact hl158 17 0 _ _ (by omega) (by omega) (by omega) hG hS hf5 hf8 hf15 _ (lv_sub hl [0, 1] rfl)
theorem dX2_copyFrom_0 : decode cX2_copyFrom 0 = .ok (.aload_n 0, 1) := by decide +kernel
theorem dX2_copyFrom_1 : decode cX2_copyFrom 1 = .ok (.aload_n 1, 1) := by decide +kernel
theorem dX2_copyFrom_2 : decode cX2_copyFrom 2 = .ok (.getfield 62, 3) := by decide +kernel
theorem dX2_copyFrom_5 : decode cX2_copyFrom 5 = .ok (.putfield 62, 3) := by decide +kernel
theorem dX2_copyFrom_8 : decode cX2_copyFrom 8 = .ok (.aload_n 1, 1) := by decide +kernel
theorem dX2_copyFrom_9 : decode cX2_copyFrom 9 = .ok (.getfield 9, 3) := by decide +kernel
theorem dX2_copyFrom_12 : decode cX2_copyFrom 12 = .ok (.iconst 0, 1) := by decide +kernel
theorem dX2_copyFrom_13 : decode cX2_copyFrom 13 = .ok (.aload_n 0, 1) := by decide +kernel
theorem dX2_copyFrom_14 : decode cX2_copyFrom 14 = .ok (.getfield 9, 3) := by decide +kernel
theorem dX2_copyFrom_17 : decode cX2_copyFrom 17 = .ok (.iconst 0, 1) := by decide +kernel
theorem dX2_copyFrom_18 : decode cX2_copyFrom 18 = .ok (.bipush 8, 2) := by decide +kernel
theorem dX2_copyFrom_20 : decode cX2_copyFrom 20 = .ok (.invokestatic 65, 3) := by decide +kernel
theorem dX2_copyFrom_23 : decode cX2_copyFrom 23 = .ok (.aload_n 1, 1) := by decide +kernel
theorem dX2_copyFrom_24 : decode cX2_copyFrom 24 = .ok (.getfield 15, 3) := by decide +kernel
theorem dX2_copyFrom_27 : decode cX2_copyFrom 27 = .ok (.iconst 0, 1) := by decide +kernel
theorem dX2_copyFrom_28 : decode cX2_copyFrom 28 = .ok (.aload_n 0, 1) := by decide +kernel
theorem dX2_copyFrom_29 : decode cX2_copyFrom 29 = .ok (.getfield 15, 3) := by decide +kernel
theorem dX2_copyFrom_32 : decode cX2_copyFrom 32 = .ok (.iconst 0, 1) := by decide +kernel
theorem dX2_copyFrom_33 : decode cX2_copyFrom 33 = .ok (.bipush 8, 2) := by decide +kernel
theorem dX2_copyFrom_35 : decode cX2_copyFrom 35 = .ok (.invokestatic 65, 3) := by decide +kernel
theorem dX2_copyFrom_38 : decode cX2_copyFrom 38 = .ok (.aload_n 1, 1) := by decide +kernel
theorem dX2_copyFrom_39 : decode cX2_copyFrom 39 = .ok (.getfield 18, 3) := by decide +kernel
theorem dX2_copyFrom_42 : decode cX2_copyFrom 42 = .ok (.iconst 0, 1) := by decide +kernel
theorem dX2_copyFrom_43 : decode cX2_copyFrom 43 = .ok (.aload_n 0, 1) := by decide +kernel
theorem dX2_copyFrom_44 : decode cX2_copyFrom 44 = .ok (.getfield 18, 3) := by decide +kernel
theorem dX2_copyFrom_47 : decode cX2_copyFrom 47 = .ok (.iconst 0, 1) := by decide +kernel
theorem dX2_copyFrom_48 : decode cX2_copyFrom 48 = .ok (.bipush 8, 2) := by decide +kernel
theorem dX2_copyFrom_50 : decode cX2_copyFrom 50 = .ok (.invokestatic 65, 3) := by decide +kernel
theorem dX2_copyFrom_53 : decode cX2_copyFrom 53 = .ok (.aload_n 0, 1) := by decide +kernel
theorem dX2_copyFrom_54 : decode cX2_copyFrom 54 = .ok (.aload_n 1, 1) := by decide +kernel
theorem dX2_copyFrom_55 : decode cX2_copyFrom 55 = .ok (.getfield 71, 3) := by decide +kernel
theorem dX2_copyFrom_58 : decode cX2_copyFrom 58 = .ok (.putfield 71, 3) := by decide +kernel
theorem dX2_copyFrom_61 : decode cX2_copyFrom 61 = .ok (.aload_n 1, 1) := by decide +kernel
theorem dX2_copyFrom_62 : decode cX2_copyFrom 62 = .ok (.getfield 21, 3) := by decide +kernel
theorem dX2_copyFrom_65 : decode cX2_copyFrom 65 = .ok (.iconst 0, 1) := by decide +kernel
theorem dX2_copyFrom_66 : decode cX2_copyFrom 66 = .ok (.aload_n 0, 1) := by decide +kernel
theorem dX2_copyFrom_67 : decode cX2_copyFrom 67 = .ok (.getfield 21, 3) := by decide +kernel
theorem dX2_copyFrom_70 : decode cX2_copyFrom 70 = .ok (.iconst 0, 1) := by decide +kernel
theorem dX2_copyFrom_71 : decode cX2_copyFrom 71 = .ok (.bipush 10, 2) := by decide +kernel
theorem dX2_copyFrom_73 : decode cX2_copyFrom 73 = .ok (.invokestatic 65, 3) := by decide +kernel
theorem dX2_copyFrom_76 : decode cX2_copyFrom 76 = .ok (.aload_n 1, 1) := by decide +kernel
theorem dX2_copyFrom_77 : decode cX2_copyFrom 77 = .ok (.getfield 24, 3) := by decide +kernel
theorem dX2_copyFrom_80 : decode cX2_copyFrom 80 = .ok (.iconst 0, 1) := by decide +kernel
theorem dX2_copyFrom_81 : decode cX2_copyFrom 81 = .ok (.aload_n 0, 1) := by decide +kernel
theorem dX2_copyFrom_82 : decode cX2_copyFrom 82 = .ok (.getfield 24, 3) := by decide +kernel
theorem dX2_copyFrom_85 : decode cX2_copyFrom 85 = .ok (.iconst 0, 1) := by decide +kernel
theorem dX2_copyFrom_86 : decode cX2_copyFrom 86 = .ok (.bipush 10, 2) := by decide +kernel
theorem dX2_copyFrom_88 : decode cX2_copyFrom 88 = .ok (.invokestatic 65, 3) := by decide +kernel
theorem dX2_copyFrom_91 : decode cX2_copyFrom 91 = .ok (.aload_n 0, 1) := by decide +kernel
theorem dX2_copyFrom_92 : decode cX2_copyFrom 92 = .ok (.aload_n 1, 1) := by decide +kernel
theorem dX2_copyFrom_93 : decode cX2_copyFrom 93 = .ok (.getfield 74, 3) := by decide +kernel
theorem dX2_copyFrom_96 : decode cX2_copyFrom 96 = .ok (.putfield 74, 3) := by decide +kernel
theorem dX2_copyFrom_99 : decode cX2_copyFrom 99 = .ok (.aload_n 1, 1) := by decide +kernel
theorem dX2_copyFrom_100 : decode cX2_copyFrom 100 = .ok (.getfield 27, 3) := by decide +kernel
theorem dX2_copyFrom_103 : decode cX2_copyFrom 103 = .ok (.iconst 0, 1) := by decide +kernel
theorem dX2_copyFrom_104 : decode cX2_copyFrom 104 = .ok (.aload_n 0, 1) := by decide +kernel
theorem dX2_copyFrom_105 : decode cX2_copyFrom 105 = .ok (.getfield 27, 3) := by decide +kernel
theorem dX2_copyFrom_108 : decode cX2_copyFrom 108 = .ok (.iconst 0, 1) := by decide +kernel
theorem dX2_copyFrom_109 : decode cX2_copyFrom 109 = .ok (.bipush 10, 2) := by decide +kernel
theorem dX2_copyFrom_111 : decode cX2_copyFrom 111 = .ok (.invokestatic 65, 3) := by decide +kernel
theorem dX2_copyFrom_114 : decode cX2_copyFrom 114 = .ok (.aload_n 1, 1) := by decide +kernel
theorem dX2_copyFrom_115 : decode cX2_copyFrom 115 = .ok (.getfield 30, 3) := by decide +kernel
theorem dX2_copyFrom_118 : decode cX2_copyFrom 118 = .ok (.iconst 0, 1) := by decide +kernel
theorem dX2_copyFrom_119 : decode cX2_copyFrom 119 = .ok (.aload_n 0, 1) := by decide +kernel
theorem dX2_copyFrom_120 : decode cX2_copyFrom 120 = .ok (.getfield 30, 3) := by decide +kernel
theorem dX2_copyFrom_123 : decode cX2_copyFrom 123 = .ok (.iconst 0, 1) := by decide +kernel
theorem dX2_copyFrom_124 : decode cX2_copyFrom 124 = .ok (.bipush 10, 2) := by decide +kernel
theorem dX2_copyFrom_126 : decode cX2_copyFrom 126 = .ok (.invokestatic 65, 3) := by decide +kernel
theorem dX2_copyFrom_129 : decode cX2_copyFrom 129 = .ok (.aload_n 1, 1) := by decide +kernel
theorem dX2_copyFrom_130 : decode cX2_copyFrom 130 = .ok (.getfield 33, 3) := by decide +kernel
theorem dX2_copyFrom_133 : decode cX2_copyFrom 133 = .ok (.iconst 0, 1) := by decide +kernel
theorem dX2_copyFrom_134 : decode cX2_copyFrom 134 = .ok (.aload_n 0, 1) := by decide +kernel
theorem dX2_copyFrom_135 : decode cX2_copyFrom 135 = .ok (.getfield 33, 3) := by decide +kernel
theorem dX2_copyFrom_138 : decode cX2_copyFrom 138 = .ok (.iconst 0, 1) := by decide +kernel
theorem dX2_copyFrom_139 : decode cX2_copyFrom 139 = .ok (.bipush 10, 2) := by decide +kernel
theorem dX2_copyFrom_141 : decode cX2_copyFrom 141 = .ok (.invokestatic 65, 3) := by decide +kernel
theorem dX2_copyFrom_144 : decode cX2_copyFrom 144 = .ok (.aload_n 0, 1) := by decide +kernel
theorem dX2_copyFrom_145 : decode cX2_copyFrom 145 = .ok (.aload_n 1, 1) := by decide +kernel
theorem dX2_copyFrom_146 : decode cX2_copyFrom 146 = .ok (.getfield 77, 3) := by decide +kernel
theorem dX2_copyFrom_149 : decode cX2_copyFrom 149 = .ok (.putfield 77, 3) := by decide +kernel
theorem dX2_copyFrom_152 : decode cX2_copyFrom 152 = .ok (.aload_n 1, 1) := by decide +kernel
theorem dX2_copyFrom_153 : decode cX2_copyFrom 153 = .ok (.getfield 36, 3) := by decide +kernel
theorem dX2_copyFrom_156 : decode cX2_copyFrom 156 = .ok (.iconst 0, 1) := by decide +kernel
theorem dX2_copyFrom_157 : decode cX2_copyFrom 157 = .ok (.aload_n 0, 1) := by decide +kernel
theorem dX2_copyFrom_158 : decode cX2_copyFrom 158 = .ok (.getfield 36, 3) := by decide +kernel
theorem dX2_copyFrom_161 : decode cX2_copyFrom 161 = .ok (.iconst 0, 1) := by decide +kernel
theorem dX2_copyFrom_162 : decode cX2_copyFrom 162 = .ok (.aload_n 0, 1) := by decide +kernel
theorem dX2_copyFrom_163 : decode cX2_copyFrom 163 = .ok (.getfield 36, 3) := by decide +kernel
theorem dX2_copyFrom_166 : decode cX2_copyFrom 166 = .ok (.arraylength, 1) := by decide +kernel
theorem dX2_copyFrom_167 : decode cX2_copyFrom 167 = .ok (.invokestatic 65, 3) := by decide +kernel
theorem dX2_copyFrom_170 : decode cX2_copyFrom 170 = .ok (.aload_n 0, 1) := by decide +kernel
theorem dX2_copyFrom_171 : decode cX2_copyFrom 171 = .ok (.aload_n 1, 1) := by decide +kernel
theorem dX2_copyFrom_172 : decode cX2_copyFrom 172 = .ok (.getfield 80, 3) := by decide +kernel
theorem dX2_copyFrom_175 : decode cX2_copyFrom 175 = .ok (.putfield 80, 3) := by decide +kernel
theorem dX2_copyFrom_178 : decode cX2_copyFrom 178 = .ok (.iconst 0, 1) := by decide +kernel
theorem dX2_copyFrom_179 : decode cX2_copyFrom 179 = .ok (.istore_n 2, 1) := by decide +kernel
theorem dX2_copyFrom_180 : decode cX2_copyFrom 180 = .ok (.iload_n 2, 1) := by decide +kernel
theorem dX2_copyFrom_181 : decode cX2_copyFrom 181 = .ok (.bipush 6, 2) := by decide +kernel
theorem dX2_copyFrom_183 : decode cX2_copyFrom 183 = .ok (.if_icmp .ge 21, 3) := by decide +kernel
theorem dX2_copyFrom_204 : decode cX2_copyFrom 204 = .ok (.aload_n 0, 1) := by decide +kernel
theorem dX2_copyFrom_205 : decode cX2_copyFrom 205 = .ok (.aload_n 1, 1) := by decide +kernel
theorem dX2_copyFrom_206 : decode cX2_copyFrom 206 = .ok (.getfield 45, 3) := by decide +kernel
theorem dX2_copyFrom_209 : decode cX2_copyFrom 209 = .ok (.putfield 45, 3) := by decide +kernel
theorem dX2_copyFrom_212 : decode cX2_copyFrom 212 = .ok (.aload_n 0, 1) := by decide +kernel
theorem dX2_copyFrom_213 : decode cX2_copyFrom 213 = .ok (.aload_n 1, 1) := by decide +kernel
theorem dX2_copyFrom_214 : decode cX2_copyFrom 214 = .ok (.getfield 49, 3) := by decide +kernel
theorem dX2_copyFrom_217 : decode cX2_copyFrom 217 = .ok (.putfield 49, 3) := by decide +kernel
theorem dX2_copyFrom_220 : decode cX2_copyFrom 220 = .ok (.aload_n 0, 1) := by decide +kernel
theorem dX2_copyFrom_221 : decode cX2_copyFrom 221 = .ok (.aload_n 1, 1) := by decide +kernel
theorem dX2_copyFrom_222 : decode cX2_copyFrom 222 = .ok (.getfield 52, 3) := by decide +kernel
theorem dX2_copyFrom_225 : decode cX2_copyFrom 225 = .ok (.putfield 52, 3) := by decide +kernel
theorem dX2_copyFrom_228 : decode cX2_copyFrom 228 = .ok (.aload_n 0, 1) := by decide +kernel
theorem dX2_copyFrom_229 : decode cX2_copyFrom 229 = .ok (.aload_n 1, 1) := by decide +kernel
theorem dX2_copyFrom_230 : decode cX2_copyFrom 230 = .ok (.getfield 83, 3) := by decide +kernel
theorem dX2_copyFrom_233 : decode cX2_copyFrom 233 = .ok (.putfield 83, 3) := by decide +kernel
theorem dX2_copyFrom_236 : decode cX2_copyFrom 236 = .ok (.aload_n 0, 1) := by decide +kernel
theorem dX2_copyFrom_237 : decode cX2_copyFrom 237 = .ok (.getfield 58, 3) := by decide +kernel
theorem dX2_copyFrom_240 : decode cX2_copyFrom 240 = .ok (.aload_n 1, 1) := by decide +kernel
theorem dX2_copyFrom_241 : decode cX2_copyFrom 241 = .ok (.getfield 58, 3) := by decide +kernel
theorem dX2_copyFrom_244 : decode cX2_copyFrom 244 = .ok (.invokevirtual 86, 3) := by decide +kernel
theorem dX2_copyFrom_247 : decode cX2_copyFrom 247 = .ok (.return_, 1) := by decide +kernel
theorem dX2_copyFrom_186 : decode cX2_copyFrom 186 = .ok (.aload_n 0, 1) := by decide +kernel
theorem dX2_copyFrom_187 : decode cX2_copyFrom 187 = .ok (.getfield 41, 3) := by decide +kernel
theorem dX2_copyFrom_190 : decode cX2_copyFrom 190 = .ok (.iload_n 2, 1) := by decide +kernel
theorem dX2_copyFrom_191 : decode cX2_copyFrom 191 = .ok (.aload_n 1, 1) := by decide +kernel
theorem dX2_copyFrom_192 : decode cX2_copyFrom 192 = .ok (.getfield 41, 3) := by decide +kernel
theorem dX2_copyFrom_195 : decode cX2_copyFrom 195 = .ok (.iload_n 2, 1) := by decide +kernel
theorem dX2_copyFrom_196 : decode cX2_copyFrom 196 = .ok (.aaload, 1) := by decide +kernel
theorem dX2_copyFrom_198 : decode cX2_copyFrom 198 = .ok (.iinc 2 1, 3) := by decide +kernel
theorem dX2_copyFrom_201 : decode cX2_copyFrom 201 = .ok (.goto (-21), 3) := by decide +kernel
theorem dX2_copyFrom_197 : decode cX2_copyFrom 197 = .ok (.aastore, 1) := by decide +kernel
theorem dX2_isOfClan_0 : decode cX2_isOfClan 0 = .ok (.aload_n 0, 1) := by decide +kernel
theorem dX2_isOfClan_1 : decode cX2_isOfClan 1 = .ok (.iload_n 1, 1) := by decide +kernel
theorem dX2_isOfClan_2 : decode cX2_isOfClan 2 = .ok (.invokevirtual 90, 3) := by decide +kernel
theorem dX2_isOfClan_5 : decode cX2_isOfClan 5 = .ok (.ifCond .eq 17, 3) := by decide +kernel
theorem dX2_isOfClan_22 : decode cX2_isOfClan 22 = .ok (.iconst 0, 1) := by decide +kernel
theorem dX2_isOfClan_23 : decode cX2_isOfClan 23 = .ok (.ireturn, 1) := by decide +kernel
theorem dX2_isOfClan_8 : decode cX2_isOfClan 8 = .ok (.aload_n 0, 1) := by decide +kernel
theorem dX2_isOfClan_9 : decode cX2_isOfClan 9 = .ok (.getfield 15, 3) := by decide +kernel
theorem dX2_isOfClan_12 : decode cX2_isOfClan 12 = .ok (.iload_n 1, 1) := by decide +kernel
theorem dX2_isOfClan_13 : decode cX2_isOfClan 13 = .ok (.iaload, 1) := by decide +kernel
theorem dX2_isOfClan_14 : decode cX2_isOfClan 14 = .ok (.iload_n 2, 1) := by decide +kernel
theorem dX2_isOfClan_15 : decode cX2_isOfClan 15 = .ok (.if_icmp .ne 7, 3) := by decide +kernel
theorem dX2_isOfClan_18 : decode cX2_isOfClan 18 = .ok (.iconst 1, 1) := by decide +kernel
theorem dX2_isOfClan_19 : decode cX2_isOfClan 19 = .ok (.goto 4, 3) := by decide +kernel
set_option maxHeartbeats 4000000 in
set_option maxRecDepth 100000 in
theorem k_X2_isOfClan (l : Launch) (D : va_G) (cy : Nat → ClassId) (ld : Nat → Nat) (t : tk_T) (a0 : Nat) (p1 : Int32) (p2 : Int32) (ht_a0 : t a0 = (3, 0, 0)) : Met l yX2_isOfClan (wl yX2_isOfClan cX2_isOfClan 3 (some .boolean)) ({ frames := 4, cells := 0, slots := 0, locals := 210 }) (tp D cy ld t [] [.ref a0, .int p1, .int p2] (fun H => True)) (ti D cy ld t [] (fun r H => (1 ≤ r.toInt → 0 ≤ p1.toInt ∧ p1.toInt ≤ 7) ∧ 0 ≤ r.toInt ∧ r.toInt ≤ 1 ∧ 0 ≤ r.toInt ∧ r.toInt ≤ 1) (tk_w t [])) 0 0 (tk_w t []) := by
  refine tk_met (y := yX2_isOfClan) (cc := cX2_isOfClan) (maxL := 3) (ret := (some .boolean)) (av := [.ref a0, .int p1, .int p2]) _ _ (by decide) (Nat.le_of_ble_eq_true rfl) ?_
  intro p e s m args below meth c hx hb hr hml hts htl hown hlocks hK H locs hH hG hS hB hZ ls hl
  have hown : s.vm.findClass RX2 = some m.cls := hown
  have hl : lv_has ls 3 [(0, .ref a0), (1, .int p1), (2, .int p2)] := hl
  have hr_p1 := tk_rng p1
  have hr_p2 := tk_rng p2
  refine lv_aload_n hx hb dX2_isOfClan_0 rfl (lv_at hl 0 rfl) ?_
  refine lv_iload_n hx hb dX2_isOfClan_1 rfl (lv_at hl 1 rfl) ?_
  refine tk_Vi (As := [.int p1]) (rest := []) (ci := 2) ⟨hx, hb, hml, hown, hts⟩ hK hG hZ hS (k_X2_isSinger l D cy ld t a0 p1 ht_a0) trivial ⟨callB_of 1 hts (wl_in mw_311) rfl rfl rfl (htl _ mw_14) (htl _ mw_880) hd_yX2_isSinger ⟨(Nat.le_of_ble_eq_true rfl), (Nat.le_of_ble_eq_true rfl)⟩, htl _ mw_309, htl _ mw_310⟩ ht_a0 (by decide) tk_no rfl (tk_w.pick [] rfl) rfl hl.1 rfl (Nat.le_of_ble_eq_true rfl) dX2_isOfClan_2 ⟨(Nat.le_of_ble_eq_true rfl), (Nat.le_of_ble_eq_true rfl)⟩ (fun v1 H locs hpo hG hS hq9 => ?_)
  obtain ⟨hpo3, hpo4, hpo5, hpo6, hpo7⟩ := hpo
  refine lv_if_eq (tgt := 22) hx hb dX2_isOfClan_5 (by decide) (fun c9 => ?_) (fun c9 => ?_)
  · have hc8 : v1.toInt = 0 := (fi_eq rfl (show (0 : Int32).toInt = 0 by decide)).mp c9
    refine lv_iconst (v := 0) hx hb dX2_isOfClan_22 (by decide) ?_
    have hk_0 : (0 : Int32).toInt = 0 := by decide
    exact tk_iret (v := 0) hx hb hr rfl hlocks (show (1 ≤ (0 : Int32).toInt → 0 ≤ p1.toInt ∧ p1.toInt ≤ 7) ∧ 0 ≤ (0 : Int32).toInt ∧ (0 : Int32).toInt ≤ 1 ∧ 0 ≤ (0 : Int32).toInt ∧ (0 : Int32).toInt ≤ 1 from ⟨(fun _ => ⟨by omega, by omega⟩), (by omega), (by omega), (by omega), (by omega)⟩) hG hS dX2_isOfClan_23
  · have hc8 : ¬ (v1.toInt = 0) := fun h9 => c9 ((fi_eq rfl (show (0 : Int32).toInt = 0 by decide)).mpr h9)
    refine lv_aload_n hx hb dX2_isOfClan_8 rfl (lv_at hl 0 rfl) ?_
    refine tk_get (ci := 2) (C := RX2) (T := TX2) (N := 20) (sp := (1, 21, 8, 0)) hx hb htl inX2 hown hK hG ht_a0 (by decide) tk_no rfl 2 (by decide) (htl _ mw_61) (fun _ h9 => h9) rfl dX2_isOfClan_9 (fun v9 hf9 hV9 => ?_)
    obtain ⟨b10, rfl, ht_b10⟩ := hV9
    have ht_b10 : t b10 = (21, 8, 0) := ht_b10
    refine lv_iload_n hx hb dX2_isOfClan_12 rfl (lv_at hl 1 rfl) ?_
    refine tk_iald hx hb hK hG ht_b10 (by decide) (fun _ h => h) tk_no rfl (by omega) (by omega) dX2_isOfClan_13 (fun v11 hE9 _ => ?_)
    have he_v11 : 0 ≤ v11.toInt ∧ v11.toInt ≤ 1 := hE9
    refine lv_iload_n hx hb dX2_isOfClan_14 rfl (lv_at hl 2 rfl) ?_
    refine lv_icmp_ne (tgt := 22) hx hb dX2_isOfClan_15 (by decide) (fun c9 => ?_) (fun c9 => ?_)
    · have hc12 : ¬ (v11.toInt = p2.toInt) := fun h9 => c9 ((fi_eq rfl rfl).mpr h9)
      refine lv_iconst (v := 0) hx hb dX2_isOfClan_22 (by decide) ?_
      have hk_0 : (0 : Int32).toInt = 0 := by decide
      exact tk_iret (v := 0) hx hb hr rfl hlocks (show (1 ≤ (0 : Int32).toInt → 0 ≤ p1.toInt ∧ p1.toInt ≤ 7) ∧ 0 ≤ (0 : Int32).toInt ∧ (0 : Int32).toInt ≤ 1 ∧ 0 ≤ (0 : Int32).toInt ∧ (0 : Int32).toInt ≤ 1 from ⟨(fun _ => ⟨by omega, by omega⟩), (by omega), (by omega), (by omega), (by omega)⟩) hG hS dX2_isOfClan_23
    · have hc12 : v11.toInt = p2.toInt := (fi_eq rfl rfl).mp c9
      refine lv_iconst (v := 1) hx hb dX2_isOfClan_18 (by decide) ?_
      refine lv_goto (tgt := 23) hx hb dX2_isOfClan_19 (by decide) ?_
      have hk_1 : (1 : Int32).toInt = 1 := by decide
      exact tk_iret (v := 1) hx hb hr rfl hlocks (show (1 ≤ (1 : Int32).toInt → 0 ≤ p1.toInt ∧ p1.toInt ≤ 7) ∧ 0 ≤ (1 : Int32).toInt ∧ (1 : Int32).toInt ≤ 1 ∧ 0 ≤ (1 : Int32).toInt ∧ (1 : Int32).toInt ≤ 1 from ⟨(fun _ => ⟨by omega, by omega⟩), (by omega), (by omega), (by omega), (by omega)⟩) hG hS dX2_isOfClan_23
theorem dX2_addSinger_0 : decode cX2_addSinger 0 = .ok (.iload_n 1, 1) := by decide +kernel
theorem dX2_addSinger_1 : decode cX2_addSinger 1 = .ok (.iconst 0, 1) := by decide +kernel
theorem dX2_addSinger_2 : decode cX2_addSinger 2 = .ok (.sipush 999, 3) := by decide +kernel
theorem dX2_addSinger_5 : decode cX2_addSinger 5 = .ok (.invokestatic 94, 3) := by decide +kernel
theorem dX2_addSinger_8 : decode cX2_addSinger 8 = .ok (.ifCond .eq 22, 3) := by decide +kernel
theorem dX2_addSinger_30 : decode cX2_addSinger 30 = .ok (.iconst (-1), 1) := by decide +kernel
theorem dX2_addSinger_31 : decode cX2_addSinger 31 = .ok (.ireturn, 1) := by decide +kernel
theorem dX2_addSinger_11 : decode cX2_addSinger 11 = .ok (.iload_n 2, 1) := by decide +kernel
theorem dX2_addSinger_12 : decode cX2_addSinger 12 = .ok (.iconst 0, 1) := by decide +kernel
theorem dX2_addSinger_13 : decode cX2_addSinger 13 = .ok (.bipush 9, 2) := by decide +kernel
theorem dX2_addSinger_15 : decode cX2_addSinger 15 = .ok (.invokestatic 94, 3) := by decide +kernel
theorem dX2_addSinger_18 : decode cX2_addSinger 18 = .ok (.ifCond .eq 12, 3) := by decide +kernel
theorem dX2_addSinger_21 : decode cX2_addSinger 21 = .ok (.iload_n 3, 1) := by decide +kernel
theorem dX2_addSinger_22 : decode cX2_addSinger 22 = .ok (.iconst 0, 1) := by decide +kernel
theorem dX2_addSinger_23 : decode cX2_addSinger 23 = .ok (.iconst 1, 1) := by decide +kernel
theorem dX2_addSinger_24 : decode cX2_addSinger 24 = .ok (.invokestatic 94, 3) := by decide +kernel
theorem dX2_addSinger_27 : decode cX2_addSinger 27 = .ok (.ifCond .ne 5, 3) := by decide +kernel
theorem dX2_addSinger_32 : decode cX2_addSinger 32 = .ok (.aload_n 0, 1) := by decide +kernel
theorem dX2_addSinger_33 : decode cX2_addSinger 33 = .ok (.getfield 62, 3) := by decide +kernel
theorem dX2_addSinger_36 : decode cX2_addSinger 36 = .ok (.bipush 8, 2) := by decide +kernel
theorem dX2_addSinger_38 : decode cX2_addSinger 38 = .ok (.if_icmp .lt 6, 3) := by decide +kernel
theorem dX2_addSinger_44 : decode cX2_addSinger 44 = .ok (.aload_n 0, 1) := by decide +kernel
theorem dX2_addSinger_45 : decode cX2_addSinger 45 = .ok (.getfield 62, 3) := by decide +kernel
theorem dX2_addSinger_48 : decode cX2_addSinger 48 = .ok (.istore 4, 2) := by decide +kernel
theorem dX2_addSinger_50 : decode cX2_addSinger 50 = .ok (.aload_n 0, 1) := by decide +kernel
theorem dX2_addSinger_51 : decode cX2_addSinger 51 = .ok (.getfield 9, 3) := by decide +kernel
theorem dX2_addSinger_54 : decode cX2_addSinger 54 = .ok (.iload 4, 2) := by decide +kernel
theorem dX2_addSinger_56 : decode cX2_addSinger 56 = .ok (.iload_n 2, 1) := by decide +kernel
theorem dX2_addSinger_57 : decode cX2_addSinger 57 = .ok (.iastore, 1) := by decide +kernel
theorem dX2_addSinger_58 : decode cX2_addSinger 58 = .ok (.aload_n 0, 1) := by decide +kernel
theorem dX2_addSinger_59 : decode cX2_addSinger 59 = .ok (.getfield 15, 3) := by decide +kernel
theorem dX2_addSinger_62 : decode cX2_addSinger 62 = .ok (.iload 4, 2) := by decide +kernel
theorem dX2_addSinger_64 : decode cX2_addSinger 64 = .ok (.iload_n 3, 1) := by decide +kernel
theorem dX2_addSinger_65 : decode cX2_addSinger 65 = .ok (.iastore, 1) := by decide +kernel
theorem dX2_addSinger_66 : decode cX2_addSinger 66 = .ok (.aload_n 0, 1) := by decide +kernel
theorem dX2_addSinger_67 : decode cX2_addSinger 67 = .ok (.getfield 18, 3) := by decide +kernel
theorem dX2_addSinger_70 : decode cX2_addSinger 70 = .ok (.iload 4, 2) := by decide +kernel
theorem dX2_addSinger_72 : decode cX2_addSinger 72 = .ok (.iconst 0, 1) := by decide +kernel
theorem dX2_addSinger_73 : decode cX2_addSinger 73 = .ok (.iastore, 1) := by decide +kernel
theorem dX2_addSinger_74 : decode cX2_addSinger 74 = .ok (.aload_n 0, 1) := by decide +kernel
theorem dX2_addSinger_75 : decode cX2_addSinger 75 = .ok (.getfield 58, 3) := by decide +kernel
theorem dX2_addSinger_78 : decode cX2_addSinger 78 = .ok (.getfield 98, 3) := by decide +kernel
theorem dX2_addSinger_81 : decode cX2_addSinger 81 = .ok (.iload 4, 2) := by decide +kernel
theorem dX2_addSinger_83 : decode cX2_addSinger 83 = .ok (.iload_n 1, 1) := by decide +kernel
theorem dX2_addSinger_84 : decode cX2_addSinger 84 = .ok (.iastore, 1) := by decide +kernel
theorem dX2_addSinger_85 : decode cX2_addSinger 85 = .ok (.aload_n 0, 1) := by decide +kernel
theorem dX2_addSinger_86 : decode cX2_addSinger 86 = .ok (.getfield 58, 3) := by decide +kernel
theorem dX2_addSinger_89 : decode cX2_addSinger 89 = .ok (.getfield 101, 3) := by decide +kernel
theorem dX2_addSinger_92 : decode cX2_addSinger 92 = .ok (.iload 4, 2) := by decide +kernel
theorem dX2_addSinger_94 : decode cX2_addSinger 94 = .ok (.iconst 0, 1) := by decide +kernel
theorem dX2_addSinger_95 : decode cX2_addSinger 95 = .ok (.iastore, 1) := by decide +kernel
theorem dX2_addSinger_96 : decode cX2_addSinger 96 = .ok (.aload_n 0, 1) := by decide +kernel
theorem dX2_addSinger_97 : decode cX2_addSinger 97 = .ok (.getfield 58, 3) := by decide +kernel
theorem dX2_addSinger_100 : decode cX2_addSinger 100 = .ok (.getfield 104, 3) := by decide +kernel
theorem dX2_addSinger_103 : decode cX2_addSinger 103 = .ok (.iload 4, 2) := by decide +kernel
theorem dX2_addSinger_105 : decode cX2_addSinger 105 = .ok (.iconst 0, 1) := by decide +kernel
theorem dX2_addSinger_106 : decode cX2_addSinger 106 = .ok (.iastore, 1) := by decide +kernel
theorem dX2_addSinger_107 : decode cX2_addSinger 107 = .ok (.aload_n 0, 1) := by decide +kernel
theorem dX2_addSinger_108 : decode cX2_addSinger 108 = .ok (.dup, 1) := by decide +kernel
theorem dX2_addSinger_109 : decode cX2_addSinger 109 = .ok (.getfield 62, 3) := by decide +kernel
theorem dX2_addSinger_112 : decode cX2_addSinger 112 = .ok (.iconst 1, 1) := by decide +kernel
theorem dX2_addSinger_113 : decode cX2_addSinger 113 = .ok (.iadd, 1) := by decide +kernel
theorem dX2_addSinger_114 : decode cX2_addSinger 114 = .ok (.putfield 62, 3) := by decide +kernel
theorem dX2_addSinger_117 : decode cX2_addSinger 117 = .ok (.iload 4, 2) := by decide +kernel
theorem dX2_addSinger_119 : decode cX2_addSinger 119 = .ok (.ireturn, 1) := by decide +kernel
theorem dX2_addSinger_41 : decode cX2_addSinger 41 = .ok (.bipush (-5), 2) := by decide +kernel
theorem dX2_addSinger_43 : decode cX2_addSinger 43 = .ok (.ireturn, 1) := by decide +kernel
theorem dX2_addVerse_0 : decode cX2_addVerse 0 = .ok (.iload_n 1, 1) := by decide +kernel
theorem dX2_addVerse_1 : decode cX2_addVerse 1 = .ok (.iconst 1, 1) := by decide +kernel
theorem dX2_addVerse_2 : decode cX2_addVerse 2 = .ok (.bipush 99, 2) := by decide +kernel
theorem dX2_addVerse_4 : decode cX2_addVerse 4 = .ok (.invokestatic 94, 3) := by decide +kernel
theorem dX2_addVerse_7 : decode cX2_addVerse 7 = .ok (.ifCond .eq 12, 3) := by decide +kernel
theorem dX2_addVerse_19 : decode cX2_addVerse 19 = .ok (.iconst (-1), 1) := by decide +kernel
theorem dX2_addVerse_20 : decode cX2_addVerse 20 = .ok (.ireturn, 1) := by decide +kernel
theorem dX2_addVerse_10 : decode cX2_addVerse 10 = .ok (.iload_n 2, 1) := by decide +kernel
theorem dX2_addVerse_11 : decode cX2_addVerse 11 = .ok (.iconst 0, 1) := by decide +kernel
theorem dX2_addVerse_12 : decode cX2_addVerse 12 = .ok (.iconst 4, 1) := by decide +kernel
theorem dX2_addVerse_13 : decode cX2_addVerse 13 = .ok (.invokestatic 94, 3) := by decide +kernel
theorem dX2_addVerse_16 : decode cX2_addVerse 16 = .ok (.ifCond .ne 5, 3) := by decide +kernel
theorem dX2_addVerse_21 : decode cX2_addVerse 21 = .ok (.aload_n 0, 1) := by decide +kernel
theorem dX2_addVerse_22 : decode cX2_addVerse 22 = .ok (.getfield 71, 3) := by decide +kernel
theorem dX2_addVerse_25 : decode cX2_addVerse 25 = .ok (.bipush 10, 2) := by decide +kernel
theorem dX2_addVerse_27 : decode cX2_addVerse 27 = .ok (.if_icmp .lt 6, 3) := by decide +kernel
theorem dX2_addVerse_33 : decode cX2_addVerse 33 = .ok (.aload_n 0, 1) := by decide +kernel
theorem dX2_addVerse_34 : decode cX2_addVerse 34 = .ok (.getfield 21, 3) := by decide +kernel
theorem dX2_addVerse_37 : decode cX2_addVerse 37 = .ok (.aload_n 0, 1) := by decide +kernel
theorem dX2_addVerse_38 : decode cX2_addVerse 38 = .ok (.getfield 71, 3) := by decide +kernel
theorem dX2_addVerse_41 : decode cX2_addVerse 41 = .ok (.iload_n 1, 1) := by decide +kernel
theorem dX2_addVerse_42 : decode cX2_addVerse 42 = .ok (.iastore, 1) := by decide +kernel
theorem dX2_addVerse_43 : decode cX2_addVerse 43 = .ok (.aload_n 0, 1) := by decide +kernel
theorem dX2_addVerse_44 : decode cX2_addVerse 44 = .ok (.getfield 24, 3) := by decide +kernel
theorem dX2_addVerse_47 : decode cX2_addVerse 47 = .ok (.aload_n 0, 1) := by decide +kernel
theorem dX2_addVerse_48 : decode cX2_addVerse 48 = .ok (.getfield 71, 3) := by decide +kernel
theorem dX2_addVerse_51 : decode cX2_addVerse 51 = .ok (.iload_n 2, 1) := by decide +kernel
theorem dX2_addVerse_52 : decode cX2_addVerse 52 = .ok (.iastore, 1) := by decide +kernel
theorem dX2_addVerse_53 : decode cX2_addVerse 53 = .ok (.aload_n 0, 1) := by decide +kernel
theorem dX2_addVerse_54 : decode cX2_addVerse 54 = .ok (.dup, 1) := by decide +kernel
theorem dX2_addVerse_55 : decode cX2_addVerse 55 = .ok (.getfield 71, 3) := by decide +kernel
theorem dX2_addVerse_58 : decode cX2_addVerse 58 = .ok (.iconst 1, 1) := by decide +kernel
theorem dX2_addVerse_59 : decode cX2_addVerse 59 = .ok (.iadd, 1) := by decide +kernel
theorem dX2_addVerse_60 : decode cX2_addVerse 60 = .ok (.putfield 71, 3) := by decide +kernel
theorem dX2_addVerse_63 : decode cX2_addVerse 63 = .ok (.aload_n 0, 1) := by decide +kernel
theorem dX2_addVerse_64 : decode cX2_addVerse 64 = .ok (.getfield 71, 3) := by decide +kernel
theorem dX2_addVerse_67 : decode cX2_addVerse 67 = .ok (.iconst 1, 1) := by decide +kernel
theorem dX2_addVerse_68 : decode cX2_addVerse 68 = .ok (.isub, 1) := by decide +kernel
theorem dX2_addVerse_69 : decode cX2_addVerse 69 = .ok (.ireturn, 1) := by decide +kernel
theorem dX2_addVerse_30 : decode cX2_addVerse 30 = .ok (.bipush (-5), 2) := by decide +kernel
theorem dX2_addVerse_32 : decode cX2_addVerse 32 = .ok (.ireturn, 1) := by decide +kernel
theorem dX2_addPart_0 : decode cX2_addPart 0 = .ok (.iload_n 1, 1) := by decide +kernel
theorem dX2_addPart_1 : decode cX2_addPart 1 = .ok (.iconst 1, 1) := by decide +kernel
theorem dX2_addPart_2 : decode cX2_addPart 2 = .ok (.bipush 99, 2) := by decide +kernel
theorem dX2_addPart_4 : decode cX2_addPart 4 = .ok (.invokestatic 94, 3) := by decide +kernel
theorem dX2_addPart_7 : decode cX2_addPart 7 = .ok (.ifCond .eq 22, 3) := by decide +kernel
theorem dX2_addPart_29 : decode cX2_addPart 29 = .ok (.iconst (-1), 1) := by decide +kernel
theorem dX2_addPart_30 : decode cX2_addPart 30 = .ok (.ireturn, 1) := by decide +kernel
theorem dX2_addPart_10 : decode cX2_addPart 10 = .ok (.iload_n 2, 1) := by decide +kernel
theorem dX2_addPart_11 : decode cX2_addPart 11 = .ok (.iconst 0, 1) := by decide +kernel
theorem dX2_addPart_12 : decode cX2_addPart 12 = .ok (.iconst 4, 1) := by decide +kernel
theorem dX2_addPart_13 : decode cX2_addPart 13 = .ok (.invokestatic 94, 3) := by decide +kernel
theorem dX2_addPart_16 : decode cX2_addPart 16 = .ok (.ifCond .eq 13, 3) := by decide +kernel
theorem dX2_addPart_19 : decode cX2_addPart 19 = .ok (.iload_n 3, 1) := by decide +kernel
theorem dX2_addPart_20 : decode cX2_addPart 20 = .ok (.iconst 1, 1) := by decide +kernel
theorem dX2_addPart_21 : decode cX2_addPart 21 = .ok (.bipush 9, 2) := by decide +kernel
theorem dX2_addPart_23 : decode cX2_addPart 23 = .ok (.invokestatic 94, 3) := by decide +kernel
theorem dX2_addPart_26 : decode cX2_addPart 26 = .ok (.ifCond .ne 5, 3) := by decide +kernel
theorem dX2_addPart_31 : decode cX2_addPart 31 = .ok (.aload_n 0, 1) := by decide +kernel
theorem dX2_addPart_32 : decode cX2_addPart 32 = .ok (.getfield 74, 3) := by decide +kernel
theorem dX2_addPart_35 : decode cX2_addPart 35 = .ok (.bipush 10, 2) := by decide +kernel
theorem dX2_addPart_37 : decode cX2_addPart 37 = .ok (.if_icmp .lt 6, 3) := by decide +kernel
theorem dX2_addPart_43 : decode cX2_addPart 43 = .ok (.aload_n 0, 1) := by decide +kernel
theorem dX2_addPart_44 : decode cX2_addPart 44 = .ok (.getfield 27, 3) := by decide +kernel
theorem dX2_addPart_47 : decode cX2_addPart 47 = .ok (.aload_n 0, 1) := by decide +kernel
theorem dX2_addPart_48 : decode cX2_addPart 48 = .ok (.getfield 74, 3) := by decide +kernel
theorem dX2_addPart_51 : decode cX2_addPart 51 = .ok (.iload_n 1, 1) := by decide +kernel
theorem dX2_addPart_52 : decode cX2_addPart 52 = .ok (.iastore, 1) := by decide +kernel
theorem dX2_addPart_53 : decode cX2_addPart 53 = .ok (.aload_n 0, 1) := by decide +kernel
theorem dX2_addPart_54 : decode cX2_addPart 54 = .ok (.getfield 30, 3) := by decide +kernel
theorem dX2_addPart_57 : decode cX2_addPart 57 = .ok (.aload_n 0, 1) := by decide +kernel
theorem dX2_addPart_58 : decode cX2_addPart 58 = .ok (.getfield 74, 3) := by decide +kernel
theorem dX2_addPart_61 : decode cX2_addPart 61 = .ok (.iload_n 2, 1) := by decide +kernel
theorem dX2_addPart_62 : decode cX2_addPart 62 = .ok (.iastore, 1) := by decide +kernel
theorem dX2_addPart_63 : decode cX2_addPart 63 = .ok (.aload_n 0, 1) := by decide +kernel
theorem dX2_addPart_64 : decode cX2_addPart 64 = .ok (.getfield 33, 3) := by decide +kernel
theorem dX2_addPart_67 : decode cX2_addPart 67 = .ok (.aload_n 0, 1) := by decide +kernel
theorem dX2_addPart_68 : decode cX2_addPart 68 = .ok (.getfield 74, 3) := by decide +kernel
theorem dX2_addPart_71 : decode cX2_addPart 71 = .ok (.iload_n 3, 1) := by decide +kernel
theorem dX2_addPart_72 : decode cX2_addPart 72 = .ok (.iastore, 1) := by decide +kernel
theorem dX2_addPart_73 : decode cX2_addPart 73 = .ok (.aload_n 0, 1) := by decide +kernel
theorem dX2_addPart_74 : decode cX2_addPart 74 = .ok (.dup, 1) := by decide +kernel
theorem dX2_addPart_75 : decode cX2_addPart 75 = .ok (.getfield 74, 3) := by decide +kernel
theorem dX2_addPart_78 : decode cX2_addPart 78 = .ok (.iconst 1, 1) := by decide +kernel
theorem dX2_addPart_79 : decode cX2_addPart 79 = .ok (.iadd, 1) := by decide +kernel
theorem dX2_addPart_80 : decode cX2_addPart 80 = .ok (.putfield 74, 3) := by decide +kernel
theorem dX2_addPart_83 : decode cX2_addPart 83 = .ok (.aload_n 0, 1) := by decide +kernel
theorem dX2_addPart_84 : decode cX2_addPart 84 = .ok (.getfield 74, 3) := by decide +kernel
theorem dX2_addPart_87 : decode cX2_addPart 87 = .ok (.iconst 1, 1) := by decide +kernel
theorem dX2_addPart_88 : decode cX2_addPart 88 = .ok (.isub, 1) := by decide +kernel
theorem dX2_addPart_89 : decode cX2_addPart 89 = .ok (.ireturn, 1) := by decide +kernel
theorem dX2_addPart_40 : decode cX2_addPart 40 = .ok (.bipush (-5), 2) := by decide +kernel
theorem dX2_addPart_42 : decode cX2_addPart 42 = .ok (.ireturn, 1) := by decide +kernel
theorem dX2_addLaw_0 : decode cX2_addLaw 0 = .ok (.aload_n 0, 1) := by decide +kernel
theorem dX2_addLaw_1 : decode cX2_addLaw 1 = .ok (.getfield 80, 3) := by decide +kernel
theorem dX2_addLaw_4 : decode cX2_addLaw 4 = .ok (.bipush 6, 2) := by decide +kernel
theorem dX2_addLaw_6 : decode cX2_addLaw 6 = .ok (.if_icmp .lt 6, 3) := by decide +kernel
theorem dX2_addLaw_12 : decode cX2_addLaw 12 = .ok (.aload_n 0, 1) := by decide +kernel
theorem dX2_addLaw_13 : decode cX2_addLaw 13 = .ok (.getfield 41, 3) := by decide +kernel
theorem dX2_addLaw_16 : decode cX2_addLaw 16 = .ok (.aload_n 0, 1) := by decide +kernel
theorem dX2_addLaw_17 : decode cX2_addLaw 17 = .ok (.getfield 80, 3) := by decide +kernel
theorem dX2_addLaw_20 : decode cX2_addLaw 20 = .ok (.aload_n 1, 1) := by decide +kernel
theorem dX2_addLaw_21 : decode cX2_addLaw 21 = .ok (.aastore, 1) := by decide +kernel
theorem dX2_addLaw_22 : decode cX2_addLaw 22 = .ok (.aload_n 0, 1) := by decide +kernel
theorem dX2_addLaw_23 : decode cX2_addLaw 23 = .ok (.dup, 1) := by decide +kernel
theorem dX2_addLaw_24 : decode cX2_addLaw 24 = .ok (.getfield 80, 3) := by decide +kernel
theorem dX2_addLaw_27 : decode cX2_addLaw 27 = .ok (.iconst 1, 1) := by decide +kernel
theorem dX2_addLaw_28 : decode cX2_addLaw 28 = .ok (.iadd, 1) := by decide +kernel
theorem dX2_addLaw_29 : decode cX2_addLaw 29 = .ok (.putfield 80, 3) := by decide +kernel
theorem dX2_addLaw_32 : decode cX2_addLaw 32 = .ok (.aload_n 0, 1) := by decide +kernel
theorem dX2_addLaw_33 : decode cX2_addLaw 33 = .ok (.getfield 80, 3) := by decide +kernel
theorem dX2_addLaw_36 : decode cX2_addLaw 36 = .ok (.iconst 1, 1) := by decide +kernel
theorem dX2_addLaw_37 : decode cX2_addLaw 37 = .ok (.isub, 1) := by decide +kernel
theorem dX2_addLaw_38 : decode cX2_addLaw 38 = .ok (.ireturn, 1) := by decide +kernel
theorem dX2_addLaw_9 : decode cX2_addLaw 9 = .ok (.bipush (-5), 2) := by decide +kernel
theorem dX2_addLaw_11 : decode cX2_addLaw 11 = .ok (.ireturn, 1) := by decide +kernel
theorem dX2_addSight_0 : decode cX2_addSight 0 = .ok (.aload_n 0, 1) := by decide +kernel
theorem dX2_addSight_1 : decode cX2_addSight 1 = .ok (.getfield 77, 3) := by decide +kernel
theorem dX2_addSight_4 : decode cX2_addSight 4 = .ok (.bipush 8, 2) := by decide +kernel
theorem dX2_addSight_6 : decode cX2_addSight 6 = .ok (.if_icmp .lt 6, 3) := by decide +kernel
theorem dX2_addSight_12 : decode cX2_addSight 12 = .ok (.aload_n 0, 1) := by decide +kernel
theorem dX2_addSight_13 : decode cX2_addSight 13 = .ok (.getfield 77, 3) := by decide +kernel
theorem dX2_addSight_16 : decode cX2_addSight 16 = .ok (.iconst 5, 1) := by decide +kernel
theorem dX2_addSight_17 : decode cX2_addSight 17 = .ok (.imul, 1) := by decide +kernel
theorem dX2_addSight_18 : decode cX2_addSight 18 = .ok (.istore 6, 2) := by decide +kernel
theorem dX2_addSight_20 : decode cX2_addSight 20 = .ok (.aload_n 0, 1) := by decide +kernel
theorem dX2_addSight_21 : decode cX2_addSight 21 = .ok (.getfield 36, 3) := by decide +kernel
theorem dX2_addSight_24 : decode cX2_addSight 24 = .ok (.iload 6, 2) := by decide +kernel
theorem dX2_addSight_26 : decode cX2_addSight 26 = .ok (.iload_n 1, 1) := by decide +kernel
theorem dX2_addSight_27 : decode cX2_addSight 27 = .ok (.iastore, 1) := by decide +kernel
theorem dX2_addSight_28 : decode cX2_addSight 28 = .ok (.aload_n 0, 1) := by decide +kernel
theorem dX2_addSight_29 : decode cX2_addSight 29 = .ok (.getfield 36, 3) := by decide +kernel
theorem dX2_addSight_32 : decode cX2_addSight 32 = .ok (.iload 6, 2) := by decide +kernel
theorem dX2_addSight_34 : decode cX2_addSight 34 = .ok (.iconst 1, 1) := by decide +kernel
theorem dX2_addSight_35 : decode cX2_addSight 35 = .ok (.iadd, 1) := by decide +kernel
theorem dX2_addSight_36 : decode cX2_addSight 36 = .ok (.iload_n 2, 1) := by decide +kernel
theorem dX2_addSight_37 : decode cX2_addSight 37 = .ok (.iastore, 1) := by decide +kernel
theorem dX2_addSight_38 : decode cX2_addSight 38 = .ok (.aload_n 0, 1) := by decide +kernel
theorem dX2_addSight_39 : decode cX2_addSight 39 = .ok (.getfield 36, 3) := by decide +kernel
theorem dX2_addSight_42 : decode cX2_addSight 42 = .ok (.iload 6, 2) := by decide +kernel
theorem dX2_addSight_44 : decode cX2_addSight 44 = .ok (.iconst 2, 1) := by decide +kernel
theorem dX2_addSight_45 : decode cX2_addSight 45 = .ok (.iadd, 1) := by decide +kernel
theorem dX2_addSight_46 : decode cX2_addSight 46 = .ok (.iload_n 3, 1) := by decide +kernel
theorem dX2_addSight_47 : decode cX2_addSight 47 = .ok (.iastore, 1) := by decide +kernel
theorem dX2_addSight_48 : decode cX2_addSight 48 = .ok (.aload_n 0, 1) := by decide +kernel
theorem dX2_addSight_49 : decode cX2_addSight 49 = .ok (.getfield 36, 3) := by decide +kernel
theorem dX2_addSight_52 : decode cX2_addSight 52 = .ok (.iload 6, 2) := by decide +kernel
theorem dX2_addSight_54 : decode cX2_addSight 54 = .ok (.iconst 3, 1) := by decide +kernel
theorem dX2_addSight_55 : decode cX2_addSight 55 = .ok (.iadd, 1) := by decide +kernel
theorem dX2_addSight_56 : decode cX2_addSight 56 = .ok (.iload 4, 2) := by decide +kernel
theorem dX2_addSight_58 : decode cX2_addSight 58 = .ok (.iastore, 1) := by decide +kernel
theorem dX2_addSight_59 : decode cX2_addSight 59 = .ok (.aload_n 0, 1) := by decide +kernel
theorem dX2_addSight_60 : decode cX2_addSight 60 = .ok (.getfield 36, 3) := by decide +kernel
theorem dX2_addSight_63 : decode cX2_addSight 63 = .ok (.iload 6, 2) := by decide +kernel
theorem dX2_addSight_65 : decode cX2_addSight 65 = .ok (.iconst 4, 1) := by decide +kernel
theorem dX2_addSight_66 : decode cX2_addSight 66 = .ok (.iadd, 1) := by decide +kernel
theorem dX2_addSight_67 : decode cX2_addSight 67 = .ok (.iload 5, 2) := by decide +kernel
theorem dX2_addSight_69 : decode cX2_addSight 69 = .ok (.iastore, 1) := by decide +kernel
theorem dX2_addSight_70 : decode cX2_addSight 70 = .ok (.aload_n 0, 1) := by decide +kernel
theorem dX2_addSight_71 : decode cX2_addSight 71 = .ok (.dup, 1) := by decide +kernel
theorem dX2_addSight_72 : decode cX2_addSight 72 = .ok (.getfield 77, 3) := by decide +kernel
theorem dX2_addSight_75 : decode cX2_addSight 75 = .ok (.iconst 1, 1) := by decide +kernel
theorem dX2_addSight_76 : decode cX2_addSight 76 = .ok (.iadd, 1) := by decide +kernel
theorem dX2_addSight_77 : decode cX2_addSight 77 = .ok (.putfield 77, 3) := by decide +kernel
theorem dX2_addSight_80 : decode cX2_addSight 80 = .ok (.aload_n 0, 1) := by decide +kernel
theorem dX2_addSight_81 : decode cX2_addSight 81 = .ok (.getfield 77, 3) := by decide +kernel
theorem dX2_addSight_84 : decode cX2_addSight 84 = .ok (.ireturn, 1) := by decide +kernel
theorem dX2_addSight_9 : decode cX2_addSight 9 = .ok (.bipush (-5), 2) := by decide +kernel
theorem dX2_addSight_11 : decode cX2_addSight 11 = .ok (.ireturn, 1) := by decide +kernel
