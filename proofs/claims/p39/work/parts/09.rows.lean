theorem dX5_lookAhead_0 : decode cX5_lookAhead 0 = .ok (.aload_n 0, 1) := by decide +kernel
theorem dX5_lookAhead_1 : decode cX5_lookAhead 1 = .ok (.iload_n 1, 1) := by decide +kernel
theorem dX5_lookAhead_2 : decode cX5_lookAhead 2 = .ok (.putfield 42, 3) := by decide +kernel
theorem dX5_lookAhead_5 : decode cX5_lookAhead 5 = .ok (.aload_n 0, 1) := by decide +kernel
theorem dX5_lookAhead_6 : decode cX5_lookAhead 6 = .ok (.iconst (-1), 1) := by decide +kernel
theorem dX5_lookAhead_7 : decode cX5_lookAhead 7 = .ok (.putfield 46, 3) := by decide +kernel
theorem dX5_lookAhead_10 : decode cX5_lookAhead 10 = .ok (.aload_n 0, 1) := by decide +kernel
theorem dX5_lookAhead_11 : decode cX5_lookAhead 11 = .ok (.getfield 13, 3) := by decide +kernel
theorem dX5_lookAhead_14 : decode cX5_lookAhead 14 = .ok (.iconst 0, 1) := by decide +kernel
theorem dX5_lookAhead_15 : decode cX5_lookAhead 15 = .ok (.aaload, 1) := by decide +kernel
theorem dX5_lookAhead_16 : decode cX5_lookAhead 16 = .ok (.aload_n 0, 1) := by decide +kernel
theorem dX5_lookAhead_17 : decode cX5_lookAhead 17 = .ok (.getfield 34, 3) := by decide +kernel
theorem dX5_lookAhead_20 : decode cX5_lookAhead 20 = .ok (.getfield 49, 3) := by decide +kernel
theorem dX5_lookAhead_23 : decode cX5_lookAhead 23 = .ok (.invokevirtual 54, 3) := by decide +kernel
theorem dX5_lookAhead_26 : decode cX5_lookAhead 26 = .ok (.aload_n 0, 1) := by decide +kernel
theorem dX5_lookAhead_27 : decode cX5_lookAhead 27 = .ok (.iconst 0, 1) := by decide +kernel
theorem dX5_lookAhead_28 : decode cX5_lookAhead 28 = .ok (.sipush (-200), 3) := by decide +kernel
theorem dX5_lookAhead_31 : decode cX5_lookAhead 31 = .ok (.sipush 200, 3) := by decide +kernel
theorem dX5_lookAhead_34 : decode cX5_lookAhead 34 = .ok (.invokevirtual 58, 3) := by decide +kernel
theorem dX5_lookAhead_37 : decode cX5_lookAhead 37 = .ok (.istore_n 3, 1) := by decide +kernel
theorem dX5_lookAhead_38 : decode cX5_lookAhead 38 = .ok (.iload_n 2, 1) := by decide +kernel
theorem dX5_lookAhead_39 : decode cX5_lookAhead 39 = .ok (.ifCond .ne 19, 3) := by decide +kernel
theorem dX5_lookAhead_58 : decode cX5_lookAhead 58 = .ok (.iload_n 2, 1) := by decide +kernel
theorem dX5_lookAhead_59 : decode cX5_lookAhead 59 = .ok (.iconst 1, 1) := by decide +kernel
theorem dX5_lookAhead_60 : decode cX5_lookAhead 60 = .ok (.if_icmp .ne 39, 3) := by decide +kernel
theorem dX5_lookAhead_99 : decode cX5_lookAhead 99 = .ok (.aload_n 0, 1) := by decide +kernel
theorem dX5_lookAhead_100 : decode cX5_lookAhead 100 = .ok (.getfield 46, 3) := by decide +kernel
theorem dX5_lookAhead_103 : decode cX5_lookAhead 103 = .ok (.ireturn, 1) := by decide +kernel
theorem dX5_lookAhead_63 : decode cX5_lookAhead 63 = .ok (.iload_n 3, 1) := by decide +kernel
theorem dX5_lookAhead_98 : decode cX5_lookAhead 98 = .ok (.ireturn, 1) := by decide +kernel
theorem dX5_lookAhead_64 : decode cX5_lookAhead 64 = .ok (.ifCond .ne 7, 3) := by decide +kernel
theorem dX5_lookAhead_71 : decode cX5_lookAhead 71 = .ok (.iload_n 3, 1) := by decide +kernel
theorem dX5_lookAhead_72 : decode cX5_lookAhead 72 = .ok (.ifCond .le 16, 3) := by decide +kernel
theorem dX5_lookAhead_88 : decode cX5_lookAhead 88 = .ok (.aload_n 0, 1) := by decide +kernel
theorem dX5_lookAhead_89 : decode cX5_lookAhead 89 = .ok (.getfield 34, 3) := by decide +kernel
theorem dX5_lookAhead_92 : decode cX5_lookAhead 92 = .ok (.getfield 49, 3) := by decide +kernel
theorem dX5_lookAhead_95 : decode cX5_lookAhead 95 = .ok (.invokevirtual 72, 3) := by decide +kernel
theorem dX5_lookAhead_75 : decode cX5_lookAhead 75 = .ok (.aload_n 0, 1) := by decide +kernel
theorem dX5_lookAhead_76 : decode cX5_lookAhead 76 = .ok (.getfield 34, 3) := by decide +kernel
theorem dX5_lookAhead_79 : decode cX5_lookAhead 79 = .ok (.getfield 49, 3) := by decide +kernel
theorem dX5_lookAhead_82 : decode cX5_lookAhead 82 = .ok (.invokevirtual 68, 3) := by decide +kernel
theorem dX5_lookAhead_85 : decode cX5_lookAhead 85 = .ok (.goto 13, 3) := by decide +kernel
theorem dX5_lookAhead_67 : decode cX5_lookAhead 67 = .ok (.iconst (-1), 1) := by decide +kernel
theorem dX5_lookAhead_68 : decode cX5_lookAhead 68 = .ok (.goto 30, 3) := by decide +kernel
theorem dX5_lookAhead_42 : decode cX5_lookAhead 42 = .ok (.iload_n 3, 1) := by decide +kernel
theorem dX5_lookAhead_57 : decode cX5_lookAhead 57 = .ok (.ireturn, 1) := by decide +kernel
theorem dX5_lookAhead_43 : decode cX5_lookAhead 43 = .ok (.ifCond .ne 7, 3) := by decide +kernel
theorem dX5_lookAhead_50 : decode cX5_lookAhead 50 = .ok (.bipush 101, 2) := by decide +kernel
theorem dX5_lookAhead_52 : decode cX5_lookAhead 52 = .ok (.iload_n 3, 1) := by decide +kernel
theorem dX5_lookAhead_53 : decode cX5_lookAhead 53 = .ok (.invokestatic 62, 3) := by decide +kernel
theorem dX5_lookAhead_56 : decode cX5_lookAhead 56 = .ok (.isub, 1) := by decide +kernel
theorem dX5_lookAhead_46 : decode cX5_lookAhead 46 = .ok (.iconst 0, 1) := by decide +kernel
theorem dX5_lookAhead_47 : decode cX5_lookAhead 47 = .ok (.goto 10, 3) := by decide +kernel
set_option maxHeartbeats 4000000 in
set_option maxRecDepth 100000 in
theorem k_X5_lookAhead (l : Launch) (D : va_G) (cy : Nat → ClassId) (ld : Nat → Nat) (t : tk_T) (a0 : Nat) (p1 : Int32) (p2 : Int32) (ht_a0 : t a0 = (6, 0, 0)) : Met l yX5_lookAhead (wl yX5_lookAhead cX5_lookAhead 4 (some .int)) ({ frames := 11, cells := 0, slots := 0, locals := 700 }) (tp D cy ld t [] [.ref a0, .int p1, .int p2] (fun H => True)) (ti D cy ld t [] (fun r H => True) (tk_w t [(6, 0, 0), (20, 10, 10), (10, 10, 10), (20, 0, 0), (12, 0, 0), (9, 0, 0), (20, 11, 11), (10, 11, 11), (20, 12, 12), (10, 12, 12), (20, 13, 13), (10, 13, 13), (20, 14, 14), (10, 14, 14)])) 0 0 (tk_w t [(6, 0, 0), (20, 10, 10), (10, 10, 10), (20, 0, 0), (12, 0, 0), (9, 0, 0), (20, 11, 11), (10, 11, 11), (20, 12, 12), (10, 12, 12), (20, 13, 13), (10, 13, 13), (20, 14, 14), (10, 14, 14)]) := by
  refine tk_met (y := yX5_lookAhead) (cc := cX5_lookAhead) (maxL := 4) (ret := (some .int)) (av := [.ref a0, .int p1, .int p2]) _ _ (by decide) (Nat.le_of_ble_eq_true rfl) ?_
  intro p e s m args below meth c hx hb hr hml hts htl hown hlocks hK H locs hH hG hS hB hZ ls hl
  have hown : s.vm.findClass RX5 = some m.cls := hown
  have hl : lv_has ls 4 [(0, .ref a0), (1, .int p1), (2, .int p2)] := hl
  have hr_p1 := tk_rng p1
  have hr_p2 := tk_rng p2
  refine lv_aload_n hx hb dX5_lookAhead_0 rfl (lv_at hl 0 rfl) ?_
  refine lv_iload_n hx hb dX5_lookAhead_1 rfl (lv_at hl 1 rfl) ?_
  refine tk_put (ci := 5) (v := .int p1) (ty := .int) (C := RX5) (T := TX5) (N := 11) (sp := (0, (-2147483648), 2147483647, 0)) hx hb htl inX5 tyX5 tyX5_ok nmX5 hown hK hG hS ht_a0 (by decide) tk_no rfl 3 (by decide) (htl _ mw_1286) (fun _ h9 => h9) rfl (tyX5_ok 3 (by decide)) rfl rfl rfl (tk_Vi (tk_rng _).1 (tk_rng _).2) (fun _ h => h) (tk_w.of ht_a0 (by decide) (List.mem_of_getElem? (i := 0) rfl) (Nat.le_refl _) (Nat.le_refl _)) dX5_lookAhead_2 (fun H locs hG hS hf1 hq9 hj9 => ?_)
  refine lv_aload_n hx hb dX5_lookAhead_5 rfl (lv_at hl 0 rfl) ?_
  refine lv_iconst (v := (-1)) hx hb dX5_lookAhead_6 (by decide) ?_
  refine tk_put (ci := 5) (v := .int (-1)) (ty := .int) (C := RX5) (T := TX5) (N := 11) (sp := (0, (-2147483648), 2147483647, 0)) hx hb htl inX5 tyX5 tyX5_ok nmX5 hown hK hG hS ht_a0 (by decide) tk_no rfl 4 (by decide) (htl _ mw_1287) (fun _ h9 => h9) rfl (tyX5_ok 4 (by decide)) rfl rfl rfl (tk_Vi (tk_rng _).1 (tk_rng _).2) (fun _ h => h) (tk_w.of ht_a0 (by decide) (List.mem_of_getElem? (i := 0) rfl) (Nat.le_refl _) (Nat.le_refl _)) dX5_lookAhead_7 (fun H locs hG hS hf3 hq9 hj9 => ?_)
  refine lv_aload_n hx hb dX5_lookAhead_10 rfl (lv_at hl 0 rfl) ?_
  refine tk_get (ci := 5) (C := RX5) (T := TX5) (N := 11) (sp := (6, 26, 5, 0)) hx hb htl inX5 hown hK hG ht_a0 (by decide) tk_no rfl 2 (by decide) (htl _ mw_149) (fun _ h9 => h9) rfl dX5_lookAhead_11 (fun v9 hf5 hV9 => ?_)
  obtain ⟨b6, rfl, ht_b6⟩ := hV9
  have ht_b6 : t b6 = (26, 5, 0) := ht_b6
  refine lv_iconst (v := 0) hx hb dX5_lookAhead_14 (by decide) ?_
  refine tk_aald hx hb hK hG 3 rfl rfl ht_b6 (by decide) (fun _ h => h) tk_no (I := 0) (by decide) (by decide) (by decide) dX5_lookAhead_15 (fun o7 ht_o7 => ?_)
  obtain ⟨rfl, ht_ld30⟩ := ht_o7
  have ht_ld30 : t (ld 30) = (10, 0, 10) := ht_ld30
  refine fx_top (v := .ref (ld 30)) rfl ?_
  refine lv_aload_n hx hb dX5_lookAhead_16 rfl (lv_at hl 0 rfl) ?_
  refine tk_get (ci := 5) (C := RX5) (T := TX5) (N := 11) (sp := (8, 20, 3, 0)) hx hb htl inX5 hown hK hG ht_a0 (by decide) tk_no rfl 0 (by decide) (htl _ mw_155) (fun _ h9 => h9) rfl dX5_lookAhead_17 (fun v9 hf8 hV9 => ?_)
  obtain ⟨rfl, ht_ld20⟩ := hV9
  have ht_ld20 : t (ld 20) = (3, 0, 0) := ht_ld20
  refine fx_top (v := .ref (ld 20)) rfl ?_
  refine tk_get (ci := 2) (C := RX2) (T := TX2) (N := 20) (sp := (9, 40, 10, 0)) hx hb htl inX2 hown hK hG ht_ld20 (by decide) tk_no rfl 19 (by decide) (htl _ mw_1288) (fun _ h9 => h9) rfl dX5_lookAhead_20 (fun v9 hf9 hV9 => ?_)
  obtain ⟨rfl, ht_ld40⟩ := hV9
  have ht_ld40 : t (ld 40) = (10, 0, 0) := ht_ld40
  refine fx_top (v := .ref (ld 40)) rfl ?_
  obtain ⟨v9, hf10, hV9⟩ := tk_peek (ci := 9) (C := RX9) (T := TX9) (N := 11) (sp := (0, (-1), 7, 0)) hG ht_ld40 (by decide) tk_no rfl 5 (by decide) rfl
  obtain ⟨v11, rfl, ha_v11, hb_v11⟩ := hV9
  refine tk_Vv (As := [.ref (ld 40)]) (rest := []) (ci := 9) ⟨hx, hb, hml, hown, hts⟩ hK hG hZ hS (k_X9_copyFrom l D cy ld t 10 0 (ld 30) (ld 40) v11 ht_ld30 ht_ld40 (by omega) (by omega) (by omega)) hf10 ⟨callB_of 1 hts (wl_in mw_821) rfl rfl rfl (htl _ mw_76) (htl _ mw_1292) hd_yX9_copyFrom ⟨(Nat.le_of_ble_eq_true rfl), (Nat.le_of_ble_eq_true rfl)⟩, htl _ mw_819, htl _ mw_820⟩ ht_ld30 (by decide) tk_no rfl (tk_w.pick [1, 2] rfl) rfl hl.1 rfl (Nat.le_of_ble_eq_true rfl) dX5_lookAhead_23 ⟨(Nat.le_of_ble_eq_true rfl), (Nat.le_of_ble_eq_true rfl)⟩ (fun H locs hpo hG hS hq9 => ?_)
  have hf10 := hf10.call hq9 (tk_w.no ht_ld40 (by decide))
  have hf13 := hpo
  refine lv_aload_n hx hb dX5_lookAhead_26 rfl (lv_at hl 0 rfl) ?_
  refine lv_iconst (v := 0) hx hb dX5_lookAhead_27 (by decide) ?_
  refine lv_sipush (v := (-200)) hx hb dX5_lookAhead_28 (by decide) ?_
  refine lv_sipush (v := 200) hx hb dX5_lookAhead_31 (by decide) ?_
  have hk_0 : (0 : Int32).toInt = 0 := by decide
  have hk_m200 : ((-200) : Int32).toInt = (-200) := by decide
  have hk_200 : (200 : Int32).toInt = 200 := by decide
  refine tk_Vi (As := [.int 0, .int (-200), .int 200]) (rest := []) (ci := 5) ⟨hx, hb, hml, hown, hts⟩ hK hG hZ hS (k_X5_worthOf_0 l D cy ld t a0 (-200) 200 ht_a0) trivial ⟨callB_of 3 hts (wl_in mw_1296) rfl rfl rfl (htl _ mw_40) (htl _ mw_1293) hd_yX5_worthOf ⟨(Nat.le_of_ble_eq_true rfl), (Nat.le_of_ble_eq_true rfl)⟩, htl _ mw_1294, htl _ mw_1295⟩ ht_a0 (by decide) tk_no rfl (tk_w.pick [3, 4, 5, 6, 7, 8, 9, 10, 11, 12, 13, 0] rfl) rfl hl.1 rfl (Nat.le_of_ble_eq_true rfl) dX5_lookAhead_34 ⟨(Nat.le_of_ble_eq_true rfl), (Nat.le_of_ble_eq_true rfl)⟩ (fun v14 H locs hpo hG hS hq9 => ?_)
  have hf10 := hf10.call hq9 (tk_w.no ht_ld40 (by decide))
  have hf13 := hf13.call hq9 (tk_w.no ht_ld30 (by decide))
  obtain ⟨hpo16, hpo17⟩ := hpo
  refine lv_istore_n (lv' := [(3, .int v14), (0, .ref a0), (1, .int p1), (2, .int p2)]) hx hb dX5_lookAhead_37 rfl hl (by decide) rfl (fun ls hl => ?_)
  refine lv_iload_n hx hb dX5_lookAhead_38 rfl (lv_at hl 3 rfl) ?_
  refine lv_if_ne (tgt := 58) hx hb dX5_lookAhead_39 (by decide) (fun c9 => ?_) (fun c9 => ?_)
  · have hc18 : ¬ (p2.toInt = 0) := fun h9 => c9 ((fi_eq rfl (by decide)).mpr h9)
    refine lv_iload_n hx hb dX5_lookAhead_58 rfl (lv_at hl 3 rfl) ?_
    refine lv_iconst (v := 1) hx hb dX5_lookAhead_59 (by decide) ?_
    refine lv_icmp_ne (tgt := 99) hx hb dX5_lookAhead_60 (by decide) (fun c9 => ?_) (fun c9 => ?_)
    · have hc19 : ¬ (p2.toInt = 1) := fun h9 => c9 ((fi_eq rfl (by decide)).mpr h9)
      refine lv_aload_n hx hb dX5_lookAhead_99 rfl (lv_at hl 1 rfl) ?_
      refine tk_get (ci := 5) (C := RX5) (T := TX5) (N := 11) (sp := (0, (-2147483648), 2147483647, 0)) hx hb htl inX5 hown hK hG ht_a0 (by decide) tk_no rfl 4 (by decide) (htl _ mw_1287) (fun _ h9 => h9) rfl dX5_lookAhead_100 (fun v9 hf20 hV9 => ?_)
      obtain ⟨v21, rfl, ha_v21, hb_v21⟩ := hV9
      exact tk_iret (v := v21) hx hb hr rfl hlocks trivial hG hS dX5_lookAhead_103
    · have hc19 : p2.toInt = 1 := (fi_eq rfl (by decide)).mp c9
      refine lv_iload_n hx hb dX5_lookAhead_63 rfl (lv_at hl 0 rfl) ?_
      have hj42 : ∀ (v40 : Int32) (H : Heap) (locs : List Loc), (-1) ≤ v40.toInt → v40.toInt ≤ 7 → tk_G D cy ld t [] H → va_S (tk_w t [(6, 0, 0), (20, 10, 10), (10, 10, 10), (20, 0, 0), (12, 0, 0), (9, 0, 0), (20, 11, 11), (10, 11, 11), (20, 12, 12), (10, 12, 12), (20, 13, 13), (10, 13, 13), (20, 14, 14), (10, 14, 14)]) s.heap H locs → tk_f D H (ld 40) 9 5 (.int v11) → tk_f D H (ld 30) 9 5 (.int v11) → ∀ ls : Array Slot, lv_has ls 4 [] → W p l e ({ frames := 11, cells := 0, slots := 0, locals := 700 }) s m args below meth c H locs 0 0 (MQ below (ti D cy ld t [] (fun r H => True) (tk_w t [(6, 0, 0), (20, 10, 10), (10, 10, 10), (20, 0, 0), (12, 0, 0), (9, 0, 0), (20, 11, 11), (10, 11, 11), (20, 12, 12), (10, 12, 12), (20, 13, 13), (10, 13, 13), (20, 14, 14), (10, 14, 14)])) args s 0 0 (tk_w t [(6, 0, 0), (20, 10, 10), (10, 10, 10), (20, 0, 0), (12, 0, 0), (9, 0, 0), (20, 11, 11), (10, 11, 11), (20, 12, 12), (10, 12, 12), (20, 13, 13), (10, 13, 13), (20, 14, 14), (10, 14, 14)])) (F0 m 98 ls [.int v40]) := by
        intro v40 H locs hq0_j42 hq1_j42 hG hS hf10 hf13 ls hl
        exact tk_iret (v := v40) hx hb hr rfl hlocks trivial hG hS dX5_lookAhead_98
      refine lv_if_ne (tgt := 71) hx hb dX5_lookAhead_64 (by decide) (fun c9 => ?_) (fun c9 => ?_)
      · have hc22 : ¬ (v14.toInt = 0) := fun h9 => c9 ((fi_eq rfl (by decide)).mpr h9)
        refine lv_iload_n hx hb dX5_lookAhead_71 rfl (lv_at hl 0 rfl) ?_
        refine lv_if_le (tgt := 88) hx hb dX5_lookAhead_72 (by decide) (fun c9 => ?_) (fun c9 => ?_)
        · have hc43 : v14.toInt ≤ 0 := (fi_le rfl (by decide)).mp c9
          refine lv_aload_n hx hb dX5_lookAhead_88 rfl (lv_at hl 1 rfl) ?_
          refine tk_get (ci := 5) (C := RX5) (T := TX5) (N := 11) (sp := (8, 20, 3, 0)) hx hb htl inX5 hown hK hG ht_a0 (by decide) tk_no rfl 0 (by decide) (htl _ mw_155) (fun _ h9 => h9) rfl dX5_lookAhead_89 (fun v9 hf44 hV9 => ?_)
          obtain ⟨rfl, ht_ld20⟩ := hV9
          have ht_ld20 : t (ld 20) = (3, 0, 0) := ht_ld20
          refine fx_top (v := .ref (ld 20)) rfl ?_
          refine tk_get (ci := 2) (C := RX2) (T := TX2) (N := 20) (sp := (9, 40, 10, 0)) hx hb htl inX2 hown hK hG ht_ld20 (by decide) tk_no rfl 19 (by decide) (htl _ mw_1288) (fun _ h9 => h9) rfl dX5_lookAhead_92 (fun v9 hf45 hV9 => ?_)
          obtain ⟨rfl, ht_ld40⟩ := hV9
          have ht_ld40 : t (ld 40) = (10, 0, 0) := ht_ld40
          refine fx_top (v := .ref (ld 40)) rfl ?_
          refine tk_Vi (As := []) (rest := []) (ci := 9) ⟨hx, hb, hml, hown, hts⟩ hK hG hZ hS (k_X9_whoSings l D cy ld t 0 (ld 40) v11 ht_ld40 (by omega) (by omega)) hf10 ⟨callB_of 0 hts (wl_in mw_844) rfl rfl rfl (htl _ mw_76) (htl _ mw_1303) hd_yX9_whoSings ⟨(Nat.le_of_ble_eq_true rfl), (Nat.le_of_ble_eq_true rfl)⟩, htl _ mw_842, htl _ mw_843⟩ ht_ld40 (by decide) tk_no rfl (tk_w.pick [] rfl) rfl hl.1 rfl (Nat.le_of_ble_eq_true rfl) dX5_lookAhead_95 ⟨(Nat.le_of_ble_eq_true rfl), (Nat.le_of_ble_eq_true rfl)⟩ (fun v46 H locs hpo hG hS hq9 => ?_)
          have hf10 := hf10.call hq9 tk_w.nil
          have hf13 := hf13.call hq9 tk_w.nil
          obtain ⟨hpo48, hpo49, hpo50⟩ := hpo
          exact hj42 v46 _ _ (by omega) (by omega) hG hS hf10 hf13 _ (lv_sub hl [] rfl)
        · have hc43 : ¬ (v14.toInt ≤ 0) := fun h9 => c9 ((fi_le rfl (by decide)).mpr h9)
          refine lv_aload_n hx hb dX5_lookAhead_75 rfl (lv_at hl 1 rfl) ?_
          refine tk_get (ci := 5) (C := RX5) (T := TX5) (N := 11) (sp := (8, 20, 3, 0)) hx hb htl inX5 hown hK hG ht_a0 (by decide) tk_no rfl 0 (by decide) (htl _ mw_155) (fun _ h9 => h9) rfl dX5_lookAhead_76 (fun v9 hf51 hV9 => ?_)
          obtain ⟨rfl, ht_ld20⟩ := hV9
          have ht_ld20 : t (ld 20) = (3, 0, 0) := ht_ld20
          refine fx_top (v := .ref (ld 20)) rfl ?_
          refine tk_get (ci := 2) (C := RX2) (T := TX2) (N := 20) (sp := (9, 40, 10, 0)) hx hb htl inX2 hown hK hG ht_ld20 (by decide) tk_no rfl 19 (by decide) (htl _ mw_1288) (fun _ h9 => h9) rfl dX5_lookAhead_79 (fun v9 hf52 hV9 => ?_)
          obtain ⟨rfl, ht_ld40⟩ := hV9
          have ht_ld40 : t (ld 40) = (10, 0, 0) := ht_ld40
          refine fx_top (v := .ref (ld 40)) rfl ?_
          refine tk_Vi (As := []) (rest := []) (ci := 9) ⟨hx, hb, hml, hown, hts⟩ hK hG hZ hS (k_X9_whoHears l D cy ld t 0 (ld 40) v11 ht_ld40 (by omega) (by omega)) hf10 ⟨callB_of 0 hts (wl_in mw_924) rfl rfl rfl (htl _ mw_76) (htl _ mw_1302) hd_yX9_whoHears ⟨(Nat.le_of_ble_eq_true rfl), (Nat.le_of_ble_eq_true rfl)⟩, htl _ mw_922, htl _ mw_923⟩ ht_ld40 (by decide) tk_no rfl (tk_w.pick [] rfl) rfl hl.1 rfl (Nat.le_of_ble_eq_true rfl) dX5_lookAhead_82 ⟨(Nat.le_of_ble_eq_true rfl), (Nat.le_of_ble_eq_true rfl)⟩ (fun v53 H locs hpo hG hS hq9 => ?_)
          have hf10 := hf10.call hq9 tk_w.nil
          have hf13 := hf13.call hq9 tk_w.nil
          obtain ⟨hpo55, hpo56, hpo57⟩ := hpo
          refine lv_goto (tgt := 98) hx hb dX5_lookAhead_85 (by decide) ?_
          exact hj42 v53 _ _ (by omega) (by omega) hG hS hf10 hf13 _ (lv_sub hl [] rfl)
      · have hc22 : v14.toInt = 0 := (fi_eq rfl (by decide)).mp c9
        refine lv_iconst (v := (-1)) hx hb dX5_lookAhead_67 (by decide) ?_
        refine lv_goto (tgt := 98) hx hb dX5_lookAhead_68 (by decide) ?_
        have hk_m1 : ((-1) : Int32).toInt = (-1) := by decide
        exact hj42 (-1) _ _ (by omega) (by omega) hG hS hf10 hf13 _ (lv_sub hl [] rfl)
  · have hc18 : p2.toInt = 0 := (fi_eq rfl (by decide)).mp c9
    refine lv_iload_n hx hb dX5_lookAhead_42 rfl (lv_at hl 0 rfl) ?_
    have hj63 : ∀ (v62 : Int32), ∀ ls : Array Slot, lv_has ls 4 [] → W p l e ({ frames := 11, cells := 0, slots := 0, locals := 700 }) s m args below meth c H locs 0 0 (MQ below (ti D cy ld t [] (fun r H => True) (tk_w t [(6, 0, 0), (20, 10, 10), (10, 10, 10), (20, 0, 0), (12, 0, 0), (9, 0, 0), (20, 11, 11), (10, 11, 11), (20, 12, 12), (10, 12, 12), (20, 13, 13), (10, 13, 13), (20, 14, 14), (10, 14, 14)])) args s 0 0 (tk_w t [(6, 0, 0), (20, 10, 10), (10, 10, 10), (20, 0, 0), (12, 0, 0), (9, 0, 0), (20, 11, 11), (10, 11, 11), (20, 12, 12), (10, 12, 12), (20, 13, 13), (10, 13, 13), (20, 14, 14), (10, 14, 14)])) (F0 m 57 ls [.int v62]) := by
      intro v62  ls hl
      exact tk_iret (v := v62) hx hb hr rfl hlocks trivial hG hS dX5_lookAhead_57
    refine lv_if_ne (tgt := 50) hx hb dX5_lookAhead_43 (by decide) (fun c9 => ?_) (fun c9 => ?_)
    · have hc58 : ¬ (v14.toInt = 0) := fun h9 => c9 ((fi_eq rfl (by decide)).mpr h9)
      refine lv_bipush (v := 101) hx hb dX5_lookAhead_50 (by decide) ?_
      refine lv_iload_n hx hb dX5_lookAhead_52 rfl (lv_at hl 0 rfl) ?_
      refine va_mabs hx hb (by rw [hml]; exact hl.1.symm) hown (htl _ mw_1289) (htl _ mw_1290) (htl _ mw_474) (htl _ mw_1291) (Nat.le_of_ble_eq_true rfl) (Nat.le_of_ble_eq_true rfl) (Nat.le_of_ble_eq_true rfl) (Nat.le_of_ble_eq_true rfl) dX5_lookAhead_53 ?_
      refine tk_any (fun v64 => ?_)
      refine lv_isub hx hb dX5_lookAhead_56 ?_
      obtain ⟨v65, hm_v65⟩ : ∃ z : Int32, 101 - v64 = z := ⟨_, rfl⟩
      refine fx_ti hm_v65 ?_
      exact hj63 v65 _ (lv_sub hl [] rfl)
    · have hc58 : v14.toInt = 0 := (fi_eq rfl (by decide)).mp c9
      refine lv_iconst (v := 0) hx hb dX5_lookAhead_46 (by decide) ?_
      refine lv_goto (tgt := 57) hx hb dX5_lookAhead_47 (by decide) ?_
      have hk_0 : (0 : Int32).toInt = 0 := by decide
      exact hj63 0 _ (lv_sub hl [] rfl)
theorem dX9_openDuel_0 : decode cX9_openDuel 0 = .ok (.aload_n 0, 1) := by decide +kernel
theorem dX9_openDuel_1 : decode cX9_openDuel 1 = .ok (.iload_n 1, 1) := by decide +kernel
theorem dX9_openDuel_2 : decode cX9_openDuel 2 = .ok (.putfield 24, 3) := by decide +kernel
theorem dX9_openDuel_5 : decode cX9_openDuel 5 = .ok (.aload_n 0, 1) := by decide +kernel
theorem dX9_openDuel_6 : decode cX9_openDuel 6 = .ok (.iload_n 2, 1) := by decide +kernel
theorem dX9_openDuel_7 : decode cX9_openDuel 7 = .ok (.putfield 28, 3) := by decide +kernel
theorem dX9_openDuel_10 : decode cX9_openDuel 10 = .ok (.aload_n 0, 1) := by decide +kernel
theorem dX9_openDuel_11 : decode cX9_openDuel 11 = .ok (.iload_n 3, 1) := by decide +kernel
theorem dX9_openDuel_12 : decode cX9_openDuel 12 = .ok (.putfield 43, 3) := by decide +kernel
theorem dX9_openDuel_15 : decode cX9_openDuel 15 = .ok (.aload_n 0, 1) := by decide +kernel
theorem dX9_openDuel_16 : decode cX9_openDuel 16 = .ok (.iconst 0, 1) := by decide +kernel
theorem dX9_openDuel_17 : decode cX9_openDuel 17 = .ok (.putfield 46, 3) := by decide +kernel
theorem dX9_openDuel_20 : decode cX9_openDuel 20 = .ok (.aload_n 0, 1) := by decide +kernel
theorem dX9_openDuel_21 : decode cX9_openDuel 21 = .ok (.iconst 0, 1) := by decide +kernel
theorem dX9_openDuel_22 : decode cX9_openDuel 22 = .ok (.putfield 49, 3) := by decide +kernel
theorem dX9_openDuel_25 : decode cX9_openDuel 25 = .ok (.aload_n 0, 1) := by decide +kernel
theorem dX9_openDuel_26 : decode cX9_openDuel 26 = .ok (.iconst (-1), 1) := by decide +kernel
theorem dX9_openDuel_27 : decode cX9_openDuel 27 = .ok (.putfield 31, 3) := by decide +kernel
theorem dX9_openDuel_30 : decode cX9_openDuel 30 = .ok (.return_, 1) := by decide +kernel
set_option maxHeartbeats 4000000 in
set_option maxRecDepth 100000 in
theorem k_X9_openDuel (l : Launch) (D : va_G) (cy : Nat → ClassId) (ld : Nat → Nat) (t : tk_T) (rg0 : Nat) (a0 : Nat) (p1 : Int32) (p2 : Int32) (p3 : Int32) (ht_a0 : t a0 = (10, 0, rg0)) (hp_0 : 0 ≤ p1.toInt) (hp_1 : p1.toInt ≤ 7) (hp_2 : 0 ≤ p2.toInt) (hp_3 : p2.toInt ≤ 7) : Met l yX9_openDuel (wl yX9_openDuel cX9_openDuel 4 none) ({ frames := 3, cells := 0, slots := 0, locals := 140 }) (tp D cy ld t [] [.ref a0, .int p1, .int p2, .int p3] (fun H => True)) (tv D cy ld t [] (fun H => tk_f D H a0 9 5 (.int p1)) (tk_w t [(10, rg0, rg0)])) 0 0 (tk_w t [(10, rg0, rg0)]) := by
  refine tk_met (y := yX9_openDuel) (cc := cX9_openDuel) (maxL := 4) (ret := none) (av := [.ref a0, .int p1, .int p2, .int p3]) _ _ (by decide) (Nat.le_of_ble_eq_true rfl) ?_
  intro p e s m args below meth c hx hb hr hml hts htl hown hlocks hK H locs hH hG hS hB hZ ls hl
  have hown : s.vm.findClass RX9 = some m.cls := hown
  have hl : lv_has ls 4 [(0, .ref a0), (1, .int p1), (2, .int p2), (3, .int p3)] := hl
  have hr_p1 := tk_rng p1
  have hr_p2 := tk_rng p2
  have hr_p3 := tk_rng p3
  obtain ⟨b1, b2, b3, b4, v5, v6, v7, v8, v9, v10, v11, hat, ht_b1, ht_b2, ht_b3, ht_b4, ha_v5, hb_v5, ha_v6, hb_v6, ha_v7, hb_v7, ha_v8, hb_v8, ha_v9, hb_v9, ha_v10, hb_v10, ha_v11, hb_v11, hxx9⟩ := tk_op9 hG ht_a0
  have hG := hG.hole (a := a0)
  refine lv_aload_n hx hb dX9_openDuel_0 rfl (lv_at hl 0 rfl) ?_
  refine lv_iload_n hx hb dX9_openDuel_1 rfl (lv_at hl 1 rfl) ?_
  refine tk_put0 (ci := 9) (v := .int p1) (ty := .int) (C := RX9) (T := TX9) (N := 11) hx hb htl inX9 tyX9 tyX9_ok nmX9 hown hK hat rfl 5 (by decide) (htl _ mw_86) (fun _ h9 => h9) rfl (tyX9_ok 5 (by decide)) rfl rfl (Nat.le_of_ble_eq_true rfl) dX9_openDuel_2 (fun H j9 hat z9 hq9 => ?_)
  have hS := hS.put (k := j9) z9 hq9 (tk_w.of ht_a0 (by decide) (List.mem_of_getElem? (i := 0) rfl) (Nat.le_refl _) (Nat.le_refl _))
  have hG := hG.open (List.mem_singleton.mpr rfl) hq9
  have hat : va_at D vwCl (a0, .inr (9, [.ref b1, .ref b2, .ref b3, .ref b4, .int v5, .int p1, .int v7, .int v8, .int v9, .int v10, .int v11])) H := hat
  generalize locs ++ [_] = locs at hS ⊢
  refine lv_aload_n hx hb dX9_openDuel_5 rfl (lv_at hl 0 rfl) ?_
  refine lv_iload_n hx hb dX9_openDuel_6 rfl (lv_at hl 2 rfl) ?_
  refine tk_put0 (ci := 9) (v := .int p2) (ty := .int) (C := RX9) (T := TX9) (N := 11) hx hb htl inX9 tyX9 tyX9_ok nmX9 hown hK hat rfl 6 (by decide) (htl _ mw_87) (fun _ h9 => h9) rfl (tyX9_ok 6 (by decide)) rfl rfl (Nat.le_of_ble_eq_true rfl) dX9_openDuel_7 (fun H j9 hat z9 hq9 => ?_)
  have hS := hS.put (k := j9) z9 hq9 (tk_w.of ht_a0 (by decide) (List.mem_of_getElem? (i := 0) rfl) (Nat.le_refl _) (Nat.le_refl _))
  have hG := hG.open (List.mem_singleton.mpr rfl) hq9
  have hat : va_at D vwCl (a0, .inr (9, [.ref b1, .ref b2, .ref b3, .ref b4, .int v5, .int p1, .int p2, .int v8, .int v9, .int v10, .int v11])) H := hat
  generalize locs ++ [_] = locs at hS ⊢
  refine lv_aload_n hx hb dX9_openDuel_10 rfl (lv_at hl 0 rfl) ?_
  refine lv_iload_n hx hb dX9_openDuel_11 rfl (lv_at hl 3 rfl) ?_
  refine tk_put0 (ci := 9) (v := .int p3) (ty := .int) (C := RX9) (T := TX9) (N := 11) hx hb htl inX9 tyX9 tyX9_ok nmX9 hown hK hat rfl 7 (by decide) (htl _ mw_824) (fun _ h9 => h9) rfl (tyX9_ok 7 (by decide)) rfl rfl (Nat.le_of_ble_eq_true rfl) dX9_openDuel_12 (fun H j9 hat z9 hq9 => ?_)
  have hS := hS.put (k := j9) z9 hq9 (tk_w.of ht_a0 (by decide) (List.mem_of_getElem? (i := 0) rfl) (Nat.le_refl _) (Nat.le_refl _))
  have hG := hG.open (List.mem_singleton.mpr rfl) hq9
  have hat : va_at D vwCl (a0, .inr (9, [.ref b1, .ref b2, .ref b3, .ref b4, .int v5, .int p1, .int p2, .int p3, .int v9, .int v10, .int v11])) H := hat
  generalize locs ++ [_] = locs at hS ⊢
  refine lv_aload_n hx hb dX9_openDuel_15 rfl (lv_at hl 0 rfl) ?_
  refine lv_iconst (v := 0) hx hb dX9_openDuel_16 (by decide) ?_
  refine tk_put0 (ci := 9) (v := .int 0) (ty := .int) (C := RX9) (T := TX9) (N := 11) hx hb htl inX9 tyX9 tyX9_ok nmX9 hown hK hat rfl 8 (by decide) (htl _ mw_825) (fun _ h9 => h9) rfl (tyX9_ok 8 (by decide)) rfl rfl (Nat.le_of_ble_eq_true rfl) dX9_openDuel_17 (fun H j9 hat z9 hq9 => ?_)
  have hS := hS.put (k := j9) z9 hq9 (tk_w.of ht_a0 (by decide) (List.mem_of_getElem? (i := 0) rfl) (Nat.le_refl _) (Nat.le_refl _))
  have hG := hG.open (List.mem_singleton.mpr rfl) hq9
  have hat : va_at D vwCl (a0, .inr (9, [.ref b1, .ref b2, .ref b3, .ref b4, .int v5, .int p1, .int p2, .int p3, .int 0, .int v10, .int v11])) H := hat
  generalize locs ++ [_] = locs at hS ⊢
  refine lv_aload_n hx hb dX9_openDuel_20 rfl (lv_at hl 0 rfl) ?_
  refine lv_iconst (v := 0) hx hb dX9_openDuel_21 (by decide) ?_
  refine tk_put0 (ci := 9) (v := .int 0) (ty := .boolean) (C := RX9) (T := TX9) (N := 11) hx hb htl inX9 tyX9 tyX9_ok nmX9 hown hK hat rfl 9 (by decide) (htl _ mw_826) (fun _ h9 => h9) rfl (tyX9_ok 9 (by decide)) rfl rfl (Nat.le_of_ble_eq_true rfl) dX9_openDuel_22 (fun H j9 hat z9 hq9 => ?_)
  have hS := hS.put (k := j9) z9 hq9 (tk_w.of ht_a0 (by decide) (List.mem_of_getElem? (i := 0) rfl) (Nat.le_refl _) (Nat.le_refl _))
  have hG := hG.open (List.mem_singleton.mpr rfl) hq9
  have hat : va_at D vwCl (a0, .inr (9, [.ref b1, .ref b2, .ref b3, .ref b4, .int v5, .int p1, .int p2, .int p3, .int 0, .int 0, .int v11])) H := hat
  generalize locs ++ [_] = locs at hS ⊢
  refine lv_aload_n hx hb dX9_openDuel_25 rfl (lv_at hl 0 rfl) ?_
  refine lv_iconst (v := (-1)) hx hb dX9_openDuel_26 (by decide) ?_
  refine tk_put0 (ci := 9) (v := .int (-1)) (ty := .int) (C := RX9) (T := TX9) (N := 11) hx hb htl inX9 tyX9 tyX9_ok nmX9 hown hK hat rfl 10 (by decide) (htl _ mw_88) (fun _ h9 => h9) rfl (tyX9_ok 10 (by decide)) rfl rfl (Nat.le_of_ble_eq_true rfl) dX9_openDuel_27 (fun H j9 hat z9 hq9 => ?_)
  have hS := hS.put (k := j9) z9 hq9 (tk_w.of ht_a0 (by decide) (List.mem_of_getElem? (i := 0) rfl) (Nat.le_refl _) (Nat.le_refl _))
  have hG := hG.open (List.mem_singleton.mpr rfl) hq9
  have hat : va_at D vwCl (a0, .inr (9, [.ref b1, .ref b2, .ref b3, .ref b4, .int v5, .int p1, .int p2, .int p3, .int 0, .int 0, .int (-1)])) H := hat
  generalize locs ++ [_] = locs at hS ⊢
  have hk_0 : (0 : Int32).toInt = 0 := by decide
  have hk_0 : (0 : Int32).toInt = 0 := by decide
  have hk_m1 : ((-1) : Int32).toInt = (-1) := by decide
  have hG := tk_cl9 hG ht_a0 hat ht_b1 ht_b2 ht_b3 ht_b4 (tk_rng _).1 (tk_rng _).2 (by omega) (by omega) (by omega) (by omega) (tk_rng _).1 (tk_rng _).2 (tk_rng _).1 (tk_rng _).2 (by omega) (by omega) (tk_rng _).1 (tk_rng _).2 (by omega)
  have hf18 : tk_f D H a0 9 5 (.int p1) := tk_f.of hat (C := RX9) (T := TX9) (N := 11) rfl (by decide) rfl
  exact tk_vret hx hb hr hlocks (show tk_f D H a0 9 5 (.int p1) from hf18) hG hS dX9_openDuel_30
theorem dX5_openBout_0 : decode cX5_openBout 0 = .ok (.aload_n 0, 1) := by decide +kernel
theorem dX5_openBout_1 : decode cX5_openBout 1 = .ok (.getfield 18, 3) := by decide +kernel
theorem dX5_openBout_4 : decode cX5_openBout 4 = .ok (.aload_n 0, 1) := by decide +kernel
theorem dX5_openBout_5 : decode cX5_openBout 5 = .ok (.getfield 34, 3) := by decide +kernel
theorem dX5_openBout_8 : decode cX5_openBout 8 = .ok (.getfield 49, 3) := by decide +kernel
theorem dX5_openBout_11 : decode cX5_openBout 11 = .ok (.invokevirtual 54, 3) := by decide +kernel
theorem dX5_openBout_14 : decode cX5_openBout 14 = .ok (.aload_n 0, 1) := by decide +kernel
theorem dX5_openBout_15 : decode cX5_openBout 15 = .ok (.getfield 18, 3) := by decide +kernel
theorem dX5_openBout_18 : decode cX5_openBout 18 = .ok (.iload_n 1, 1) := by decide +kernel
theorem dX5_openBout_19 : decode cX5_openBout 19 = .ok (.iload_n 2, 1) := by decide +kernel
theorem dX5_openBout_20 : decode cX5_openBout 20 = .ok (.iconst 1, 1) := by decide +kernel
theorem dX5_openBout_21 : decode cX5_openBout 21 = .ok (.invokevirtual 103, 3) := by decide +kernel
theorem dX5_openBout_24 : decode cX5_openBout 24 = .ok (.aload_n 0, 1) := by decide +kernel
theorem dX5_openBout_25 : decode cX5_openBout 25 = .ok (.getfield 18, 3) := by decide +kernel
theorem dX5_openBout_28 : decode cX5_openBout 28 = .ok (.getfield 107, 3) := by decide +kernel
theorem dX5_openBout_31 : decode cX5_openBout 31 = .ok (.iload_n 1, 1) := by decide +kernel
theorem dX5_openBout_32 : decode cX5_openBout 32 = .ok (.iaload, 1) := by decide +kernel
theorem dX5_openBout_53 : decode cX5_openBout 53 = .ok (.ireturn, 1) := by decide +kernel
theorem dX5_openBout_33 : decode cX5_openBout 33 = .ok (.ifCond .le 19, 3) := by decide +kernel
theorem dX5_openBout_52 : decode cX5_openBout 52 = .ok (.iconst 0, 1) := by decide +kernel
theorem dX5_openBout_36 : decode cX5_openBout 36 = .ok (.aload_n 0, 1) := by decide +kernel
theorem dX5_openBout_37 : decode cX5_openBout 37 = .ok (.getfield 18, 3) := by decide +kernel
theorem dX5_openBout_40 : decode cX5_openBout 40 = .ok (.getfield 107, 3) := by decide +kernel
theorem dX5_openBout_43 : decode cX5_openBout 43 = .ok (.iload_n 2, 1) := by decide +kernel
theorem dX5_openBout_44 : decode cX5_openBout 44 = .ok (.iaload, 1) := by decide +kernel
theorem dX5_openBout_45 : decode cX5_openBout 45 = .ok (.ifCond .le 7, 3) := by decide +kernel
theorem dX5_openBout_48 : decode cX5_openBout 48 = .ok (.iconst 1, 1) := by decide +kernel
theorem dX5_openBout_49 : decode cX5_openBout 49 = .ok (.goto 4, 3) := by decide +kernel
set_option maxHeartbeats 4000000 in
set_option maxRecDepth 100000 in
theorem k_X5_openBout (l : Launch) (D : va_G) (cy : Nat → ClassId) (ld : Nat → Nat) (t : tk_T) (a0 : Nat) (p1 : Int32) (p2 : Int32) (ht_a0 : t a0 = (6, 0, 0)) (hp_0 : 0 ≤ p1.toInt) (hp_1 : p1.toInt ≤ 7) (hp_2 : 0 ≤ p2.toInt) (hp_3 : p2.toInt ≤ 7) : Met l yX5_openBout (wl yX5_openBout cX5_openBout 3 (some .boolean)) ({ frames := 5, cells := 0, slots := 0, locals := 280 }) (tp D cy ld t [] [.ref a0, .int p1, .int p2] (fun H => True)) (ti D cy ld t [] (fun r H => 0 ≤ r.toInt ∧ r.toInt ≤ 1 ∧ 0 ≤ r.toInt ∧ r.toInt ≤ 1) (tk_w t [(20, 4, 4), (10, 4, 4)])) 0 0 (tk_w t [(20, 4, 4), (10, 4, 4)]) := by
  refine tk_met (y := yX5_openBout) (cc := cX5_openBout) (maxL := 3) (ret := (some .boolean)) (av := [.ref a0, .int p1, .int p2]) _ _ (by decide) (Nat.le_of_ble_eq_true rfl) ?_
  intro p e s m args below meth c hx hb hr hml hts htl hown hlocks hK H locs hH hG hS hB hZ ls hl
  have hown : s.vm.findClass RX5 = some m.cls := hown
  have hl : lv_has ls 3 [(0, .ref a0), (1, .int p1), (2, .int p2)] := hl
  have hr_p1 := tk_rng p1
  have hr_p2 := tk_rng p2
  refine lv_aload_n hx hb dX5_openBout_0 rfl (lv_at hl 0 rfl) ?_
  refine tk_get (ci := 5) (C := RX5) (T := TX5) (N := 11) (sp := (8, 21, 10, 4)) hx hb htl inX5 hown hK hG ht_a0 (by decide) tk_no rfl 5 (by decide) (htl _ mw_150) (fun _ h9 => h9) rfl dX5_openBout_1 (fun v9 hf1 hV9 => ?_)
  obtain ⟨rfl, ht_ld21⟩ := hV9
  have ht_ld21 : t (ld 21) = (10, 0, 4) := ht_ld21
  refine fx_top (v := .ref (ld 21)) rfl ?_
  refine lv_aload_n hx hb dX5_openBout_4 rfl (lv_at hl 0 rfl) ?_
  refine tk_get (ci := 5) (C := RX5) (T := TX5) (N := 11) (sp := (8, 20, 3, 0)) hx hb htl inX5 hown hK hG ht_a0 (by decide) tk_no rfl 0 (by decide) (htl _ mw_155) (fun _ h9 => h9) rfl dX5_openBout_5 (fun v9 hf2 hV9 => ?_)
  obtain ⟨rfl, ht_ld20⟩ := hV9
  have ht_ld20 : t (ld 20) = (3, 0, 0) := ht_ld20
  refine fx_top (v := .ref (ld 20)) rfl ?_
  refine tk_get (ci := 2) (C := RX2) (T := TX2) (N := 20) (sp := (9, 40, 10, 0)) hx hb htl inX2 hown hK hG ht_ld20 (by decide) tk_no rfl 19 (by decide) (htl _ mw_1288) (fun _ h9 => h9) rfl dX5_openBout_8 (fun v9 hf3 hV9 => ?_)
  obtain ⟨rfl, ht_ld40⟩ := hV9
  have ht_ld40 : t (ld 40) = (10, 0, 0) := ht_ld40
  refine fx_top (v := .ref (ld 40)) rfl ?_
  obtain ⟨v9, hf4, hV9⟩ := tk_peek (ci := 9) (C := RX9) (T := TX9) (N := 11) (sp := (0, (-1), 7, 0)) hG ht_ld40 (by decide) tk_no rfl 5 (by decide) rfl
  obtain ⟨v5, rfl, ha_v5, hb_v5⟩ := hV9
  refine tk_Vv (As := [.ref (ld 40)]) (rest := []) (ci := 9) ⟨hx, hb, hml, hown, hts⟩ hK hG hZ hS (k_X9_copyFrom l D cy ld t 4 0 (ld 21) (ld 40) v5 ht_ld21 ht_ld40 (by omega) (by omega) (by omega)) hf4 ⟨callB_of 1 hts (wl_in mw_821) rfl rfl rfl (htl _ mw_76) (htl _ mw_1292) hd_yX9_copyFrom ⟨(Nat.le_of_ble_eq_true rfl), (Nat.le_of_ble_eq_true rfl)⟩, htl _ mw_819, htl _ mw_820⟩ ht_ld21 (by decide) tk_no rfl (tk_w.pick [0, 1] rfl) rfl hl.1 rfl (Nat.le_of_ble_eq_true rfl) dX5_openBout_11 ⟨(Nat.le_of_ble_eq_true rfl), (Nat.le_of_ble_eq_true rfl)⟩ (fun H locs hpo hG hS hq9 => ?_)
  have hf4 := hf4.call hq9 (tk_w.no ht_ld40 (by decide))
  have hf7 := hpo
  refine lv_aload_n hx hb dX5_openBout_14 rfl (lv_at hl 0 rfl) ?_
  refine tk_get (ci := 5) (C := RX5) (T := TX5) (N := 11) (sp := (8, 21, 10, 4)) hx hb htl inX5 hown hK hG ht_a0 (by decide) tk_no rfl 5 (by decide) (htl _ mw_150) (fun _ h9 => h9) rfl dX5_openBout_15 (fun v9 hf8 hV9 => ?_)
  obtain ⟨rfl, ht_ld21⟩ := hV9
  have ht_ld21 : t (ld 21) = (10, 0, 4) := ht_ld21
  refine fx_top (v := .ref (ld 21)) rfl ?_
  refine lv_iload_n hx hb dX5_openBout_18 rfl (lv_at hl 1 rfl) ?_
  refine lv_iload_n hx hb dX5_openBout_19 rfl (lv_at hl 2 rfl) ?_
  refine lv_iconst (v := 1) hx hb dX5_openBout_20 (by decide) ?_
  have hk_1 : (1 : Int32).toInt = 1 := by decide
  refine tk_Vv (As := [.int p1, .int p2, .int 1]) (rest := []) (ci := 9) ⟨hx, hb, hml, hown, hts⟩ hK hG hZ hS (k_X9_openDuel l D cy ld t 4 (ld 21) p1 p2 1 ht_ld21 (by omega) (by omega) (by omega) (by omega)) trivial ⟨callB_of 3 hts (wl_in mw_892) rfl rfl rfl (htl _ mw_76) (htl _ mw_1348) hd_yX9_openDuel ⟨(Nat.le_of_ble_eq_true rfl), (Nat.le_of_ble_eq_true rfl)⟩, htl _ mw_890, htl _ mw_891⟩ ht_ld21 (by decide) tk_no rfl (tk_w.pick [1] rfl) rfl hl.1 rfl (Nat.le_of_ble_eq_true rfl) dX5_openBout_21 ⟨(Nat.le_of_ble_eq_true rfl), (Nat.le_of_ble_eq_true rfl)⟩ (fun H locs hpo hG hS hq9 => ?_)
  have hf4 := hf4.call hq9 (tk_w.no ht_ld40 (by decide))
  have hf10 := hpo
  refine lv_aload_n hx hb dX5_openBout_24 rfl (lv_at hl 0 rfl) ?_
  refine tk_get (ci := 5) (C := RX5) (T := TX5) (N := 11) (sp := (8, 21, 10, 4)) hx hb htl inX5 hown hK hG ht_a0 (by decide) tk_no rfl 5 (by decide) (htl _ mw_150) (fun _ h9 => h9) rfl dX5_openBout_25 (fun v9 hf11 hV9 => ?_)
  obtain ⟨rfl, ht_ld21⟩ := hV9
  have ht_ld21 : t (ld 21) = (10, 0, 4) := ht_ld21
  refine fx_top (v := .ref (ld 21)) rfl ?_
  refine tk_get (ci := 9) (C := RX9) (T := TX9) (N := 11) (sp := (1, 20, 8, 0)) hx hb htl inX9 hown hK hG ht_ld21 (by decide) tk_no rfl 0 (by decide) (htl _ mw_1347) (fun _ h9 => h9) rfl dX5_openBout_28 (fun v9 hf12 hV9 => ?_)
  obtain ⟨b13, rfl, ht_b13⟩ := hV9
  have ht_b13 : t b13 = (20, 8, 4) := ht_b13
  refine lv_iload_n hx hb dX5_openBout_31 rfl (lv_at hl 1 rfl) ?_
  refine tk_iald hx hb hK hG ht_b13 (by decide) (fun _ h => h) tk_no rfl (by omega) (by omega) dX5_openBout_32 (fun v14 _ _ => ?_)
  have hr_v14 := tk_rng v14
  have hj23 : ∀ (v22 : Int32), 0 ≤ v22.toInt → v22.toInt ≤ 1 → ∀ ls : Array Slot, lv_has ls 3 [] → W p l e ({ frames := 5, cells := 0, slots := 0, locals := 280 }) s m args below meth c H locs 0 0 (MQ below (ti D cy ld t [] (fun r H => 0 ≤ r.toInt ∧ r.toInt ≤ 1 ∧ 0 ≤ r.toInt ∧ r.toInt ≤ 1) (tk_w t [(20, 4, 4), (10, 4, 4)])) args s 0 0 (tk_w t [(20, 4, 4), (10, 4, 4)])) (F0 m 53 ls [.int v22]) := by
    intro v22 hq0_j23 hq1_j23 ls hl
    exact tk_iret (v := v22) hx hb hr (tk_nz (by omega) (by omega)) hlocks (show 0 ≤ v22.toInt ∧ v22.toInt ≤ 1 ∧ 0 ≤ v22.toInt ∧ v22.toInt ≤ 1 from ⟨(by omega), (by omega), (by omega), (by omega)⟩) hG hS dX5_openBout_53
  refine lv_if_le (tgt := 52) hx hb dX5_openBout_33 (by decide) (fun c9 => ?_) (fun c9 => ?_)
  · have hc15 : v14.toInt ≤ 0 := (fi_le rfl (by decide)).mp c9
    refine lv_iconst (v := 0) hx hb dX5_openBout_52 (by decide) ?_
    have hk_0 : (0 : Int32).toInt = 0 := by decide
    exact hj23 0 (by omega) (by omega) _ (lv_sub hl [] rfl)
  · have hc15 : ¬ (v14.toInt ≤ 0) := fun h9 => c9 ((fi_le rfl (by decide)).mpr h9)
    refine lv_aload_n hx hb dX5_openBout_36 rfl (lv_at hl 0 rfl) ?_
    refine tk_get (ci := 5) (C := RX5) (T := TX5) (N := 11) (sp := (8, 21, 10, 4)) hx hb htl inX5 hown hK hG ht_a0 (by decide) tk_no rfl 5 (by decide) (htl _ mw_150) (fun _ h9 => h9) rfl dX5_openBout_37 (fun v9 hf24 hV9 => ?_)
    obtain ⟨rfl, ht_ld21⟩ := hV9
    have ht_ld21 : t (ld 21) = (10, 0, 4) := ht_ld21
    refine fx_top (v := .ref (ld 21)) rfl ?_
    refine tk_get (ci := 9) (C := RX9) (T := TX9) (N := 11) (sp := (1, 20, 8, 0)) hx hb htl inX9 hown hK hG ht_ld21 (by decide) tk_no rfl 0 (by decide) (htl _ mw_1347) (fun _ h9 => h9) rfl dX5_openBout_40 (fun v9 hf25 hV9 => ?_)
    obtain ⟨b26, rfl, ht_b26⟩ := hV9
    have ht_b26 : t b26 = (20, 8, 4) := ht_b26
    refine lv_iload_n hx hb dX5_openBout_43 rfl (lv_at hl 2 rfl) ?_
    refine tk_iald hx hb hK hG ht_b26 (by decide) (fun _ h => h) tk_no rfl (by omega) (by omega) dX5_openBout_44 (fun v27 _ _ => ?_)
    have hr_v27 := tk_rng v27
    refine lv_if_le (tgt := 52) hx hb dX5_openBout_45 (by decide) (fun c9 => ?_) (fun c9 => ?_)
    · have hc28 : v27.toInt ≤ 0 := (fi_le rfl (by decide)).mp c9
      refine lv_iconst (v := 0) hx hb dX5_openBout_52 (by decide) ?_
      have hk_0 : (0 : Int32).toInt = 0 := by decide
      exact hj23 0 (by omega) (by omega) _ (lv_sub hl [] rfl)
    · have hc28 : ¬ (v27.toInt ≤ 0) := fun h9 => c9 ((fi_le rfl (by decide)).mpr h9)
      refine lv_iconst (v := 1) hx hb dX5_openBout_48 (by decide) ?_
      refine lv_goto (tgt := 53) hx hb dX5_openBout_49 (by decide) ?_
      have hk_1 : (1 : Int32).toInt = 1 := by decide
      exact hj23 1 (by omega) (by omega) _ (lv_sub hl [] rfl)
theorem dX5_resultAtOnce_0 : decode cX5_resultAtOnce 0 = .ok (.aload_n 0, 1) := by decide +kernel
theorem dX5_resultAtOnce_1 : decode cX5_resultAtOnce 1 = .ok (.getfield 18, 3) := by decide +kernel
theorem dX5_resultAtOnce_4 : decode cX5_resultAtOnce 4 = .ok (.getfield 107, 3) := by decide +kernel
theorem dX5_resultAtOnce_7 : decode cX5_resultAtOnce 7 = .ok (.iload_n 1, 1) := by decide +kernel
theorem dX5_resultAtOnce_8 : decode cX5_resultAtOnce 8 = .ok (.iaload, 1) := by decide +kernel
theorem dX5_resultAtOnce_17 : decode cX5_resultAtOnce 17 = .ok (.aload_n 0, 1) := by decide +kernel
theorem dX5_resultAtOnce_18 : decode cX5_resultAtOnce 18 = .ok (.getfield 18, 3) := by decide +kernel
theorem dX5_resultAtOnce_21 : decode cX5_resultAtOnce 21 = .ok (.getfield 107, 3) := by decide +kernel
theorem dX5_resultAtOnce_24 : decode cX5_resultAtOnce 24 = .ok (.iload_n 2, 1) := by decide +kernel
theorem dX5_resultAtOnce_25 : decode cX5_resultAtOnce 25 = .ok (.iaload, 1) := by decide +kernel
theorem dX5_resultAtOnce_34 : decode cX5_resultAtOnce 34 = .ok (.isub, 1) := by decide +kernel
theorem dX5_resultAtOnce_35 : decode cX5_resultAtOnce 35 = .ok (.ireturn, 1) := by decide +kernel
theorem dX5_resultAtOnce_26 : decode cX5_resultAtOnce 26 = .ok (.ifCond .le 7, 3) := by decide +kernel
theorem dX5_resultAtOnce_33 : decode cX5_resultAtOnce 33 = .ok (.iconst 0, 1) := by decide +kernel
theorem dX5_resultAtOnce_29 : decode cX5_resultAtOnce 29 = .ok (.iconst 1, 1) := by decide +kernel
theorem dX5_resultAtOnce_30 : decode cX5_resultAtOnce 30 = .ok (.goto 4, 3) := by decide +kernel
theorem dX5_resultAtOnce_9 : decode cX5_resultAtOnce 9 = .ok (.ifCond .le 7, 3) := by decide +kernel
theorem dX5_resultAtOnce_16 : decode cX5_resultAtOnce 16 = .ok (.iconst 0, 1) := by decide +kernel
theorem dX5_resultAtOnce_12 : decode cX5_resultAtOnce 12 = .ok (.iconst 1, 1) := by decide +kernel
theorem dX5_resultAtOnce_13 : decode cX5_resultAtOnce 13 = .ok (.goto 4, 3) := by decide +kernel
set_option maxHeartbeats 4000000 in
set_option maxRecDepth 100000 in
theorem k_X5_resultAtOnce (l : Launch) (D : va_G) (cy : Nat → ClassId) (ld : Nat → Nat) (t : tk_T) (a0 : Nat) (p1 : Int32) (p2 : Int32) (ht_a0 : t a0 = (6, 0, 0)) (hp_0 : 0 ≤ p1.toInt) (hp_1 : p1.toInt ≤ 7) (hp_2 : 0 ≤ p2.toInt) (hp_3 : p2.toInt ≤ 7) : Met l yX5_resultAtOnce (wl yX5_resultAtOnce cX5_resultAtOnce 3 (some .int)) ({ frames := 3, cells := 0, slots := 0, locals := 140 }) (tp D cy ld t [] [.ref a0, .int p1, .int p2] (fun H => True)) (ti D cy ld t [] (fun r H => (-1) ≤ r.toInt ∧ r.toInt ≤ 1) (tk_w t [])) 0 0 (tk_w t []) := by
  refine tk_met (y := yX5_resultAtOnce) (cc := cX5_resultAtOnce) (maxL := 3) (ret := (some .int)) (av := [.ref a0, .int p1, .int p2]) _ _ (by decide) (Nat.le_of_ble_eq_true rfl) ?_
  intro p e s m args below meth c hx hb hr hml hts htl hown hlocks hK H locs hH hG hS hB hZ ls hl
  have hown : s.vm.findClass RX5 = some m.cls := hown
  have hl : lv_has ls 3 [(0, .ref a0), (1, .int p1), (2, .int p2)] := hl
  have hr_p1 := tk_rng p1
  have hr_p2 := tk_rng p2
  refine lv_aload_n hx hb dX5_resultAtOnce_0 rfl (lv_at hl 0 rfl) ?_
  refine tk_get (ci := 5) (C := RX5) (T := TX5) (N := 11) (sp := (8, 21, 10, 4)) hx hb htl inX5 hown hK hG ht_a0 (by decide) tk_no rfl 5 (by decide) (htl _ mw_150) (fun _ h9 => h9) rfl dX5_resultAtOnce_1 (fun v9 hf1 hV9 => ?_)
  obtain ⟨rfl, ht_ld21⟩ := hV9
  have ht_ld21 : t (ld 21) = (10, 0, 4) := ht_ld21
  refine fx_top (v := .ref (ld 21)) rfl ?_
  refine tk_get (ci := 9) (C := RX9) (T := TX9) (N := 11) (sp := (1, 20, 8, 0)) hx hb htl inX9 hown hK hG ht_ld21 (by decide) tk_no rfl 0 (by decide) (htl _ mw_1347) (fun _ h9 => h9) rfl dX5_resultAtOnce_4 (fun v9 hf2 hV9 => ?_)
  obtain ⟨b3, rfl, ht_b3⟩ := hV9
  have ht_b3 : t b3 = (20, 8, 4) := ht_b3
  refine lv_iload_n hx hb dX5_resultAtOnce_7 rfl (lv_at hl 1 rfl) ?_
  refine tk_iald hx hb hK hG ht_b3 (by decide) (fun _ h => h) tk_no rfl (by omega) (by omega) dX5_resultAtOnce_8 (fun v4 _ _ => ?_)
  have hr_v4 := tk_rng v4
  have hj8 : ∀ (v7 : Int32), 0 ≤ v7.toInt → v7.toInt ≤ 1 → ∀ ls : Array Slot, lv_has ls 3 [(0, .ref a0), (2, .int p2)] → W p l e ({ frames := 3, cells := 0, slots := 0, locals := 140 }) s m args below meth c H locs 0 0 (MQ below (ti D cy ld t [] (fun r H => (-1) ≤ r.toInt ∧ r.toInt ≤ 1) (tk_w t [])) args s 0 0 (tk_w t [])) (F0 m 17 ls [.int v7]) := by
    intro v7 hq0_j8 hq1_j8 ls hl
    refine lv_aload_n hx hb dX5_resultAtOnce_17 rfl (lv_at hl 0 rfl) ?_
    refine tk_get (ci := 5) (C := RX5) (T := TX5) (N := 11) (sp := (8, 21, 10, 4)) hx hb htl inX5 hown hK hG ht_a0 (by decide) tk_no rfl 5 (by decide) (htl _ mw_150) (fun _ h9 => h9) rfl dX5_resultAtOnce_18 (fun v9 hf9 hV9 => ?_)
    obtain ⟨rfl, ht_ld21⟩ := hV9
    have ht_ld21 : t (ld 21) = (10, 0, 4) := ht_ld21
    refine fx_top (v := .ref (ld 21)) rfl ?_
    refine tk_get (ci := 9) (C := RX9) (T := TX9) (N := 11) (sp := (1, 20, 8, 0)) hx hb htl inX9 hown hK hG ht_ld21 (by decide) tk_no rfl 0 (by decide) (htl _ mw_1347) (fun _ h9 => h9) rfl dX5_resultAtOnce_21 (fun v9 hf10 hV9 => ?_)
    obtain ⟨b11, rfl, ht_b11⟩ := hV9
    have ht_b11 : t b11 = (20, 8, 4) := ht_b11
    refine lv_iload_n hx hb dX5_resultAtOnce_24 rfl (lv_at hl 1 rfl) ?_
    refine tk_iald hx hb hK hG ht_b11 (by decide) (fun _ h => h) tk_no rfl (by omega) (by omega) dX5_resultAtOnce_25 (fun v12 _ _ => ?_)
    have hr_v12 := tk_rng v12
    have hj16 : ∀ (v15 : Int32), 0 ≤ v15.toInt → v15.toInt ≤ 1 → ∀ ls : Array Slot, lv_has ls 3 [] → W p l e ({ frames := 3, cells := 0, slots := 0, locals := 140 }) s m args below meth c H locs 0 0 (MQ below (ti D cy ld t [] (fun r H => (-1) ≤ r.toInt ∧ r.toInt ≤ 1) (tk_w t [])) args s 0 0 (tk_w t [])) (F0 m 34 ls [.int v15, .int v7]) := by
      intro v15 hq0_j16 hq1_j16 ls hl
      refine lv_isub hx hb dX5_resultAtOnce_34 ?_
      refine tk_sub rfl rfl (by omega) (by omega) (fun v17 h_v17 => ?_)
      exact tk_iret (v := v17) hx hb hr rfl hlocks (show (-1) ≤ v17.toInt ∧ v17.toInt ≤ 1 from ⟨(by omega), (by omega)⟩) hG hS dX5_resultAtOnce_35
    refine lv_if_le (tgt := 33) hx hb dX5_resultAtOnce_26 (by decide) (fun c9 => ?_) (fun c9 => ?_)
    · have hc13 : v12.toInt ≤ 0 := (fi_le rfl (by decide)).mp c9
      refine lv_iconst (v := 0) hx hb dX5_resultAtOnce_33 (by decide) ?_
      have hk_0 : (0 : Int32).toInt = 0 := by decide
      exact hj16 0 (by omega) (by omega) _ (lv_sub hl [] rfl)
    · have hc13 : ¬ (v12.toInt ≤ 0) := fun h9 => c9 ((fi_le rfl (by decide)).mpr h9)
      refine lv_iconst (v := 1) hx hb dX5_resultAtOnce_29 (by decide) ?_
      refine lv_goto (tgt := 34) hx hb dX5_resultAtOnce_30 (by decide) ?_
      have hk_1 : (1 : Int32).toInt = 1 := by decide
      exact hj16 1 (by omega) (by omega) _ (lv_sub hl [] rfl)
  refine lv_if_le (tgt := 16) hx hb dX5_resultAtOnce_9 (by decide) (fun c9 => ?_) (fun c9 => ?_)
  · have hc5 : v4.toInt ≤ 0 := (fi_le rfl (by decide)).mp c9
    refine lv_iconst (v := 0) hx hb dX5_resultAtOnce_16 (by decide) ?_
    have hk_0 : (0 : Int32).toInt = 0 := by decide
    exact hj8 0 (by omega) (by omega) _ (lv_sub hl [0, 2] rfl)
  · have hc5 : ¬ (v4.toInt ≤ 0) := fun h9 => c9 ((fi_le rfl (by decide)).mpr h9)
    refine lv_iconst (v := 1) hx hb dX5_resultAtOnce_12 (by decide) ?_
    refine lv_goto (tgt := 17) hx hb dX5_resultAtOnce_13 (by decide) ?_
    have hk_1 : (1 : Int32).toInt = 1 := by decide
    exact hj8 1 (by omega) (by omega) _ (lv_sub hl [0, 2] rfl)
theorem dX5_resultByVerses_0 : decode cX5_resultByVerses 0 = .ok (.aload_n 0, 1) := by decide +kernel
theorem dX5_resultByVerses_1 : decode cX5_resultByVerses 1 = .ok (.iload_n 1, 1) := by decide +kernel
theorem dX5_resultByVerses_2 : decode cX5_resultByVerses 2 = .ok (.iload_n 2, 1) := by decide +kernel
theorem dX5_resultByVerses_3 : decode cX5_resultByVerses 3 = .ok (.invokevirtual 110, 3) := by decide +kernel
theorem dX5_resultByVerses_6 : decode cX5_resultByVerses 6 = .ok (.ifCond .ne 10, 3) := by decide +kernel
theorem dX5_resultByVerses_16 : decode cX5_resultByVerses 16 = .ok (.iconst 0, 1) := by decide +kernel
theorem dX5_resultByVerses_17 : decode cX5_resultByVerses 17 = .ok (.istore 5, 2) := by decide +kernel
theorem dX5_resultByVerses_19 : decode cX5_resultByVerses 19 = .ok (.iload 5, 2) := by decide +kernel
theorem dX5_resultByVerses_21 : decode cX5_resultByVerses 21 = .ok (.bipush 24, 2) := by decide +kernel
theorem dX5_resultByVerses_23 : decode cX5_resultByVerses 23 = .ok (.if_icmp .ge 86, 3) := by decide +kernel
theorem dX5_resultByVerses_109 : decode cX5_resultByVerses 109 = .ok (.iconst 0, 1) := by decide +kernel
theorem dX5_resultByVerses_110 : decode cX5_resultByVerses 110 = .ok (.ireturn, 1) := by decide +kernel
theorem dX5_resultByVerses_26 : decode cX5_resultByVerses 26 = .ok (.aload_n 0, 1) := by decide +kernel
theorem dX5_resultByVerses_27 : decode cX5_resultByVerses 27 = .ok (.getfield 18, 3) := by decide +kernel
theorem dX5_resultByVerses_30 : decode cX5_resultByVerses 30 = .ok (.invokevirtual 75, 3) := by decide +kernel
theorem dX5_resultByVerses_33 : decode cX5_resultByVerses 33 = .ok (.ifCond .eq 76, 3) := by decide +kernel
theorem dX5_resultByVerses_36 : decode cX5_resultByVerses 36 = .ok (.aload_n 0, 1) := by decide +kernel
theorem dX5_resultByVerses_37 : decode cX5_resultByVerses 37 = .ok (.getfield 18, 3) := by decide +kernel
theorem dX5_resultByVerses_40 : decode cX5_resultByVerses 40 = .ok (.getfield 117, 3) := by decide +kernel
theorem dX5_resultByVerses_43 : decode cX5_resultByVerses 43 = .ok (.istore 6, 2) := by decide +kernel
theorem dX5_resultByVerses_45 : decode cX5_resultByVerses 45 = .ok (.iload 6, 2) := by decide +kernel
theorem dX5_resultByVerses_56 : decode cX5_resultByVerses 56 = .ok (.istore 7, 2) := by decide +kernel
theorem dX5_resultByVerses_58 : decode cX5_resultByVerses 58 = .ok (.aload_n 0, 1) := by decide +kernel
theorem dX5_resultByVerses_59 : decode cX5_resultByVerses 59 = .ok (.getfield 38, 3) := by decide +kernel
theorem dX5_resultByVerses_62 : decode cX5_resultByVerses 62 = .ok (.aload_n 0, 1) := by decide +kernel
theorem dX5_resultByVerses_63 : decode cX5_resultByVerses 63 = .ok (.getfield 18, 3) := by decide +kernel
theorem dX5_resultByVerses_66 : decode cX5_resultByVerses 66 = .ok (.iload 7, 2) := by decide +kernel
theorem dX5_resultByVerses_68 : decode cX5_resultByVerses 68 = .ok (.invokevirtual 82, 3) := by decide +kernel
theorem dX5_resultByVerses_71 : decode cX5_resultByVerses 71 = .ok (.ifCond .eq 5, 3) := by decide +kernel
theorem dX5_resultByVerses_76 : decode cX5_resultByVerses 76 = .ok (.aload_n 0, 1) := by decide +kernel
theorem dX5_resultByVerses_77 : decode cX5_resultByVerses 77 = .ok (.getfield 38, 3) := by decide +kernel
theorem dX5_resultByVerses_80 : decode cX5_resultByVerses 80 = .ok (.aload_n 0, 1) := by decide +kernel
theorem dX5_resultByVerses_81 : decode cX5_resultByVerses 81 = .ok (.getfield 18, 3) := by decide +kernel
theorem dX5_resultByVerses_84 : decode cX5_resultByVerses 84 = .ok (.iload 7, 2) := by decide +kernel
theorem dX5_resultByVerses_86 : decode cX5_resultByVerses 86 = .ok (.invokevirtual 92, 3) := by decide +kernel
theorem dX5_resultByVerses_89 : decode cX5_resultByVerses 89 = .ok (.ifCond .ne 14, 3) := by decide +kernel
theorem dX5_resultByVerses_103 : decode cX5_resultByVerses 103 = .ok (.iinc 5 1, 3) := by decide +kernel
theorem dX5_resultByVerses_106 : decode cX5_resultByVerses 106 = .ok (.goto (-87), 3) := by decide +kernel
theorem dX5_resultByVerses_92 : decode cX5_resultByVerses 92 = .ok (.iload 6, 2) := by decide +kernel
theorem dX5_resultByVerses_102 : decode cX5_resultByVerses 102 = .ok (.ireturn, 1) := by decide +kernel
theorem dX5_resultByVerses_94 : decode cX5_resultByVerses 94 = .ok (.ifCond .eq 7, 3) := by decide +kernel
theorem dX5_resultByVerses_101 : decode cX5_resultByVerses 101 = .ok (.iconst 1, 1) := by decide +kernel
theorem dX5_resultByVerses_97 : decode cX5_resultByVerses 97 = .ok (.iconst (-1), 1) := by decide +kernel
theorem dX5_resultByVerses_98 : decode cX5_resultByVerses 98 = .ok (.goto 4, 3) := by decide +kernel
theorem dX5_resultByVerses_74 : decode cX5_resultByVerses 74 = .ok (.iconst 0, 1) := by decide +kernel
theorem dX5_resultByVerses_75 : decode cX5_resultByVerses 75 = .ok (.ireturn, 1) := by decide +kernel
theorem dX5_resultByVerses_47 : decode cX5_resultByVerses 47 = .ok (.ifCond .eq 8, 3) := by decide +kernel
theorem dX5_resultByVerses_55 : decode cX5_resultByVerses 55 = .ok (.iload_n 3, 1) := by decide +kernel
theorem dX5_resultByVerses_50 : decode cX5_resultByVerses 50 = .ok (.iload 4, 2) := by decide +kernel
theorem dX5_resultByVerses_52 : decode cX5_resultByVerses 52 = .ok (.goto 4, 3) := by decide +kernel
theorem dX5_resultByVerses_9 : decode cX5_resultByVerses 9 = .ok (.aload_n 0, 1) := by decide +kernel
theorem dX5_resultByVerses_10 : decode cX5_resultByVerses 10 = .ok (.iload_n 1, 1) := by decide +kernel
theorem dX5_resultByVerses_11 : decode cX5_resultByVerses 11 = .ok (.iload_n 2, 1) := by decide +kernel
theorem dX5_resultByVerses_12 : decode cX5_resultByVerses 12 = .ok (.invokevirtual 114, 3) := by decide +kernel
theorem dX5_resultByVerses_15 : decode cX5_resultByVerses 15 = .ok (.ireturn, 1) := by decide +kernel
set_option maxHeartbeats 4000000 in
set_option maxRecDepth 100000 in
theorem k_X5_resultByVerses (l : Launch) (D : va_G) (cy : Nat → ClassId) (ld : Nat → Nat) (t : tk_T) (a0 : Nat) (p1 : Int32) (p2 : Int32) (p3 : Int32) (p4 : Int32) (ht_a0 : t a0 = (6, 0, 0)) (hp_0 : 0 ≤ p1.toInt) (hp_1 : p1.toInt ≤ 7) (hp_2 : 0 ≤ p2.toInt) (hp_3 : p2.toInt ≤ 7) (hp_4 : 0 ≤ p3.toInt) (hp_5 : p3.toInt ≤ 9) (hp_6 : 0 ≤ p4.toInt) (hp_7 : p4.toInt ≤ 9) : Met l yX5_resultByVerses (wl yX5_resultByVerses cX5_resultByVerses 8 (some .int)) ({ frames := 7, cells := 0, slots := 0, locals := 420 }) (tp D cy ld t [] [.ref a0, .int p1, .int p2, .int p3, .int p4] (fun H => True)) (ti D cy ld t [] (fun r H => (-1) ≤ r.toInt ∧ r.toInt ≤ 1) (tk_w t [(20, 4, 4), (10, 4, 4), (20, 0, 0), (12, 0, 0), (9, 0, 0)])) 0 0 (tk_w t [(20, 4, 4), (10, 4, 4), (20, 0, 0), (12, 0, 0), (9, 0, 0)]) := by
  refine tk_met (y := yX5_resultByVerses) (cc := cX5_resultByVerses) (maxL := 8) (ret := (some .int)) (av := [.ref a0, .int p1, .int p2, .int p3, .int p4]) _ _ (by decide) (Nat.le_of_ble_eq_true rfl) ?_
  intro p e s m args below meth c hx hb hr hml hts htl hown hlocks hK H locs hH hG hS hB hZ ls hl
  have hown : s.vm.findClass RX5 = some m.cls := hown
  have hl : lv_has ls 8 [(0, .ref a0), (1, .int p1), (2, .int p2), (3, .int p3), (4, .int p4)] := hl
  have hr_p1 := tk_rng p1
  have hr_p2 := tk_rng p2
  have hr_p3 := tk_rng p3
  have hr_p4 := tk_rng p4
  refine lv_aload_n hx hb dX5_resultByVerses_0 rfl (lv_at hl 0 rfl) ?_
  refine lv_iload_n hx hb dX5_resultByVerses_1 rfl (lv_at hl 1 rfl) ?_
  refine lv_iload_n hx hb dX5_resultByVerses_2 rfl (lv_at hl 2 rfl) ?_
  refine tk_Vi (As := [.int p1, .int p2]) (rest := []) (ci := 5) ⟨hx, hb, hml, hown, hts⟩ hK hG hZ hS (k_X5_openBout l D cy ld t a0 p1 p2 ht_a0 (by omega) (by omega) (by omega) (by omega)) trivial ⟨callB_of 2 hts (wl_in mw_1346) rfl rfl rfl (htl _ mw_40) (htl _ mw_1343) hd_yX5_openBout ⟨(Nat.le_of_ble_eq_true rfl), (Nat.le_of_ble_eq_true rfl)⟩, htl _ mw_1344, htl _ mw_1345⟩ ht_a0 (by decide) tk_no rfl (tk_w.pick [0, 1] rfl) rfl hl.1 rfl (Nat.le_of_ble_eq_true rfl) dX5_resultByVerses_3 ⟨(Nat.le_of_ble_eq_true rfl), (Nat.le_of_ble_eq_true rfl)⟩ (fun v1 H locs hpo hG hS hq9 => ?_)
  obtain ⟨hpo3, hpo4, hpo5, hpo6⟩ := hpo
  refine lv_if_ne (tgt := 16) hx hb dX5_resultByVerses_6 (by decide) (fun c9 => ?_) (fun c9 => ?_)
  · have hc7 : ¬ (v1.toInt = 0) := fun h9 => c9 ((fi_eq rfl (by decide)).mpr h9)
    refine lv_iconst (v := 0) hx hb dX5_resultByVerses_16 (by decide) ?_
    refine lv_istore (lv' := [(5, .int 0), (0, .ref a0), (1, .int p1), (2, .int p2), (3, .int p3), (4, .int p4)]) hx hb dX5_resultByVerses_17 hl (by decide) rfl (fun ls hl => ?_)
    have hl289 : ∀ (N : Nat) (v8 : Int32) (H : Heap) (locs : List Loc), v8.toInt ≤ 24 → 0 ≤ v8.toInt → (-1) * v8.toInt + 24 < (N : Int) → tk_G D cy ld t [] H → va_S (tk_w t [(20, 4, 4), (10, 4, 4), (20, 0, 0), (12, 0, 0), (9, 0, 0)]) s.heap H locs → ∀ ls : Array Slot, lv_has ls 8 [(5, .int v8), (0, .ref a0), (3, .int p3), (4, .int p4)] → W p l e ({ frames := 7, cells := 0, slots := 0, locals := 420 }) s m args below meth c H locs 0 0 (MQ below (ti D cy ld t [] (fun r H => (-1) ≤ r.toInt ∧ r.toInt ≤ 1) (tk_w t [(20, 4, 4), (10, 4, 4), (20, 0, 0), (12, 0, 0), (9, 0, 0)])) args s 0 0 (tk_w t [(20, 4, 4), (10, 4, 4), (20, 0, 0), (12, 0, 0), (9, 0, 0)])) (F0 m 19 ls []) := by
      intro N
      induction N with
      | zero => intro v8 H locs hq0_l289 hq1_l289 hm_l289 hG hS ls hl; exfalso; omega
      | succ N ih =>
        intro v8 H locs hq0_l289 hq1_l289 hm_l289 hG hS ls hl
        refine lv_iload hx hb dX5_resultByVerses_19 (lv_at hl 0 rfl) ?_
        refine lv_bipush (v := 24) hx hb dX5_resultByVerses_21 (by decide) ?_
        refine lv_icmp_ge (tgt := 109) hx hb dX5_resultByVerses_23 (by decide) (fun c9 => ?_) (fun c9 => ?_)
        · have hc290 : 24 ≤ v8.toInt := (fi_le (by decide) rfl).mp c9
          refine lv_iconst (v := 0) hx hb dX5_resultByVerses_109 (by decide) ?_
          have hk_0 : (0 : Int32).toInt = 0 := by decide
          exact tk_iret (v := 0) hx hb hr rfl hlocks (show (-1) ≤ (0 : Int32).toInt ∧ (0 : Int32).toInt ≤ 1 from ⟨(by omega), (by omega)⟩) hG hS dX5_resultByVerses_110
        · have hc290 : ¬ (24 ≤ v8.toInt) := fun h9 => c9 ((fi_le (by decide) rfl).mpr h9)
          refine lv_aload_n hx hb dX5_resultByVerses_26 rfl (lv_at hl 1 rfl) ?_
          refine tk_get (ci := 5) (C := RX5) (T := TX5) (N := 11) (sp := (8, 21, 10, 4)) hx hb htl inX5 hown hK hG ht_a0 (by decide) tk_no rfl 5 (by decide) (htl _ mw_150) (fun _ h9 => h9) rfl dX5_resultByVerses_27 (fun v9 hf291 hV9 => ?_)
          obtain ⟨rfl, ht_ld21⟩ := hV9
          have ht_ld21 : t (ld 21) = (10, 0, 4) := ht_ld21
          refine fx_top (v := .ref (ld 21)) rfl ?_
          obtain ⟨v9, hf292, hV9⟩ := tk_peek (ci := 9) (C := RX9) (T := TX9) (N := 11) (sp := (0, (-1), 7, 0)) hG ht_ld21 (by decide) tk_no rfl 5 (by decide) rfl
          obtain ⟨v293, rfl, ha_v293, hb_v293⟩ := hV9
          refine tk_Vi (As := []) (rest := []) (ci := 9) ⟨hx, hb, hml, hown, hts⟩ hK hG hZ hS (k_X9_isDuel l D cy ld t 4 (ld 21) v293 ht_ld21 (by omega) (by omega)) hf292 ⟨callB_of 0 hts (wl_in mw_840) rfl rfl rfl (htl _ mw_76) (htl _ mw_1299) hd_yX9_isDuel ⟨(Nat.le_of_ble_eq_true rfl), (Nat.le_of_ble_eq_true rfl)⟩, htl _ mw_838, htl _ mw_839⟩ ht_ld21 (by decide) tk_no rfl (tk_w.pick [] rfl) rfl hl.1 rfl (Nat.le_of_ble_eq_true rfl) dX5_resultByVerses_30 ⟨(Nat.le_of_ble_eq_true rfl), (Nat.le_of_ble_eq_true rfl)⟩ (fun v294 H locs hpo hG hS hq9 => ?_)
          have hf292 := hf292.call hq9 tk_w.nil
          obtain ⟨hpo296, hpo297, hpo298, hpo299, hpo300⟩ := hpo
          refine lv_if_eq (tgt := 109) hx hb dX5_resultByVerses_33 (by decide) (fun c9 => ?_) (fun c9 => ?_)
          · have hc301 : v294.toInt = 0 := (fi_eq rfl (by decide)).mp c9
            refine lv_iconst (v := 0) hx hb dX5_resultByVerses_109 (by decide) ?_
            have hk_0 : (0 : Int32).toInt = 0 := by decide
            exact tk_iret (v := 0) hx hb hr rfl hlocks (show (-1) ≤ (0 : Int32).toInt ∧ (0 : Int32).toInt ≤ 1 from ⟨(by omega), (by omega)⟩) hG hS dX5_resultByVerses_110
          · have hc301 : ¬ (v294.toInt = 0) := fun h9 => c9 ((fi_eq rfl (by decide)).mpr h9)
            refine lv_aload_n hx hb dX5_resultByVerses_36 rfl (lv_at hl 1 rfl) ?_
            refine tk_get (ci := 5) (C := RX5) (T := TX5) (N := 11) (sp := (8, 21, 10, 4)) hx hb htl inX5 hown hK hG ht_a0 (by decide) tk_no rfl 5 (by decide) (htl _ mw_150) (fun _ h9 => h9) rfl dX5_resultByVerses_37 (fun v9 hf302 hV9 => ?_)
            obtain ⟨rfl, ht_ld21⟩ := hV9
            have ht_ld21 : t (ld 21) = (10, 0, 4) := ht_ld21
            refine fx_top (v := .ref (ld 21)) rfl ?_
            refine tk_get (ci := 9) (C := RX9) (T := TX9) (N := 11) (sp := (0, 0, 1, 0)) hx hb htl inX9 hown hK hG ht_ld21 (by decide) tk_no rfl 9 (by decide) (htl _ mw_1342) (fun _ h9 => h9) rfl dX5_resultByVerses_40 (fun v9 hf303 hV9 => ?_)
            obtain ⟨v304, rfl, ha_v304, hb_v304⟩ := hV9
            refine lv_istore (lv' := [(6, .int v304), (5, .int v8), (0, .ref a0), (3, .int p3), (4, .int p4)]) hx hb dX5_resultByVerses_43 hl (by decide) rfl (fun ls hl => ?_)
            refine lv_iload hx hb dX5_resultByVerses_45 (lv_at hl 0 rfl) ?_
            have hj308 : ∀ (v307 : Int32), 0 ≤ v307.toInt → v307.toInt ≤ 9 → ∀ ls : Array Slot, lv_has ls 8 [(6, .int v304), (5, .int v8), (0, .ref a0), (3, .int p3), (4, .int p4)] → W p l e ({ frames := 7, cells := 0, slots := 0, locals := 420 }) s m args below meth c H locs 0 0 (MQ below (ti D cy ld t [] (fun r H => (-1) ≤ r.toInt ∧ r.toInt ≤ 1) (tk_w t [(20, 4, 4), (10, 4, 4), (20, 0, 0), (12, 0, 0), (9, 0, 0)])) args s 0 0 (tk_w t [(20, 4, 4), (10, 4, 4), (20, 0, 0), (12, 0, 0), (9, 0, 0)])) (F0 m 56 ls [.int v307]) := by
              intro v307 hq0_j308 hq1_j308 ls hl
              refine lv_istore (lv' := [(7, .int v307), (6, .int v304), (5, .int v8), (0, .ref a0), (3, .int p3), (4, .int p4)]) hx hb dX5_resultByVerses_56 hl (by decide) rfl (fun ls hl => ?_)
              refine lv_aload_n hx hb dX5_resultByVerses_58 rfl (lv_at hl 3 rfl) ?_
              refine tk_get (ci := 5) (C := RX5) (T := TX5) (N := 11) (sp := (6, 9, 0, 0)) hx hb htl inX5 hown hK hG ht_a0 (by decide) tk_no rfl 1 (by decide) (htl _ mw_156) (fun _ h9 => h9) rfl dX5_resultByVerses_59 (fun v9 hf309 hV9 => ?_)
              obtain ⟨b310, rfl, ht_b310⟩ := hV9
              have ht_b310 : t b310 = (9, 0, 0) := ht_b310
              refine lv_aload_n hx hb dX5_resultByVerses_62 rfl (lv_at hl 3 rfl) ?_
              refine tk_get (ci := 5) (C := RX5) (T := TX5) (N := 11) (sp := (8, 21, 10, 4)) hx hb htl inX5 hown hK hG ht_a0 (by decide) tk_no rfl 5 (by decide) (htl _ mw_150) (fun _ h9 => h9) rfl dX5_resultByVerses_63 (fun v9 hf311 hV9 => ?_)
              obtain ⟨rfl, ht_ld21⟩ := hV9
              have ht_ld21 : t (ld 21) = (10, 0, 4) := ht_ld21
              refine fx_top (v := .ref (ld 21)) rfl ?_
              refine lv_iload hx hb dX5_resultByVerses_66 (lv_at hl 0 rfl) ?_
              refine tk_Vi (As := [.ref (ld 21), .int v307]) (rest := []) (ci := 8) ⟨hx, hb, hml, hown, hts⟩ hK hG hZ hS (k_X8_isBarred l D cy ld t 4 b310 (ld 21) v307 v293 ht_b310 ht_ld21 (by omega) (by omega) (by omega) (by omega)) hf292 ⟨callB_of 2 hts (wl_in mw_901) rfl rfl rfl (htl _ mw_21) (htl _ mw_1300) hd_yX8_isBarred ⟨(Nat.le_of_ble_eq_true rfl), (Nat.le_of_ble_eq_true rfl)⟩, htl _ mw_899, htl _ mw_900⟩ ht_b310 (by decide) tk_no rfl (tk_w.pick [2, 3, 4] rfl) rfl hl.1 rfl (Nat.le_of_ble_eq_true rfl) dX5_resultByVerses_68 ⟨(Nat.le_of_ble_eq_true rfl), (Nat.le_of_ble_eq_true rfl)⟩ (fun v312 H locs hpo hG hS hq9 => ?_)
              have hf292 := hf292.call hq9 (tk_w.no ht_ld21 (by decide))
              obtain ⟨hpo314, hpo315, hpo316, hpo317⟩ := hpo
              refine lv_if_eq (tgt := 76) hx hb dX5_resultByVerses_71 (by decide) (fun c9 => ?_) (fun c9 => ?_)
              · have hc318 : v312.toInt = 0 := (fi_eq rfl (by decide)).mp c9
                refine lv_aload_n hx hb dX5_resultByVerses_76 rfl (lv_at hl 3 rfl) ?_
                refine tk_get (ci := 5) (C := RX5) (T := TX5) (N := 11) (sp := (6, 9, 0, 0)) hx hb htl inX5 hown hK hG ht_a0 (by decide) tk_no rfl 1 (by decide) (htl _ mw_156) (fun _ h9 => h9) rfl dX5_resultByVerses_77 (fun v9 hf319 hV9 => ?_)
                obtain ⟨b320, rfl, ht_b320⟩ := hV9
                have ht_b320 : t b320 = (9, 0, 0) := ht_b320
                refine lv_aload_n hx hb dX5_resultByVerses_80 rfl (lv_at hl 3 rfl) ?_
                refine tk_get (ci := 5) (C := RX5) (T := TX5) (N := 11) (sp := (8, 21, 10, 4)) hx hb htl inX5 hown hK hG ht_a0 (by decide) tk_no rfl 5 (by decide) (htl _ mw_150) (fun _ h9 => h9) rfl dX5_resultByVerses_81 (fun v9 hf321 hV9 => ?_)
                obtain ⟨rfl, ht_ld21⟩ := hV9
                have ht_ld21 : t (ld 21) = (10, 0, 4) := ht_ld21
                refine fx_top (v := .ref (ld 21)) rfl ?_
                refine lv_iload hx hb dX5_resultByVerses_84 (lv_at hl 0 rfl) ?_
                refine tk_Vi (As := [.ref (ld 21), .int v307]) (rest := []) (ci := 8) ⟨hx, hb, hml, hown, hts⟩ hK hG hZ hS (k_X8_singOn l D cy ld t 4 b320 (ld 21) v307 v293 ht_b320 ht_ld21 (by omega) (by omega) (by omega) (by omega)) hf292 ⟨callB_of 2 hts (wl_in mw_946) rfl rfl rfl (htl _ mw_21) (htl _ mw_1301) hd_yX8_singOn ⟨(Nat.le_of_ble_eq_true rfl), (Nat.le_of_ble_eq_true rfl)⟩, htl _ mw_944, htl _ mw_945⟩ ht_b320 (by decide) tk_no rfl (tk_w.pick [2, 3, 4, 0, 1] rfl) rfl hl.1 rfl (Nat.le_of_ble_eq_true rfl) dX5_resultByVerses_86 ⟨(Nat.le_of_ble_eq_true rfl), (Nat.le_of_ble_eq_true rfl)⟩ (fun v322 H locs hpo hG hS hq9 => ?_)
                refine lv_if_ne (tgt := 103) hx hb dX5_resultByVerses_89 (by decide) (fun c9 => ?_) (fun c9 => ?_)
                · have hc324 : ¬ (v322.toInt = 0) := fun h9 => c9 ((fi_eq rfl (by decide)).mpr h9)
                  obtain ⟨v325, h_v325, e_v325⟩ := tk_inc v8 1 (by decide) (by omega) (by omega)
                  refine lv_iinc (v := v325) (lv' := [(5, .int v325), (7, .int v307), (6, .int v304), (0, .ref a0), (3, .int p3), (4, .int p4)]) hx hb dX5_resultByVerses_103 hl (k := 2) rfl e_v325 (by decide) rfl (fun ls hl => ?_)
                  refine lv_goto (tgt := 19) hx hb dX5_resultByVerses_106 (by decide) ?_
                  exact ih v325 _ _ (by omega) (by omega) (by omega) hG hS _ (lv_sub hl [0, 3, 4, 5] rfl)
                · have hc324 : v322.toInt = 0 := (fi_eq rfl (by decide)).mp c9
                  refine lv_iload hx hb dX5_resultByVerses_92 (lv_at hl 1 rfl) ?_
                  have hj329 : ∀ (v328 : Int32), (-1) ≤ v328.toInt → v328.toInt ≤ 1 → ∀ ls : Array Slot, lv_has ls 8 [] → W p l e ({ frames := 7, cells := 0, slots := 0, locals := 420 }) s m args below meth c H locs 0 0 (MQ below (ti D cy ld t [] (fun r H => (-1) ≤ r.toInt ∧ r.toInt ≤ 1) (tk_w t [(20, 4, 4), (10, 4, 4), (20, 0, 0), (12, 0, 0), (9, 0, 0)])) args s 0 0 (tk_w t [(20, 4, 4), (10, 4, 4), (20, 0, 0), (12, 0, 0), (9, 0, 0)])) (F0 m 102 ls [.int v328]) := by
                    intro v328 hq0_j329 hq1_j329 ls hl
                    exact tk_iret (v := v328) hx hb hr rfl hlocks (show (-1) ≤ v328.toInt ∧ v328.toInt ≤ 1 from ⟨(by omega), (by omega)⟩) hG hS dX5_resultByVerses_102
                  refine lv_if_eq (tgt := 101) hx hb dX5_resultByVerses_94 (by decide) (fun c9 => ?_) (fun c9 => ?_)
                  · have hc326 : v304.toInt = 0 := (fi_eq rfl (by decide)).mp c9
                    refine lv_iconst (v := 1) hx hb dX5_resultByVerses_101 (by decide) ?_
                    have hk_1 : (1 : Int32).toInt = 1 := by decide
                    exact hj329 1 (by omega) (by omega) _ (lv_sub hl [] rfl)
                  · have hc326 : ¬ (v304.toInt = 0) := fun h9 => c9 ((fi_eq rfl (by decide)).mpr h9)
                    refine lv_iconst (v := (-1)) hx hb dX5_resultByVerses_97 (by decide) ?_
                    refine lv_goto (tgt := 102) hx hb dX5_resultByVerses_98 (by decide) ?_
                    have hk_m1 : ((-1) : Int32).toInt = (-1) := by decide
                    exact hj329 (-1) (by omega) (by omega) _ (lv_sub hl [] rfl)
              · have hc318 : ¬ (v312.toInt = 0) := fun h9 => c9 ((fi_eq rfl (by decide)).mpr h9)
                refine lv_iconst (v := 0) hx hb dX5_resultByVerses_74 (by decide) ?_
                have hk_0 : (0 : Int32).toInt = 0 := by decide
                exact tk_iret (v := 0) hx hb hr rfl hlocks (show (-1) ≤ (0 : Int32).toInt ∧ (0 : Int32).toInt ≤ 1 from ⟨(by omega), (by omega)⟩) hG hS dX5_resultByVerses_75
            refine lv_if_eq (tgt := 55) hx hb dX5_resultByVerses_47 (by decide) (fun c9 => ?_) (fun c9 => ?_)
            · have hc305 : v304.toInt = 0 := (fi_eq rfl (by decide)).mp c9
              refine lv_iload_n hx hb dX5_resultByVerses_55 rfl (lv_at hl 3 rfl) ?_
              exact hj308 p3 (by omega) (by omega) _ (lv_sub hl [0, 1, 2, 3, 4] rfl)
            · have hc305 : ¬ (v304.toInt = 0) := fun h9 => c9 ((fi_eq rfl (by decide)).mpr h9)
              refine lv_iload hx hb dX5_resultByVerses_50 (lv_at hl 4 rfl) ?_
              refine lv_goto (tgt := 56) hx hb dX5_resultByVerses_52 (by decide) ?_
              exact hj308 p4 (by omega) (by omega) _ (lv_sub hl [0, 1, 2, 3, 4] rfl)
    have hk_0 : (0 : Int32).toInt = 0 := by decide
    exact hl289 25 0 _ _ (by omega) (by omega) (by omega) hG hS _ (lv_sub hl [0, 1, 4, 5] rfl)
  · have hc7 : v1.toInt = 0 := (fi_eq rfl (by decide)).mp c9
    refine lv_aload_n hx hb dX5_resultByVerses_9 rfl (lv_at hl 0 rfl) ?_
    refine lv_iload_n hx hb dX5_resultByVerses_10 rfl (lv_at hl 1 rfl) ?_
    refine lv_iload_n hx hb dX5_resultByVerses_11 rfl (lv_at hl 2 rfl) ?_
    refine tk_Vi (As := [.int p1, .int p2]) (rest := []) (ci := 5) ⟨hx, hb, hml, hown, hts⟩ hK hG hZ hS (k_X5_resultAtOnce l D cy ld t a0 p1 p2 ht_a0 (by omega) (by omega) (by omega) (by omega)) trivial ⟨callB_of 2 hts (wl_in mw_1352) rfl rfl rfl (htl _ mw_40) (htl _ mw_1349) hd_yX5_resultAtOnce ⟨(Nat.le_of_ble_eq_true rfl), (Nat.le_of_ble_eq_true rfl)⟩, htl _ mw_1350, htl _ mw_1351⟩ ht_a0 (by decide) tk_no rfl (tk_w.pick [] rfl) rfl hl.1 rfl (Nat.le_of_ble_eq_true rfl) dX5_resultByVerses_12 ⟨(Nat.le_of_ble_eq_true rfl), (Nat.le_of_ble_eq_true rfl)⟩ (fun v330 H locs hpo hG hS hq9 => ?_)
    obtain ⟨hpo332, hpo333⟩ := hpo
    exact tk_iret (v := v330) hx hb hr rfl hlocks (show (-1) ≤ v330.toInt ∧ v330.toInt ≤ 1 from ⟨(by omega), (by omega)⟩) hG hS dX5_resultByVerses_15
theorem dX5_bestOfWorst_0 : decode cX5_bestOfWorst 0 = .ok (.bipush (-2), 2) := by decide +kernel
theorem dX5_bestOfWorst_2 : decode cX5_bestOfWorst 2 = .ok (.istore 4, 2) := by decide +kernel
theorem dX5_bestOfWorst_4 : decode cX5_bestOfWorst 4 = .ok (.iconst (-1), 1) := by decide +kernel
theorem dX5_bestOfWorst_5 : decode cX5_bestOfWorst 5 = .ok (.istore 5, 2) := by decide +kernel
theorem dX5_bestOfWorst_7 : decode cX5_bestOfWorst 7 = .ok (.iconst 0, 1) := by decide +kernel
theorem dX5_bestOfWorst_8 : decode cX5_bestOfWorst 8 = .ok (.istore 6, 2) := by decide +kernel
theorem dX5_bestOfWorst_10 : decode cX5_bestOfWorst 10 = .ok (.iload 6, 2) := by decide +kernel
theorem dX5_bestOfWorst_12 : decode cX5_bestOfWorst 12 = .ok (.aload_n 0, 1) := by decide +kernel
theorem dX5_bestOfWorst_13 : decode cX5_bestOfWorst 13 = .ok (.getfield 34, 3) := by decide +kernel
theorem dX5_bestOfWorst_16 : decode cX5_bestOfWorst 16 = .ok (.getfield 79, 3) := by decide +kernel
theorem dX5_bestOfWorst_97 : decode cX5_bestOfWorst 97 = .ok (.iload_n 3, 1) := by decide +kernel
theorem dX5_bestOfWorst_108 : decode cX5_bestOfWorst 108 = .ok (.ireturn, 1) := by decide +kernel
theorem dX5_bestOfWorst_98 : decode cX5_bestOfWorst 98 = .ok (.ifCond .eq 8, 3) := by decide +kernel
theorem dX5_bestOfWorst_106 : decode cX5_bestOfWorst 106 = .ok (.iload 4, 2) := by decide +kernel
theorem dX5_bestOfWorst_101 : decode cX5_bestOfWorst 101 = .ok (.iload 5, 2) := by decide +kernel
theorem dX5_bestOfWorst_103 : decode cX5_bestOfWorst 103 = .ok (.goto 5, 3) := by decide +kernel
theorem dX5_bestOfWorst_19 : decode cX5_bestOfWorst 19 = .ok (.if_icmp .ge 78, 3) := by decide +kernel
theorem dX5_bestOfWorst_22 : decode cX5_bestOfWorst 22 = .ok (.iload 4, 2) := by decide +kernel
theorem dX5_bestOfWorst_24 : decode cX5_bestOfWorst 24 = .ok (.iconst 1, 1) := by decide +kernel
theorem dX5_bestOfWorst_25 : decode cX5_bestOfWorst 25 = .ok (.if_icmp .ge 72, 3) := by decide +kernel
theorem dX5_bestOfWorst_28 : decode cX5_bestOfWorst 28 = .ok (.iconst 1, 1) := by decide +kernel
theorem dX5_bestOfWorst_29 : decode cX5_bestOfWorst 29 = .ok (.istore 7, 2) := by decide +kernel
theorem dX5_bestOfWorst_31 : decode cX5_bestOfWorst 31 = .ok (.iconst 0, 1) := by decide +kernel
theorem dX5_bestOfWorst_32 : decode cX5_bestOfWorst 32 = .ok (.istore 8, 2) := by decide +kernel
theorem dX5_bestOfWorst_34 : decode cX5_bestOfWorst 34 = .ok (.iload 8, 2) := by decide +kernel
theorem dX5_bestOfWorst_36 : decode cX5_bestOfWorst 36 = .ok (.aload_n 0, 1) := by decide +kernel
theorem dX5_bestOfWorst_37 : decode cX5_bestOfWorst 37 = .ok (.getfield 34, 3) := by decide +kernel
theorem dX5_bestOfWorst_40 : decode cX5_bestOfWorst 40 = .ok (.getfield 79, 3) := by decide +kernel
theorem dX5_bestOfWorst_76 : decode cX5_bestOfWorst 76 = .ok (.iload 7, 2) := by decide +kernel
theorem dX5_bestOfWorst_78 : decode cX5_bestOfWorst 78 = .ok (.iload 4, 2) := by decide +kernel
theorem dX5_bestOfWorst_91 : decode cX5_bestOfWorst 91 = .ok (.iinc 6 1, 3) := by decide +kernel
theorem dX5_bestOfWorst_94 : decode cX5_bestOfWorst 94 = .ok (.goto (-84), 3) := by decide +kernel
theorem dX5_bestOfWorst_80 : decode cX5_bestOfWorst 80 = .ok (.if_icmp .le 11, 3) := by decide +kernel
theorem dX5_bestOfWorst_83 : decode cX5_bestOfWorst 83 = .ok (.iload 7, 2) := by decide +kernel
theorem dX5_bestOfWorst_85 : decode cX5_bestOfWorst 85 = .ok (.istore 4, 2) := by decide +kernel
theorem dX5_bestOfWorst_87 : decode cX5_bestOfWorst 87 = .ok (.iload 6, 2) := by decide +kernel
theorem dX5_bestOfWorst_89 : decode cX5_bestOfWorst 89 = .ok (.istore 5, 2) := by decide +kernel
theorem dX5_bestOfWorst_43 : decode cX5_bestOfWorst 43 = .ok (.if_icmp .ge 33, 3) := by decide +kernel
theorem dX5_bestOfWorst_46 : decode cX5_bestOfWorst 46 = .ok (.iload 7, 2) := by decide +kernel
theorem dX5_bestOfWorst_48 : decode cX5_bestOfWorst 48 = .ok (.iload 4, 2) := by decide +kernel
theorem dX5_bestOfWorst_50 : decode cX5_bestOfWorst 50 = .ok (.if_icmp .le 26, 3) := by decide +kernel
theorem dX5_bestOfWorst_53 : decode cX5_bestOfWorst 53 = .ok (.iload 7, 2) := by decide +kernel
theorem dX5_bestOfWorst_55 : decode cX5_bestOfWorst 55 = .ok (.aload_n 0, 1) := by decide +kernel
theorem dX5_bestOfWorst_56 : decode cX5_bestOfWorst 56 = .ok (.iload_n 1, 1) := by decide +kernel
theorem dX5_bestOfWorst_57 : decode cX5_bestOfWorst 57 = .ok (.iload_n 2, 1) := by decide +kernel
theorem dX5_bestOfWorst_58 : decode cX5_bestOfWorst 58 = .ok (.iload 6, 2) := by decide +kernel
theorem dX5_bestOfWorst_60 : decode cX5_bestOfWorst 60 = .ok (.iload 8, 2) := by decide +kernel
theorem dX5_bestOfWorst_62 : decode cX5_bestOfWorst 62 = .ok (.invokevirtual 96, 3) := by decide +kernel
theorem dX5_bestOfWorst_65 : decode cX5_bestOfWorst 65 = .ok (.invokestatic 100, 3) := by decide +kernel
theorem dX5_bestOfWorst_68 : decode cX5_bestOfWorst 68 = .ok (.istore 7, 2) := by decide +kernel
theorem dX5_bestOfWorst_70 : decode cX5_bestOfWorst 70 = .ok (.iinc 8 1, 3) := by decide +kernel
theorem dX5_bestOfWorst_73 : decode cX5_bestOfWorst 73 = .ok (.goto (-39), 3) := by decide +kernel
set_option maxHeartbeats 4000000 in
set_option maxRecDepth 100000 in
theorem k_X5_bestOfWorst (l : Launch) (D : va_G) (cy : Nat → ClassId) (ld : Nat → Nat) (t : tk_T) (a0 : Nat) (p1 : Int32) (p2 : Int32) (p3 : Int32) (ht_a0 : t a0 = (6, 0, 0)) (hp_0 : 0 ≤ p1.toInt) (hp_1 : p1.toInt ≤ 7) (hp_2 : 0 ≤ p2.toInt) (hp_3 : p2.toInt ≤ 7) (hp_4 : 0 ≤ p3.toInt) (hp_5 : p3.toInt ≤ 1) : Met l yX5_bestOfWorst (wl yX5_bestOfWorst cX5_bestOfWorst 9 (some .int)) ({ frames := 8, cells := 0, slots := 0, locals := 490 }) (tp D cy ld t [] [.ref a0, .int p1, .int p2, .int p3] (fun H => True)) (ti D cy ld t [] (fun r H => (-2) ≤ r.toInt ∧ r.toInt ≤ 9) (tk_w t [(20, 4, 4), (10, 4, 4), (20, 0, 0), (12, 0, 0), (9, 0, 0)])) 0 0 (tk_w t [(20, 4, 4), (10, 4, 4), (20, 0, 0), (12, 0, 0), (9, 0, 0)]) := by
  refine tk_met (y := yX5_bestOfWorst) (cc := cX5_bestOfWorst) (maxL := 9) (ret := (some .int)) (av := [.ref a0, .int p1, .int p2, .int p3]) _ _ (by decide) (Nat.le_of_ble_eq_true rfl) ?_
  intro p e s m args below meth c hx hb hr hml hts htl hown hlocks hK H locs hH hG hS hB hZ ls hl
  have hown : s.vm.findClass RX5 = some m.cls := hown
  have hl : lv_has ls 9 [(0, .ref a0), (1, .int p1), (2, .int p2), (3, .int p3)] := hl
  have hr_p1 := tk_rng p1
  have hr_p2 := tk_rng p2
  have hr_p3 := tk_rng p3
  refine lv_bipush (v := (-2)) hx hb dX5_bestOfWorst_0 (by decide) ?_
  refine lv_istore (lv' := [(4, .int (-2)), (0, .ref a0), (1, .int p1), (2, .int p2), (3, .int p3)]) hx hb dX5_bestOfWorst_2 hl (by decide) rfl (fun ls hl => ?_)
  refine lv_iconst (v := (-1)) hx hb dX5_bestOfWorst_4 (by decide) ?_
  refine lv_istore (lv' := [(5, .int (-1)), (4, .int (-2)), (0, .ref a0), (1, .int p1), (2, .int p2), (3, .int p3)]) hx hb dX5_bestOfWorst_5 hl (by decide) rfl (fun ls hl => ?_)
  refine lv_iconst (v := 0) hx hb dX5_bestOfWorst_7 (by decide) ?_
  refine lv_istore (lv' := [(6, .int 0), (5, .int (-1)), (4, .int (-2)), (0, .ref a0), (1, .int p1), (2, .int p2), (3, .int p3)]) hx hb dX5_bestOfWorst_8 hl (by decide) rfl (fun ls hl => ?_)
  have hl3231 : ∀ (N : Nat) (v1 : Int32) (v2 : Int32) (v3 : Int32) (H : Heap) (locs : List Loc), v3.toInt ≤ 1 → v1.toInt ≤ 10 → 0 ≤ v2.toInt + (-1) * v3.toInt + 1 → (-1) ≤ v2.toInt → (-2) ≤ v3.toInt → 0 ≤ v1.toInt + (-1) * v2.toInt + (-1) → (-1) * v1.toInt + 10 < (N : Int) → tk_G D cy ld t [] H → va_S (tk_w t [(20, 4, 4), (10, 4, 4), (20, 0, 0), (12, 0, 0), (9, 0, 0)]) s.heap H locs → ∀ ls : Array Slot, lv_has ls 9 [(6, .int v1), (5, .int v2), (4, .int v3), (0, .ref a0), (1, .int p1), (2, .int p2), (3, .int p3)] → W p l e ({ frames := 8, cells := 0, slots := 0, locals := 490 }) s m args below meth c H locs 0 0 (MQ below (ti D cy ld t [] (fun r H => (-2) ≤ r.toInt ∧ r.toInt ≤ 9) (tk_w t [(20, 4, 4), (10, 4, 4), (20, 0, 0), (12, 0, 0), (9, 0, 0)])) args s 0 0 (tk_w t [(20, 4, 4), (10, 4, 4), (20, 0, 0), (12, 0, 0), (9, 0, 0)])) (F0 m 10 ls []) := by
    intro N
    induction N with
    | zero => intro v1 v2 v3 H locs hq0_l3231 hq1_l3231 hq2_l3231 hq3_l3231 hq4_l3231 hq5_l3231 hm_l3231 hG hS ls hl; exfalso; omega
    | succ N ih =>
      intro v1 v2 v3 H locs hq0_l3231 hq1_l3231 hq2_l3231 hq3_l3231 hq4_l3231 hq5_l3231 hm_l3231 hG hS ls hl
      refine lv_iload hx hb dX5_bestOfWorst_10 (lv_at hl 0 rfl) ?_
      refine lv_aload_n hx hb dX5_bestOfWorst_12 rfl (lv_at hl 3 rfl) ?_
      refine tk_get (ci := 5) (C := RX5) (T := TX5) (N := 11) (sp := (8, 20, 3, 0)) hx hb htl inX5 hown hK hG ht_a0 (by decide) tk_no rfl 0 (by decide) (htl _ mw_155) (fun _ h9 => h9) rfl dX5_bestOfWorst_13 (fun v9 hf3232 hV9 => ?_)
      obtain ⟨rfl, ht_ld20⟩ := hV9
      have ht_ld20 : t (ld 20) = (3, 0, 0) := ht_ld20
      refine fx_top (v := .ref (ld 20)) rfl ?_
      refine tk_get (ci := 2) (C := RX2) (T := TX2) (N := 20) (sp := (0, 0, 10, 0)) hx hb htl inX2 hown hK hG ht_ld20 (by decide) tk_no rfl 4 (by decide) (htl _ mw_1297) (fun _ h9 => h9) rfl dX5_bestOfWorst_16 (fun v9 hf3233 hV9 => ?_)
      obtain ⟨v3234, rfl, ha_v3234, hb_v3234⟩ := hV9
      have hj3416 : ∀ (_ : Unit), ∀ ls : Array Slot, lv_has ls 9 [(5, .int v2), (4, .int v3), (3, .int p3)] → W p l e ({ frames := 8, cells := 0, slots := 0, locals := 490 }) s m args below meth c H locs 0 0 (MQ below (ti D cy ld t [] (fun r H => (-2) ≤ r.toInt ∧ r.toInt ≤ 9) (tk_w t [(20, 4, 4), (10, 4, 4), (20, 0, 0), (12, 0, 0), (9, 0, 0)])) args s 0 0 (tk_w t [(20, 4, 4), (10, 4, 4), (20, 0, 0), (12, 0, 0), (9, 0, 0)])) (F0 m 97 ls []) := by
        intro _  ls hl
        refine lv_iload_n hx hb dX5_bestOfWorst_97 rfl (lv_at hl 2 rfl) ?_
        have hj3420 : ∀ (v3419 : Int32), (-2) ≤ v3419.toInt → v3419.toInt ≤ 9 → 0 ≤ v2.toInt + (-1) * v3419.toInt + 1 → 0 ≤ (-1) * v3.toInt + v3419.toInt + 1 → ∀ ls : Array Slot, lv_has ls 9 [] → W p l e ({ frames := 8, cells := 0, slots := 0, locals := 490 }) s m args below meth c H locs 0 0 (MQ below (ti D cy ld t [] (fun r H => (-2) ≤ r.toInt ∧ r.toInt ≤ 9) (tk_w t [(20, 4, 4), (10, 4, 4), (20, 0, 0), (12, 0, 0), (9, 0, 0)])) args s 0 0 (tk_w t [(20, 4, 4), (10, 4, 4), (20, 0, 0), (12, 0, 0), (9, 0, 0)])) (F0 m 108 ls [.int v3419]) := by
          intro v3419 hq0_j3420 hq1_j3420 hq2_j3420 hq3_j3420 ls hl
          exact tk_iret (v := v3419) hx hb hr rfl hlocks (show (-2) ≤ v3419.toInt ∧ v3419.toInt ≤ 9 from ⟨(by omega), (by omega)⟩) hG hS dX5_bestOfWorst_108
        refine lv_if_eq (tgt := 106) hx hb dX5_bestOfWorst_98 (by decide) (fun c9 => ?_) (fun c9 => ?_)
        · have hc3417 : p3.toInt = 0 := (fi_eq rfl (by decide)).mp c9
          refine lv_iload hx hb dX5_bestOfWorst_106 (lv_at hl 1 rfl) ?_
          exact hj3420 v3 (by omega) (by omega) (by omega) (by omega) _ (lv_sub hl [] rfl)
        · have hc3417 : ¬ (p3.toInt = 0) := fun h9 => c9 ((fi_eq rfl (by decide)).mpr h9)
          refine lv_iload hx hb dX5_bestOfWorst_101 (lv_at hl 0 rfl) ?_
          refine lv_goto (tgt := 108) hx hb dX5_bestOfWorst_103 (by decide) ?_
          exact hj3420 v2 (by omega) (by omega) (by omega) (by omega) _ (lv_sub hl [] rfl)
      refine lv_icmp_ge (tgt := 97) hx hb dX5_bestOfWorst_19 (by decide) (fun c9 => ?_) (fun c9 => ?_)
      · have hc3235 : v3234.toInt ≤ v1.toInt := (fi_le rfl rfl).mp c9
        exact hj3416 () _ (lv_sub hl [1, 2, 6] rfl)
      · have hc3235 : ¬ (v3234.toInt ≤ v1.toInt) := fun h9 => c9 ((fi_le rfl rfl).mpr h9)
        refine lv_iload hx hb dX5_bestOfWorst_22 (lv_at hl 2 rfl) ?_
        refine lv_iconst (v := 1) hx hb dX5_bestOfWorst_24 (by decide) ?_
        refine lv_icmp_ge (tgt := 97) hx hb dX5_bestOfWorst_25 (by decide) (fun c9 => ?_) (fun c9 => ?_)
        · have hc3421 : 1 ≤ v3.toInt := (fi_le (by decide) rfl).mp c9
          exact hj3416 () _ (lv_sub hl [1, 2, 6] rfl)
        · have hc3421 : ¬ (1 ≤ v3.toInt) := fun h9 => c9 ((fi_le (by decide) rfl).mpr h9)
          refine lv_iconst (v := 1) hx hb dX5_bestOfWorst_28 (by decide) ?_
          refine lv_istore (lv' := [(7, .int 1), (6, .int v1), (5, .int v2), (4, .int v3), (0, .ref a0), (1, .int p1), (2, .int p2), (3, .int p3)]) hx hb dX5_bestOfWorst_29 hl (by decide) rfl (fun ls hl => ?_)
          refine lv_iconst (v := 0) hx hb dX5_bestOfWorst_31 (by decide) ?_
          refine lv_istore (lv' := [(8, .int 0), (7, .int 1), (6, .int v1), (5, .int v2), (4, .int v3), (0, .ref a0), (1, .int p1), (2, .int p2), (3, .int p3)]) hx hb dX5_bestOfWorst_32 hl (by decide) rfl (fun ls hl => ?_)
          have hl3576 : ∀ (N : Nat) (v3422 : Int32) (v3423 : Int32) (H : Heap) (locs : List Loc), (-1) ≤ v3423.toInt → v3423.toInt ≤ 1 → v3422.toInt ≤ 10 → 0 ≤ v3422.toInt → (-1) * v3422.toInt + 10 < (N : Int) → tk_G D cy ld t [] H → va_S (tk_w t [(20, 4, 4), (10, 4, 4), (20, 0, 0), (12, 0, 0), (9, 0, 0)]) s.heap H locs → tk_f D H (ld 20) 2 4 (.int v3234) → ∀ ls : Array Slot, lv_has ls 9 [(8, .int v3422), (7, .int v3423), (6, .int v1), (5, .int v2), (4, .int v3), (0, .ref a0), (1, .int p1), (2, .int p2), (3, .int p3)] → W p l e ({ frames := 8, cells := 0, slots := 0, locals := 490 }) s m args below meth c H locs 0 0 (MQ below (ti D cy ld t [] (fun r H => (-2) ≤ r.toInt ∧ r.toInt ≤ 9) (tk_w t [(20, 4, 4), (10, 4, 4), (20, 0, 0), (12, 0, 0), (9, 0, 0)])) args s 0 0 (tk_w t [(20, 4, 4), (10, 4, 4), (20, 0, 0), (12, 0, 0), (9, 0, 0)])) (F0 m 34 ls []) := by
            intro N
            induction N with
            | zero => intro v3422 v3423 H locs hq0_l3576 hq1_l3576 hq2_l3576 hq3_l3576 hm_l3576 hG hS hf3233 ls hl; exfalso; omega
            | succ N ih =>
              intro v3422 v3423 H locs hq0_l3576 hq1_l3576 hq2_l3576 hq3_l3576 hm_l3576 hG hS hf3233 ls hl
              refine lv_iload hx hb dX5_bestOfWorst_34 (lv_at hl 0 rfl) ?_
              refine lv_aload_n hx hb dX5_bestOfWorst_36 rfl (lv_at hl 5 rfl) ?_
              refine tk_get (ci := 5) (C := RX5) (T := TX5) (N := 11) (sp := (8, 20, 3, 0)) hx hb htl inX5 hown hK hG ht_a0 (by decide) tk_no rfl 0 (by decide) (htl _ mw_155) (fun _ h9 => h9) rfl dX5_bestOfWorst_37 (fun v9 hf3577 hV9 => ?_)
              obtain ⟨rfl, ht_ld20⟩ := hV9
              have ht_ld20 : t (ld 20) = (3, 0, 0) := ht_ld20
              refine fx_top (v := .ref (ld 20)) rfl ?_
              refine tk_getk (ci := 2) (C := RX2) (T := TX2) (N := 20) (sp := (0, 0, 10, 0)) hx hb htl inX2 hown hK hG ht_ld20 (by decide) tk_no rfl 4 (by decide) (htl _ mw_1297) (fun _ h9 => h9) rfl hf3233 dX5_bestOfWorst_40 ?_
              have hj3586 : ∀ (_ : Unit), ∀ ls : Array Slot, lv_has ls 9 [(7, .int v3423), (6, .int v1), (5, .int v2), (4, .int v3), (0, .ref a0), (1, .int p1), (2, .int p2), (3, .int p3)] → W p l e ({ frames := 8, cells := 0, slots := 0, locals := 490 }) s m args below meth c H locs 0 0 (MQ below (ti D cy ld t [] (fun r H => (-2) ≤ r.toInt ∧ r.toInt ≤ 9) (tk_w t [(20, 4, 4), (10, 4, 4), (20, 0, 0), (12, 0, 0), (9, 0, 0)])) args s 0 0 (tk_w t [(20, 4, 4), (10, 4, 4), (20, 0, 0), (12, 0, 0), (9, 0, 0)])) (F0 m 76 ls []) := by
                intro _  ls hl
                refine lv_iload hx hb dX5_bestOfWorst_76 (lv_at hl 0 rfl) ?_
                refine lv_iload hx hb dX5_bestOfWorst_78 (lv_at hl 3 rfl) ?_
                have hj3592 : ∀ (v3590 : Int32) (v3591 : Int32), v3591.toInt ≤ 1 → 0 ≤ v3590.toInt + (-1) * v3591.toInt + 1 → 0 ≤ v1.toInt + (-1) * v3590.toInt → 0 ≤ (-1) * v2.toInt + v3590.toInt → 0 ≤ v3423.toInt + (-1) * v3591.toInt + 1 → 0 ≤ (-1) * v3423.toInt + v3591.toInt → 0 ≤ (-1) * v3.toInt + v3591.toInt → ∀ ls : Array Slot, lv_has ls 9 [(6, .int v1), (5, .int v3590), (4, .int v3591), (0, .ref a0), (1, .int p1), (2, .int p2), (3, .int p3)] → W p l e ({ frames := 8, cells := 0, slots := 0, locals := 490 }) s m args below meth c H locs 0 0 (MQ below (ti D cy ld t [] (fun r H => (-2) ≤ r.toInt ∧ r.toInt ≤ 9) (tk_w t [(20, 4, 4), (10, 4, 4), (20, 0, 0), (12, 0, 0), (9, 0, 0)])) args s 0 0 (tk_w t [(20, 4, 4), (10, 4, 4), (20, 0, 0), (12, 0, 0), (9, 0, 0)])) (F0 m 91 ls []) := by
                  intro v3590 v3591 hq0_j3592 hq1_j3592 hq2_j3592 hq3_j3592 hq4_j3592 hq5_j3592 hq6_j3592 ls hl
                  obtain ⟨v3593, h_v3593, e_v3593⟩ := tk_inc v1 1 (by decide) (by omega) (by omega)
                  refine lv_iinc (v := v3593) (lv' := [(6, .int v3593), (5, .int v3590), (4, .int v3591), (0, .ref a0), (1, .int p1), (2, .int p2), (3, .int p3)]) hx hb dX5_bestOfWorst_91 hl (k := 0) rfl e_v3593 (by decide) rfl (fun ls hl => ?_)
                  refine lv_goto (tgt := 10) hx hb dX5_bestOfWorst_94 (by decide) ?_
                  exact ih v3593 v3590 v3591 _ _ (by omega) (by omega) (by omega) (by omega) (by omega) (by omega) (by omega) hG hS _ (lv_sub hl [0, 1, 2, 3, 4, 5, 6] rfl)
                refine lv_icmp_le (tgt := 91) hx hb dX5_bestOfWorst_80 (by decide) (fun c9 => ?_) (fun c9 => ?_)
                · have hc3587 : v3423.toInt ≤ v3.toInt := (fi_le rfl rfl).mp c9
                  exact hj3592 v2 v3 (by omega) (by omega) (by omega) (by omega) (by omega) (by omega) (by omega) _ (lv_sub hl [1, 2, 3, 4, 5, 6, 7] rfl)
                · have hc3587 : ¬ (v3423.toInt ≤ v3.toInt) := fun h9 => c9 ((fi_le rfl rfl).mpr h9)
                  refine lv_iload hx hb dX5_bestOfWorst_83 (lv_at hl 0 rfl) ?_
                  refine lv_istore (lv' := [(4, .int v3423), (7, .int v3423), (6, .int v1), (5, .int v2), (0, .ref a0), (1, .int p1), (2, .int p2), (3, .int p3)]) hx hb dX5_bestOfWorst_85 hl (by decide) rfl (fun ls hl => ?_)
                  refine lv_iload hx hb dX5_bestOfWorst_87 (lv_at hl 2 rfl) ?_
                  refine lv_istore (lv' := [(5, .int v1), (4, .int v3423), (7, .int v3423), (6, .int v1), (0, .ref a0), (1, .int p1), (2, .int p2), (3, .int p3)]) hx hb dX5_bestOfWorst_89 hl (by decide) rfl (fun ls hl => ?_)
                  exact hj3592 v1 v3423 (by omega) (by omega) (by omega) (by omega) (by omega) (by omega) (by omega) _ (lv_sub hl [3, 0, 1, 4, 5, 6, 7] rfl)
              refine lv_icmp_ge (tgt := 76) hx hb dX5_bestOfWorst_43 (by decide) (fun c9 => ?_) (fun c9 => ?_)
              · have hc3578 : v3234.toInt ≤ v3422.toInt := (fi_le rfl rfl).mp c9
                exact hj3586 () _ (lv_sub hl [1, 2, 3, 4, 5, 6, 7, 8] rfl)
              · have hc3578 : ¬ (v3234.toInt ≤ v3422.toInt) := fun h9 => c9 ((fi_le rfl rfl).mpr h9)
                refine lv_iload hx hb dX5_bestOfWorst_46 (lv_at hl 1 rfl) ?_
                refine lv_iload hx hb dX5_bestOfWorst_48 (lv_at hl 4 rfl) ?_
                refine lv_icmp_le (tgt := 76) hx hb dX5_bestOfWorst_50 (by decide) (fun c9 => ?_) (fun c9 => ?_)
                · have hc3594 : v3423.toInt ≤ v3.toInt := (fi_le rfl rfl).mp c9
                  exact hj3586 () _ (lv_sub hl [1, 2, 3, 4, 5, 6, 7, 8] rfl)
                · have hc3594 : ¬ (v3423.toInt ≤ v3.toInt) := fun h9 => c9 ((fi_le rfl rfl).mpr h9)
                  refine lv_iload hx hb dX5_bestOfWorst_53 (lv_at hl 1 rfl) ?_
                  refine lv_aload_n hx hb dX5_bestOfWorst_55 rfl (lv_at hl 5 rfl) ?_
                  refine lv_iload_n hx hb dX5_bestOfWorst_56 rfl (lv_at hl 6 rfl) ?_
                  refine lv_iload_n hx hb dX5_bestOfWorst_57 rfl (lv_at hl 7 rfl) ?_
                  refine lv_iload hx hb dX5_bestOfWorst_58 (lv_at hl 2 rfl) ?_
                  refine lv_iload hx hb dX5_bestOfWorst_60 (lv_at hl 0 rfl) ?_
                  refine tk_Vi (As := [.int p1, .int p2, .int v1, .int v3422]) (rest := [.int v3423]) (ci := 5) ⟨hx, hb, hml, hown, hts⟩ hK hG hZ hS (k_X5_resultByVerses l D cy ld t a0 p1 p2 v1 v3422 ht_a0 (by omega) (by omega) (by omega) (by omega) (by omega) (by omega) (by omega) (by omega)) trivial ⟨callB_of 4 hts (wl_in mw_1341) rfl rfl rfl (htl _ mw_40) (htl _ mw_1338) hd_yX5_resultByVerses ⟨(Nat.le_of_ble_eq_true rfl), (Nat.le_of_ble_eq_true rfl)⟩, htl _ mw_1339, htl _ mw_1340⟩ ht_a0 (by decide) tk_no rfl (tk_w.pick [0, 1, 2, 3, 4] rfl) rfl hl.1 rfl (Nat.le_of_ble_eq_true rfl) dX5_bestOfWorst_62 ⟨(Nat.le_of_ble_eq_true rfl), (Nat.le_of_ble_eq_true rfl)⟩ (fun v3595 H locs hpo hG hS hq9 => ?_)
                  have hf3233 := hf3233.call hq9 (tk_w.no ht_ld20 (by decide))
                  obtain ⟨hpo3597, hpo3598⟩ := hpo
                  refine va_mmin hx hb (by rw [hml]; exact hl.1.symm) hown (htl _ mw_1337) (htl _ mw_473) (htl _ mw_474) (htl _ mw_475) (Nat.le_of_ble_eq_true rfl) (Nat.le_of_ble_eq_true rfl) (Nat.le_of_ble_eq_true rfl) (Nat.le_of_ble_eq_true rfl) dX5_bestOfWorst_65 ?_
                  refine tk_say (P := fun z => z.toInt ≤ v3423.toInt ∧ z.toInt ≤ v3595.toInt ∧ (z.toInt = v3423.toInt ∨ z.toInt = v3595.toInt)) (tk_min rfl rfl) (fun v3599 h_v3599 => ?_)
                  refine lv_istore (lv' := [(7, .int v3599), (8, .int v3422), (6, .int v1), (5, .int v2), (4, .int v3), (0, .ref a0), (1, .int p1), (2, .int p2), (3, .int p3)]) hx hb dX5_bestOfWorst_68 hl (by decide) rfl (fun ls hl => ?_)
                  obtain ⟨v3600, h_v3600, e_v3600⟩ := tk_inc v3422 1 (by decide) (by omega) (by omega)
                  refine lv_iinc (v := v3600) (lv' := [(8, .int v3600), (7, .int v3599), (6, .int v1), (5, .int v2), (4, .int v3), (0, .ref a0), (1, .int p1), (2, .int p2), (3, .int p3)]) hx hb dX5_bestOfWorst_70 hl (k := 1) rfl e_v3600 (by decide) rfl (fun ls hl => ?_)
                  refine lv_goto (tgt := 34) hx hb dX5_bestOfWorst_73 (by decide) ?_
                  exact ih v3600 v3599 _ _ (by omega) (by omega) (by omega) (by omega) (by omega) hG hS hf3233 _ (lv_sub hl [0, 1, 2, 3, 4, 5, 6, 7, 8] rfl)
          have hk_0 : (0 : Int32).toInt = 0 := by decide
          have hk_1 : (1 : Int32).toInt = 1 := by decide
          exact hl3576 11 0 1 _ _ (by omega) (by omega) (by omega) (by omega) (by omega) hG hS hf3233 _ (lv_sub hl [0, 1, 2, 3, 4, 5, 6, 7, 8] rfl)
  have hk_0 : (0 : Int32).toInt = 0 := by decide
  have hk_m1 : ((-1) : Int32).toInt = (-1) := by decide
  have hk_m2 : ((-2) : Int32).toInt = (-2) := by decide
  exact hl3231 11 0 (-1) (-2) _ _ (by omega) (by omega) (by omega) (by omega) (by omega) (by omega) (by omega) hG hS _ (lv_sub hl [0, 1, 2, 3, 4, 5, 6] rfl)
theorem dX5_worstOfBest_0 : decode cX5_worstOfBest 0 = .ok (.iconst 2, 1) := by decide +kernel
theorem dX5_worstOfBest_1 : decode cX5_worstOfBest 1 = .ok (.istore 4, 2) := by decide +kernel
theorem dX5_worstOfBest_3 : decode cX5_worstOfBest 3 = .ok (.iconst (-1), 1) := by decide +kernel
theorem dX5_worstOfBest_4 : decode cX5_worstOfBest 4 = .ok (.istore 5, 2) := by decide +kernel
theorem dX5_worstOfBest_6 : decode cX5_worstOfBest 6 = .ok (.iconst 0, 1) := by decide +kernel
theorem dX5_worstOfBest_7 : decode cX5_worstOfBest 7 = .ok (.istore 6, 2) := by decide +kernel
theorem dX5_worstOfBest_9 : decode cX5_worstOfBest 9 = .ok (.iload 6, 2) := by decide +kernel
theorem dX5_worstOfBest_11 : decode cX5_worstOfBest 11 = .ok (.aload_n 0, 1) := by decide +kernel
theorem dX5_worstOfBest_12 : decode cX5_worstOfBest 12 = .ok (.getfield 34, 3) := by decide +kernel
theorem dX5_worstOfBest_15 : decode cX5_worstOfBest 15 = .ok (.getfield 79, 3) := by decide +kernel
theorem dX5_worstOfBest_96 : decode cX5_worstOfBest 96 = .ok (.iload_n 3, 1) := by decide +kernel
theorem dX5_worstOfBest_107 : decode cX5_worstOfBest 107 = .ok (.ireturn, 1) := by decide +kernel
theorem dX5_worstOfBest_97 : decode cX5_worstOfBest 97 = .ok (.ifCond .eq 8, 3) := by decide +kernel
theorem dX5_worstOfBest_105 : decode cX5_worstOfBest 105 = .ok (.iload 4, 2) := by decide +kernel
theorem dX5_worstOfBest_100 : decode cX5_worstOfBest 100 = .ok (.iload 5, 2) := by decide +kernel
theorem dX5_worstOfBest_102 : decode cX5_worstOfBest 102 = .ok (.goto 5, 3) := by decide +kernel
theorem dX5_worstOfBest_18 : decode cX5_worstOfBest 18 = .ok (.if_icmp .ge 78, 3) := by decide +kernel
theorem dX5_worstOfBest_21 : decode cX5_worstOfBest 21 = .ok (.iload 4, 2) := by decide +kernel
theorem dX5_worstOfBest_23 : decode cX5_worstOfBest 23 = .ok (.iconst (-1), 1) := by decide +kernel
theorem dX5_worstOfBest_24 : decode cX5_worstOfBest 24 = .ok (.if_icmp .le 72, 3) := by decide +kernel
theorem dX5_worstOfBest_27 : decode cX5_worstOfBest 27 = .ok (.iconst (-1), 1) := by decide +kernel
theorem dX5_worstOfBest_28 : decode cX5_worstOfBest 28 = .ok (.istore 7, 2) := by decide +kernel
theorem dX5_worstOfBest_30 : decode cX5_worstOfBest 30 = .ok (.iconst 0, 1) := by decide +kernel
theorem dX5_worstOfBest_31 : decode cX5_worstOfBest 31 = .ok (.istore 8, 2) := by decide +kernel
theorem dX5_worstOfBest_33 : decode cX5_worstOfBest 33 = .ok (.iload 8, 2) := by decide +kernel
theorem dX5_worstOfBest_35 : decode cX5_worstOfBest 35 = .ok (.aload_n 0, 1) := by decide +kernel
theorem dX5_worstOfBest_36 : decode cX5_worstOfBest 36 = .ok (.getfield 34, 3) := by decide +kernel
theorem dX5_worstOfBest_39 : decode cX5_worstOfBest 39 = .ok (.getfield 79, 3) := by decide +kernel
theorem dX5_worstOfBest_75 : decode cX5_worstOfBest 75 = .ok (.iload 7, 2) := by decide +kernel
theorem dX5_worstOfBest_77 : decode cX5_worstOfBest 77 = .ok (.iload 4, 2) := by decide +kernel
theorem dX5_worstOfBest_90 : decode cX5_worstOfBest 90 = .ok (.iinc 6 1, 3) := by decide +kernel
theorem dX5_worstOfBest_93 : decode cX5_worstOfBest 93 = .ok (.goto (-84), 3) := by decide +kernel
theorem dX5_worstOfBest_79 : decode cX5_worstOfBest 79 = .ok (.if_icmp .ge 11, 3) := by decide +kernel
theorem dX5_worstOfBest_82 : decode cX5_worstOfBest 82 = .ok (.iload 7, 2) := by decide +kernel
theorem dX5_worstOfBest_84 : decode cX5_worstOfBest 84 = .ok (.istore 4, 2) := by decide +kernel
theorem dX5_worstOfBest_86 : decode cX5_worstOfBest 86 = .ok (.iload 6, 2) := by decide +kernel
theorem dX5_worstOfBest_88 : decode cX5_worstOfBest 88 = .ok (.istore 5, 2) := by decide +kernel
theorem dX5_worstOfBest_42 : decode cX5_worstOfBest 42 = .ok (.if_icmp .ge 33, 3) := by decide +kernel
theorem dX5_worstOfBest_45 : decode cX5_worstOfBest 45 = .ok (.iload 7, 2) := by decide +kernel
theorem dX5_worstOfBest_47 : decode cX5_worstOfBest 47 = .ok (.iload 4, 2) := by decide +kernel
theorem dX5_worstOfBest_49 : decode cX5_worstOfBest 49 = .ok (.if_icmp .ge 26, 3) := by decide +kernel
theorem dX5_worstOfBest_52 : decode cX5_worstOfBest 52 = .ok (.iload 7, 2) := by decide +kernel
theorem dX5_worstOfBest_54 : decode cX5_worstOfBest 54 = .ok (.aload_n 0, 1) := by decide +kernel
theorem dX5_worstOfBest_55 : decode cX5_worstOfBest 55 = .ok (.iload_n 1, 1) := by decide +kernel
theorem dX5_worstOfBest_56 : decode cX5_worstOfBest 56 = .ok (.iload_n 2, 1) := by decide +kernel
theorem dX5_worstOfBest_57 : decode cX5_worstOfBest 57 = .ok (.iload 8, 2) := by decide +kernel
theorem dX5_worstOfBest_59 : decode cX5_worstOfBest 59 = .ok (.iload 6, 2) := by decide +kernel
theorem dX5_worstOfBest_61 : decode cX5_worstOfBest 61 = .ok (.invokevirtual 96, 3) := by decide +kernel
theorem dX5_worstOfBest_64 : decode cX5_worstOfBest 64 = .ok (.invokestatic 88, 3) := by decide +kernel
theorem dX5_worstOfBest_67 : decode cX5_worstOfBest 67 = .ok (.istore 7, 2) := by decide +kernel
theorem dX5_worstOfBest_69 : decode cX5_worstOfBest 69 = .ok (.iinc 8 1, 3) := by decide +kernel
theorem dX5_worstOfBest_72 : decode cX5_worstOfBest 72 = .ok (.goto (-39), 3) := by decide +kernel
set_option maxHeartbeats 4000000 in
set_option maxRecDepth 100000 in
theorem k_X5_worstOfBest (l : Launch) (D : va_G) (cy : Nat → ClassId) (ld : Nat → Nat) (t : tk_T) (a0 : Nat) (p1 : Int32) (p2 : Int32) (p3 : Int32) (ht_a0 : t a0 = (6, 0, 0)) (hp_0 : 0 ≤ p1.toInt) (hp_1 : p1.toInt ≤ 7) (hp_2 : 0 ≤ p2.toInt) (hp_3 : p2.toInt ≤ 7) (hp_4 : 0 ≤ p3.toInt) (hp_5 : p3.toInt ≤ 1) : Met l yX5_worstOfBest (wl yX5_worstOfBest cX5_worstOfBest 9 (some .int)) ({ frames := 8, cells := 0, slots := 0, locals := 490 }) (tp D cy ld t [] [.ref a0, .int p1, .int p2, .int p3] (fun H => True)) (ti D cy ld t [] (fun r H => (-1) ≤ r.toInt ∧ r.toInt ≤ 9) (tk_w t [(20, 4, 4), (10, 4, 4), (20, 0, 0), (12, 0, 0), (9, 0, 0)])) 0 0 (tk_w t [(20, 4, 4), (10, 4, 4), (20, 0, 0), (12, 0, 0), (9, 0, 0)]) := by
  refine tk_met (y := yX5_worstOfBest) (cc := cX5_worstOfBest) (maxL := 9) (ret := (some .int)) (av := [.ref a0, .int p1, .int p2, .int p3]) _ _ (by decide) (Nat.le_of_ble_eq_true rfl) ?_
  intro p e s m args below meth c hx hb hr hml hts htl hown hlocks hK H locs hH hG hS hB hZ ls hl
  have hown : s.vm.findClass RX5 = some m.cls := hown
  have hl : lv_has ls 9 [(0, .ref a0), (1, .int p1), (2, .int p2), (3, .int p3)] := hl
  have hr_p1 := tk_rng p1
  have hr_p2 := tk_rng p2
  have hr_p3 := tk_rng p3
  refine lv_iconst (v := 2) hx hb dX5_worstOfBest_0 (by decide) ?_
  refine lv_istore (lv' := [(4, .int 2), (0, .ref a0), (1, .int p1), (2, .int p2), (3, .int p3)]) hx hb dX5_worstOfBest_1 hl (by decide) rfl (fun ls hl => ?_)
  refine lv_iconst (v := (-1)) hx hb dX5_worstOfBest_3 (by decide) ?_
  refine lv_istore (lv' := [(5, .int (-1)), (4, .int 2), (0, .ref a0), (1, .int p1), (2, .int p2), (3, .int p3)]) hx hb dX5_worstOfBest_4 hl (by decide) rfl (fun ls hl => ?_)
  refine lv_iconst (v := 0) hx hb dX5_worstOfBest_6 (by decide) ?_
  refine lv_istore (lv' := [(6, .int 0), (5, .int (-1)), (4, .int 2), (0, .ref a0), (1, .int p1), (2, .int p2), (3, .int p3)]) hx hb dX5_worstOfBest_7 hl (by decide) rfl (fun ls hl => ?_)
  have hl2892 : ∀ (N : Nat) (v1 : Int32) (v2 : Int32) (v3 : Int32) (H : Heap) (locs : List Loc), (-1) ≤ v3.toInt → v1.toInt ≤ 10 → (-1) ≤ v2.toInt → v3.toInt ≤ 2 → 0 ≤ v1.toInt + (-1) * v2.toInt + (-1) → (-1) * v1.toInt + 10 < (N : Int) → tk_G D cy ld t [] H → va_S (tk_w t [(20, 4, 4), (10, 4, 4), (20, 0, 0), (12, 0, 0), (9, 0, 0)]) s.heap H locs → ∀ ls : Array Slot, lv_has ls 9 [(6, .int v1), (5, .int v2), (4, .int v3), (0, .ref a0), (1, .int p1), (2, .int p2), (3, .int p3)] → W p l e ({ frames := 8, cells := 0, slots := 0, locals := 490 }) s m args below meth c H locs 0 0 (MQ below (ti D cy ld t [] (fun r H => (-1) ≤ r.toInt ∧ r.toInt ≤ 9) (tk_w t [(20, 4, 4), (10, 4, 4), (20, 0, 0), (12, 0, 0), (9, 0, 0)])) args s 0 0 (tk_w t [(20, 4, 4), (10, 4, 4), (20, 0, 0), (12, 0, 0), (9, 0, 0)])) (F0 m 9 ls []) := by
    intro N
    induction N with
    | zero => intro v1 v2 v3 H locs hq0_l2892 hq1_l2892 hq2_l2892 hq3_l2892 hq4_l2892 hm_l2892 hG hS ls hl; exfalso; omega
    | succ N ih =>
      intro v1 v2 v3 H locs hq0_l2892 hq1_l2892 hq2_l2892 hq3_l2892 hq4_l2892 hm_l2892 hG hS ls hl
      refine lv_iload hx hb dX5_worstOfBest_9 (lv_at hl 0 rfl) ?_
      refine lv_aload_n hx hb dX5_worstOfBest_11 rfl (lv_at hl 3 rfl) ?_
      refine tk_get (ci := 5) (C := RX5) (T := TX5) (N := 11) (sp := (8, 20, 3, 0)) hx hb htl inX5 hown hK hG ht_a0 (by decide) tk_no rfl 0 (by decide) (htl _ mw_155) (fun _ h9 => h9) rfl dX5_worstOfBest_12 (fun v9 hf2893 hV9 => ?_)
      obtain ⟨rfl, ht_ld20⟩ := hV9
      have ht_ld20 : t (ld 20) = (3, 0, 0) := ht_ld20
      refine fx_top (v := .ref (ld 20)) rfl ?_
      refine tk_get (ci := 2) (C := RX2) (T := TX2) (N := 20) (sp := (0, 0, 10, 0)) hx hb htl inX2 hown hK hG ht_ld20 (by decide) tk_no rfl 4 (by decide) (htl _ mw_1297) (fun _ h9 => h9) rfl dX5_worstOfBest_15 (fun v9 hf2894 hV9 => ?_)
      obtain ⟨v2895, rfl, ha_v2895, hb_v2895⟩ := hV9
      have hj3077 : ∀ (_ : Unit), ∀ ls : Array Slot, lv_has ls 9 [(5, .int v2), (4, .int v3), (3, .int p3)] → W p l e ({ frames := 8, cells := 0, slots := 0, locals := 490 }) s m args below meth c H locs 0 0 (MQ below (ti D cy ld t [] (fun r H => (-1) ≤ r.toInt ∧ r.toInt ≤ 9) (tk_w t [(20, 4, 4), (10, 4, 4), (20, 0, 0), (12, 0, 0), (9, 0, 0)])) args s 0 0 (tk_w t [(20, 4, 4), (10, 4, 4), (20, 0, 0), (12, 0, 0), (9, 0, 0)])) (F0 m 96 ls []) := by
        intro _  ls hl
        refine lv_iload_n hx hb dX5_worstOfBest_96 rfl (lv_at hl 2 rfl) ?_
        have hj3081 : ∀ (v3080 : Int32), (-1) ≤ v3080.toInt → v3080.toInt ≤ 9 → ∀ ls : Array Slot, lv_has ls 9 [] → W p l e ({ frames := 8, cells := 0, slots := 0, locals := 490 }) s m args below meth c H locs 0 0 (MQ below (ti D cy ld t [] (fun r H => (-1) ≤ r.toInt ∧ r.toInt ≤ 9) (tk_w t [(20, 4, 4), (10, 4, 4), (20, 0, 0), (12, 0, 0), (9, 0, 0)])) args s 0 0 (tk_w t [(20, 4, 4), (10, 4, 4), (20, 0, 0), (12, 0, 0), (9, 0, 0)])) (F0 m 107 ls [.int v3080]) := by
          intro v3080 hq0_j3081 hq1_j3081 ls hl
          exact tk_iret (v := v3080) hx hb hr rfl hlocks (show (-1) ≤ v3080.toInt ∧ v3080.toInt ≤ 9 from ⟨(by omega), (by omega)⟩) hG hS dX5_worstOfBest_107
        refine lv_if_eq (tgt := 105) hx hb dX5_worstOfBest_97 (by decide) (fun c9 => ?_) (fun c9 => ?_)
        · have hc3078 : p3.toInt = 0 := (fi_eq rfl (by decide)).mp c9
          refine lv_iload hx hb dX5_worstOfBest_105 (lv_at hl 1 rfl) ?_
          exact hj3081 v3 (by omega) (by omega) _ (lv_sub hl [] rfl)
        · have hc3078 : ¬ (p3.toInt = 0) := fun h9 => c9 ((fi_eq rfl (by decide)).mpr h9)
          refine lv_iload hx hb dX5_worstOfBest_100 (lv_at hl 0 rfl) ?_
          refine lv_goto (tgt := 107) hx hb dX5_worstOfBest_102 (by decide) ?_
          exact hj3081 v2 (by omega) (by omega) _ (lv_sub hl [] rfl)
      refine lv_icmp_ge (tgt := 96) hx hb dX5_worstOfBest_18 (by decide) (fun c9 => ?_) (fun c9 => ?_)
      · have hc2896 : v2895.toInt ≤ v1.toInt := (fi_le rfl rfl).mp c9
        exact hj3077 () _ (lv_sub hl [1, 2, 6] rfl)
      · have hc2896 : ¬ (v2895.toInt ≤ v1.toInt) := fun h9 => c9 ((fi_le rfl rfl).mpr h9)
        refine lv_iload hx hb dX5_worstOfBest_21 (lv_at hl 2 rfl) ?_
        refine lv_iconst (v := (-1)) hx hb dX5_worstOfBest_23 (by decide) ?_
        refine lv_icmp_le (tgt := 96) hx hb dX5_worstOfBest_24 (by decide) (fun c9 => ?_) (fun c9 => ?_)
        · have hc3082 : v3.toInt ≤ (-1) := (fi_le rfl (by decide)).mp c9
          exact hj3077 () _ (lv_sub hl [1, 2, 6] rfl)
        · have hc3082 : ¬ (v3.toInt ≤ (-1)) := fun h9 => c9 ((fi_le rfl (by decide)).mpr h9)
          refine lv_iconst (v := (-1)) hx hb dX5_worstOfBest_27 (by decide) ?_
          refine lv_istore (lv' := [(7, .int (-1)), (6, .int v1), (5, .int v2), (4, .int v3), (0, .ref a0), (1, .int p1), (2, .int p2), (3, .int p3)]) hx hb dX5_worstOfBest_28 hl (by decide) rfl (fun ls hl => ?_)
          refine lv_iconst (v := 0) hx hb dX5_worstOfBest_30 (by decide) ?_
          refine lv_istore (lv' := [(8, .int 0), (7, .int (-1)), (6, .int v1), (5, .int v2), (4, .int v3), (0, .ref a0), (1, .int p1), (2, .int p2), (3, .int p3)]) hx hb dX5_worstOfBest_31 hl (by decide) rfl (fun ls hl => ?_)
          have hl3237 : ∀ (N : Nat) (v3083 : Int32) (v3084 : Int32) (H : Heap) (locs : List Loc), (-1) ≤ v3084.toInt → v3084.toInt ≤ 1 → v3083.toInt ≤ 10 → 0 ≤ v3083.toInt + (-1) * v3084.toInt → 0 ≤ v3083.toInt → (-1) * v3083.toInt + 10 < (N : Int) → tk_G D cy ld t [] H → va_S (tk_w t [(20, 4, 4), (10, 4, 4), (20, 0, 0), (12, 0, 0), (9, 0, 0)]) s.heap H locs → tk_f D H (ld 20) 2 4 (.int v2895) → ∀ ls : Array Slot, lv_has ls 9 [(8, .int v3083), (7, .int v3084), (6, .int v1), (5, .int v2), (4, .int v3), (0, .ref a0), (1, .int p1), (2, .int p2), (3, .int p3)] → W p l e ({ frames := 8, cells := 0, slots := 0, locals := 490 }) s m args below meth c H locs 0 0 (MQ below (ti D cy ld t [] (fun r H => (-1) ≤ r.toInt ∧ r.toInt ≤ 9) (tk_w t [(20, 4, 4), (10, 4, 4), (20, 0, 0), (12, 0, 0), (9, 0, 0)])) args s 0 0 (tk_w t [(20, 4, 4), (10, 4, 4), (20, 0, 0), (12, 0, 0), (9, 0, 0)])) (F0 m 33 ls []) := by
            intro N
            induction N with
            | zero => intro v3083 v3084 H locs hq0_l3237 hq1_l3237 hq2_l3237 hq3_l3237 hq4_l3237 hm_l3237 hG hS hf2894 ls hl; exfalso; omega
            | succ N ih =>
              intro v3083 v3084 H locs hq0_l3237 hq1_l3237 hq2_l3237 hq3_l3237 hq4_l3237 hm_l3237 hG hS hf2894 ls hl
              refine lv_iload hx hb dX5_worstOfBest_33 (lv_at hl 0 rfl) ?_
              refine lv_aload_n hx hb dX5_worstOfBest_35 rfl (lv_at hl 5 rfl) ?_
              refine tk_get (ci := 5) (C := RX5) (T := TX5) (N := 11) (sp := (8, 20, 3, 0)) hx hb htl inX5 hown hK hG ht_a0 (by decide) tk_no rfl 0 (by decide) (htl _ mw_155) (fun _ h9 => h9) rfl dX5_worstOfBest_36 (fun v9 hf3238 hV9 => ?_)
              obtain ⟨rfl, ht_ld20⟩ := hV9
              have ht_ld20 : t (ld 20) = (3, 0, 0) := ht_ld20
              refine fx_top (v := .ref (ld 20)) rfl ?_
              refine tk_getk (ci := 2) (C := RX2) (T := TX2) (N := 20) (sp := (0, 0, 10, 0)) hx hb htl inX2 hown hK hG ht_ld20 (by decide) tk_no rfl 4 (by decide) (htl _ mw_1297) (fun _ h9 => h9) rfl hf2894 dX5_worstOfBest_39 ?_
              have hj3247 : ∀ (_ : Unit), ∀ ls : Array Slot, lv_has ls 9 [(7, .int v3084), (6, .int v1), (5, .int v2), (4, .int v3), (0, .ref a0), (1, .int p1), (2, .int p2), (3, .int p3)] → W p l e ({ frames := 8, cells := 0, slots := 0, locals := 490 }) s m args below meth c H locs 0 0 (MQ below (ti D cy ld t [] (fun r H => (-1) ≤ r.toInt ∧ r.toInt ≤ 9) (tk_w t [(20, 4, 4), (10, 4, 4), (20, 0, 0), (12, 0, 0), (9, 0, 0)])) args s 0 0 (tk_w t [(20, 4, 4), (10, 4, 4), (20, 0, 0), (12, 0, 0), (9, 0, 0)])) (F0 m 75 ls []) := by
                intro _  ls hl
                refine lv_iload hx hb dX5_worstOfBest_75 (lv_at hl 0 rfl) ?_
                refine lv_iload hx hb dX5_worstOfBest_77 (lv_at hl 3 rfl) ?_
                have hj3253 : ∀ (v3251 : Int32) (v3252 : Int32), (-1) ≤ v3252.toInt → 0 ≤ v1.toInt + (-1) * v3251.toInt → 0 ≤ (-1) * v2.toInt + v3251.toInt → 0 ≤ v3084.toInt + (-1) * v3252.toInt → 0 ≤ (-1) * v3084.toInt + v3252.toInt + 1 → 0 ≤ v3.toInt + (-1) * v3252.toInt → ∀ ls : Array Slot, lv_has ls 9 [(6, .int v1), (5, .int v3251), (4, .int v3252), (0, .ref a0), (1, .int p1), (2, .int p2), (3, .int p3)] → W p l e ({ frames := 8, cells := 0, slots := 0, locals := 490 }) s m args below meth c H locs 0 0 (MQ below (ti D cy ld t [] (fun r H => (-1) ≤ r.toInt ∧ r.toInt ≤ 9) (tk_w t [(20, 4, 4), (10, 4, 4), (20, 0, 0), (12, 0, 0), (9, 0, 0)])) args s 0 0 (tk_w t [(20, 4, 4), (10, 4, 4), (20, 0, 0), (12, 0, 0), (9, 0, 0)])) (F0 m 90 ls []) := by
                  intro v3251 v3252 hq0_j3253 hq1_j3253 hq2_j3253 hq3_j3253 hq4_j3253 hq5_j3253 ls hl
                  obtain ⟨v3254, h_v3254, e_v3254⟩ := tk_inc v1 1 (by decide) (by omega) (by omega)
                  refine lv_iinc (v := v3254) (lv' := [(6, .int v3254), (5, .int v3251), (4, .int v3252), (0, .ref a0), (1, .int p1), (2, .int p2), (3, .int p3)]) hx hb dX5_worstOfBest_90 hl (k := 0) rfl e_v3254 (by decide) rfl (fun ls hl => ?_)
                  refine lv_goto (tgt := 9) hx hb dX5_worstOfBest_93 (by decide) ?_
                  exact ih v3254 v3251 v3252 _ _ (by omega) (by omega) (by omega) (by omega) (by omega) (by omega) hG hS _ (lv_sub hl [0, 1, 2, 3, 4, 5, 6] rfl)
                refine lv_icmp_ge (tgt := 90) hx hb dX5_worstOfBest_79 (by decide) (fun c9 => ?_) (fun c9 => ?_)
                · have hc3248 : v3.toInt ≤ v3084.toInt := (fi_le rfl rfl).mp c9
                  exact hj3253 v2 v3 (by omega) (by omega) (by omega) (by omega) (by omega) (by omega) _ (lv_sub hl [1, 2, 3, 4, 5, 6, 7] rfl)
                · have hc3248 : ¬ (v3.toInt ≤ v3084.toInt) := fun h9 => c9 ((fi_le rfl rfl).mpr h9)
                  refine lv_iload hx hb dX5_worstOfBest_82 (lv_at hl 0 rfl) ?_
                  refine lv_istore (lv' := [(4, .int v3084), (7, .int v3084), (6, .int v1), (5, .int v2), (0, .ref a0), (1, .int p1), (2, .int p2), (3, .int p3)]) hx hb dX5_worstOfBest_84 hl (by decide) rfl (fun ls hl => ?_)
                  refine lv_iload hx hb dX5_worstOfBest_86 (lv_at hl 2 rfl) ?_
                  refine lv_istore (lv' := [(5, .int v1), (4, .int v3084), (7, .int v3084), (6, .int v1), (0, .ref a0), (1, .int p1), (2, .int p2), (3, .int p3)]) hx hb dX5_worstOfBest_88 hl (by decide) rfl (fun ls hl => ?_)
                  exact hj3253 v1 v3084 (by omega) (by omega) (by omega) (by omega) (by omega) (by omega) _ (lv_sub hl [3, 0, 1, 4, 5, 6, 7] rfl)
              refine lv_icmp_ge (tgt := 75) hx hb dX5_worstOfBest_42 (by decide) (fun c9 => ?_) (fun c9 => ?_)
              · have hc3239 : v2895.toInt ≤ v3083.toInt := (fi_le rfl rfl).mp c9
                exact hj3247 () _ (lv_sub hl [1, 2, 3, 4, 5, 6, 7, 8] rfl)
              · have hc3239 : ¬ (v2895.toInt ≤ v3083.toInt) := fun h9 => c9 ((fi_le rfl rfl).mpr h9)
                refine lv_iload hx hb dX5_worstOfBest_45 (lv_at hl 1 rfl) ?_
                refine lv_iload hx hb dX5_worstOfBest_47 (lv_at hl 4 rfl) ?_
                refine lv_icmp_ge (tgt := 75) hx hb dX5_worstOfBest_49 (by decide) (fun c9 => ?_) (fun c9 => ?_)
                · have hc3255 : v3.toInt ≤ v3084.toInt := (fi_le rfl rfl).mp c9
                  exact hj3247 () _ (lv_sub hl [1, 2, 3, 4, 5, 6, 7, 8] rfl)
                · have hc3255 : ¬ (v3.toInt ≤ v3084.toInt) := fun h9 => c9 ((fi_le rfl rfl).mpr h9)
                  refine lv_iload hx hb dX5_worstOfBest_52 (lv_at hl 1 rfl) ?_
                  refine lv_aload_n hx hb dX5_worstOfBest_54 rfl (lv_at hl 5 rfl) ?_
                  refine lv_iload_n hx hb dX5_worstOfBest_55 rfl (lv_at hl 6 rfl) ?_
                  refine lv_iload_n hx hb dX5_worstOfBest_56 rfl (lv_at hl 7 rfl) ?_
                  refine lv_iload hx hb dX5_worstOfBest_57 (lv_at hl 0 rfl) ?_
                  refine lv_iload hx hb dX5_worstOfBest_59 (lv_at hl 2 rfl) ?_
                  refine tk_Vi (As := [.int p1, .int p2, .int v3083, .int v1]) (rest := [.int v3084]) (ci := 5) ⟨hx, hb, hml, hown, hts⟩ hK hG hZ hS (k_X5_resultByVerses l D cy ld t a0 p1 p2 v3083 v1 ht_a0 (by omega) (by omega) (by omega) (by omega) (by omega) (by omega) (by omega) (by omega)) trivial ⟨callB_of 4 hts (wl_in mw_1341) rfl rfl rfl (htl _ mw_40) (htl _ mw_1338) hd_yX5_resultByVerses ⟨(Nat.le_of_ble_eq_true rfl), (Nat.le_of_ble_eq_true rfl)⟩, htl _ mw_1339, htl _ mw_1340⟩ ht_a0 (by decide) tk_no rfl (tk_w.pick [0, 1, 2, 3, 4] rfl) rfl hl.1 rfl (Nat.le_of_ble_eq_true rfl) dX5_worstOfBest_61 ⟨(Nat.le_of_ble_eq_true rfl), (Nat.le_of_ble_eq_true rfl)⟩ (fun v3256 H locs hpo hG hS hq9 => ?_)
                  have hf2894 := hf2894.call hq9 (tk_w.no ht_ld20 (by decide))
                  obtain ⟨hpo3258, hpo3259⟩ := hpo
                  refine va_mmax hx hb (by rw [hml]; exact hl.1.symm) hown (htl _ mw_1298) (htl _ mw_948) (htl _ mw_474) (htl _ mw_949) (Nat.le_of_ble_eq_true rfl) (Nat.le_of_ble_eq_true rfl) (Nat.le_of_ble_eq_true rfl) (Nat.le_of_ble_eq_true rfl) dX5_worstOfBest_64 ?_
                  refine tk_say (P := fun z => v3084.toInt ≤ z.toInt ∧ v3256.toInt ≤ z.toInt ∧ (z.toInt = v3084.toInt ∨ z.toInt = v3256.toInt)) (tk_max rfl rfl) (fun v3260 h_v3260 => ?_)
                  refine lv_istore (lv' := [(7, .int v3260), (8, .int v3083), (6, .int v1), (5, .int v2), (4, .int v3), (0, .ref a0), (1, .int p1), (2, .int p2), (3, .int p3)]) hx hb dX5_worstOfBest_67 hl (by decide) rfl (fun ls hl => ?_)
                  obtain ⟨v3261, h_v3261, e_v3261⟩ := tk_inc v3083 1 (by decide) (by omega) (by omega)
                  refine lv_iinc (v := v3261) (lv' := [(8, .int v3261), (7, .int v3260), (6, .int v1), (5, .int v2), (4, .int v3), (0, .ref a0), (1, .int p1), (2, .int p2), (3, .int p3)]) hx hb dX5_worstOfBest_69 hl (k := 1) rfl e_v3261 (by decide) rfl (fun ls hl => ?_)
                  refine lv_goto (tgt := 33) hx hb dX5_worstOfBest_72 (by decide) ?_
                  exact ih v3261 v3260 _ _ (by omega) (by omega) (by omega) (by omega) (by omega) (by omega) hG hS hf2894 _ (lv_sub hl [0, 1, 2, 3, 4, 5, 6, 7, 8] rfl)
          have hk_0 : (0 : Int32).toInt = 0 := by decide
          have hk_m1 : ((-1) : Int32).toInt = (-1) := by decide
          exact hl3237 11 0 (-1) _ _ (by omega) (by omega) (by omega) (by omega) (by omega) (by omega) hG hS hf2894 _ (lv_sub hl [0, 1, 2, 3, 4, 5, 6, 7, 8] rfl)
  have hk_0 : (0 : Int32).toInt = 0 := by decide
  have hk_m1 : ((-1) : Int32).toInt = (-1) := by decide
  have hk_2 : (2 : Int32).toInt = 2 := by decide
  exact hl2892 11 0 (-1) 2 _ _ (by omega) (by omega) (by omega) (by omega) (by omega) (by omega) hG hS _ (lv_sub hl [0, 1, 2, 3, 4, 5, 6] rfl)
theorem dX8_howLulls_0 : decode cX8_howLulls 0 = .ok (.aload_n 0, 1) := by decide +kernel
theorem dX8_howLulls_1 : decode cX8_howLulls 1 = .ok (.aload_n 1, 1) := by decide +kernel
theorem dX8_howLulls_2 : decode cX8_howLulls 2 = .ok (.iload_n 2, 1) := by decide +kernel
theorem dX8_howLulls_3 : decode cX8_howLulls 3 = .ok (.invokevirtual 22, 3) := by decide +kernel
theorem dX8_howLulls_6 : decode cX8_howLulls 6 = .ok (.aload_n 0, 1) := by decide +kernel
theorem dX8_howLulls_7 : decode cX8_howLulls 7 = .ok (.invokevirtual 26, 3) := by decide +kernel
theorem dX8_howLulls_10 : decode cX8_howLulls 10 = .ok (.ireturn, 1) := by decide +kernel
set_option maxHeartbeats 4000000 in
set_option maxRecDepth 100000 in
theorem k_X8_howLulls (l : Launch) (D : va_G) (cy : Nat → ClassId) (ld : Nat → Nat) (t : tk_T) (rg1 : Nat) (a0 : Nat) (a1 : Nat) (p2 : Int32) (g0 : Int32) (ht_a0 : t a0 = (9, 0, 0)) (ht_a1 : t a1 = (10, 0, rg1)) (hp_0 : 0 ≤ p2.toInt) (hp_1 : p2.toInt ≤ 9) (hp_2 : 0 ≤ g0.toInt) (hp_3 : g0.toInt ≤ 7) : Met l yX8_howLulls (wl yX8_howLulls cX8_howLulls 3 (some .int)) ({ frames := 6, cells := 0, slots := 0, locals := 350 }) (tp D cy ld t [] [.ref a0, .ref a1, .int p2] (fun H => tk_f D H a1 9 5 (.int g0))) (ti D cy ld t [] (fun r H => True) (tk_w t [(20, 0, 0), (12, 0, 0), (9, 0, 0)])) 0 0 (tk_w t [(20, 0, 0), (12, 0, 0), (9, 0, 0)]) := by
  refine tk_met (y := yX8_howLulls) (cc := cX8_howLulls) (maxL := 3) (ret := (some .int)) (av := [.ref a0, .ref a1, .int p2]) _ _ (by decide) (Nat.le_of_ble_eq_true rfl) ?_
  intro p e s m args below meth c hx hb hr hml hts htl hown hlocks hK H locs hH hG hS hB hZ ls hl
  have hown : s.vm.findClass RX8 = some m.cls := hown
  have hl : lv_has ls 3 [(0, .ref a0), (1, .ref a1), (2, .int p2)] := hl
  have hg_0 := hB
  have hr_p2 := tk_rng p2
  refine lv_aload_n hx hb dX8_howLulls_0 rfl (lv_at hl 0 rfl) ?_
  refine lv_aload_n hx hb dX8_howLulls_1 rfl (lv_at hl 1 rfl) ?_
  refine lv_iload_n hx hb dX8_howLulls_2 rfl (lv_at hl 2 rfl) ?_
  refine tk_Vv (As := [.ref a1, .int p2]) (rest := []) (ci := 8) ⟨hx, hb, hml, hown, hts⟩ hK hG hZ hS (k_X8_setWords l D cy ld t rg1 a0 a1 p2 g0 ht_a0 ht_a1 (by omega) (by omega) (by omega) (by omega)) hg_0 ⟨callB_of 2 hts (wl_in mw_913) rfl rfl rfl (htl _ mw_21) (htl _ mw_910) hd_yX8_setWords ⟨(Nat.le_of_ble_eq_true rfl), (Nat.le_of_ble_eq_true rfl)⟩, htl _ mw_911, htl _ mw_912⟩ ht_a0 (by decide) tk_no rfl (tk_w.pick [0] rfl) rfl hl.1 rfl (Nat.le_of_ble_eq_true rfl) dX8_howLulls_3 ⟨(Nat.le_of_ble_eq_true rfl), (Nat.le_of_ble_eq_true rfl)⟩ (fun H locs hpo hG hS hq9 => ?_)
  have hg_0 := hg_0.call hq9 (tk_w.no ht_a1 (by intro q hq h1 h2 h3; simp only [List.mem_cons, List.not_mem_nil, or_false] at hq; rcases hq with rfl <;> (dsimp only at h1 h2 h3; omega)))
  refine lv_aload_n hx hb dX8_howLulls_6 rfl (lv_at hl 0 rfl) ?_
  refine tk_Vi (As := []) (rest := []) (ci := 8) ⟨hx, hb, hml, hown, hts⟩ hK hG hZ hS (k_X8_lullByWords l D cy ld t a0 ht_a0) trivial ⟨callB_of 0 hts (wl_in mw_957) rfl rfl rfl (htl _ mw_21) (htl _ mw_954) hd_yX8_lullByWords ⟨(Nat.le_of_ble_eq_true rfl), (Nat.le_of_ble_eq_true rfl)⟩, htl _ mw_955, htl _ mw_956⟩ ht_a0 (by decide) tk_no rfl (tk_w.pick [1, 0, 2] rfl) rfl hl.1 rfl (Nat.le_of_ble_eq_true rfl) dX8_howLulls_7 ⟨(Nat.le_of_ble_eq_true rfl), (Nat.le_of_ble_eq_true rfl)⟩ (fun v2 H locs hpo hG hS hq9 => ?_)
  have hg_0 := hg_0.call hq9 (tk_w.no ht_a1 (by intro q hq h1 h2 h3; simp only [List.mem_cons, List.not_mem_nil, or_false] at hq; rcases hq with rfl | rfl | rfl <;> (dsimp only at h1 h2 h3; omega)))
  exact tk_iret (v := v2) hx hb hr rfl hlocks trivial hG hS dX8_howLulls_10
theorem dX5_strongestLull_0 : decode cX5_strongestLull 0 = .ok (.iconst (-1), 1) := by decide +kernel
theorem dX5_strongestLull_1 : decode cX5_strongestLull 1 = .ok (.istore_n 1, 1) := by decide +kernel
theorem dX5_strongestLull_2 : decode cX5_strongestLull 2 = .ok (.iconst (-1), 1) := by decide +kernel
theorem dX5_strongestLull_3 : decode cX5_strongestLull 3 = .ok (.istore_n 2, 1) := by decide +kernel
theorem dX5_strongestLull_4 : decode cX5_strongestLull 4 = .ok (.iconst 0, 1) := by decide +kernel
theorem dX5_strongestLull_5 : decode cX5_strongestLull 5 = .ok (.istore_n 3, 1) := by decide +kernel
theorem dX5_strongestLull_6 : decode cX5_strongestLull 6 = .ok (.iload_n 3, 1) := by decide +kernel
theorem dX5_strongestLull_7 : decode cX5_strongestLull 7 = .ok (.aload_n 0, 1) := by decide +kernel
theorem dX5_strongestLull_8 : decode cX5_strongestLull 8 = .ok (.getfield 34, 3) := by decide +kernel
theorem dX5_strongestLull_11 : decode cX5_strongestLull 11 = .ok (.getfield 79, 3) := by decide +kernel
theorem dX5_strongestLull_14 : decode cX5_strongestLull 14 = .ok (.if_icmp .ge 49, 3) := by decide +kernel
theorem dX5_strongestLull_63 : decode cX5_strongestLull 63 = .ok (.iload_n 1, 1) := by decide +kernel
theorem dX5_strongestLull_64 : decode cX5_strongestLull 64 = .ok (.ireturn, 1) := by decide +kernel
theorem dX5_strongestLull_17 : decode cX5_strongestLull 17 = .ok (.aload_n 0, 1) := by decide +kernel
theorem dX5_strongestLull_18 : decode cX5_strongestLull 18 = .ok (.getfield 38, 3) := by decide +kernel
theorem dX5_strongestLull_21 : decode cX5_strongestLull 21 = .ok (.aload_n 0, 1) := by decide +kernel
theorem dX5_strongestLull_22 : decode cX5_strongestLull 22 = .ok (.getfield 18, 3) := by decide +kernel
theorem dX5_strongestLull_25 : decode cX5_strongestLull 25 = .ok (.iload_n 3, 1) := by decide +kernel
theorem dX5_strongestLull_26 : decode cX5_strongestLull 26 = .ok (.invokevirtual 82, 3) := by decide +kernel
theorem dX5_strongestLull_57 : decode cX5_strongestLull 57 = .ok (.iinc 3 1, 3) := by decide +kernel
theorem dX5_strongestLull_60 : decode cX5_strongestLull 60 = .ok (.goto (-54), 3) := by decide +kernel
theorem dX5_strongestLull_29 : decode cX5_strongestLull 29 = .ok (.ifCond .ne 28, 3) := by decide +kernel
theorem dX5_strongestLull_32 : decode cX5_strongestLull 32 = .ok (.aload_n 0, 1) := by decide +kernel
theorem dX5_strongestLull_33 : decode cX5_strongestLull 33 = .ok (.getfield 38, 3) := by decide +kernel
theorem dX5_strongestLull_36 : decode cX5_strongestLull 36 = .ok (.aload_n 0, 1) := by decide +kernel
theorem dX5_strongestLull_37 : decode cX5_strongestLull 37 = .ok (.getfield 18, 3) := by decide +kernel
theorem dX5_strongestLull_40 : decode cX5_strongestLull 40 = .ok (.iload_n 3, 1) := by decide +kernel
theorem dX5_strongestLull_41 : decode cX5_strongestLull 41 = .ok (.invokevirtual 124, 3) := by decide +kernel
theorem dX5_strongestLull_44 : decode cX5_strongestLull 44 = .ok (.istore 4, 2) := by decide +kernel
theorem dX5_strongestLull_46 : decode cX5_strongestLull 46 = .ok (.iload 4, 2) := by decide +kernel
theorem dX5_strongestLull_48 : decode cX5_strongestLull 48 = .ok (.iload_n 2, 1) := by decide +kernel
theorem dX5_strongestLull_49 : decode cX5_strongestLull 49 = .ok (.if_icmp .le 8, 3) := by decide +kernel
theorem dX5_strongestLull_52 : decode cX5_strongestLull 52 = .ok (.iload 4, 2) := by decide +kernel
theorem dX5_strongestLull_54 : decode cX5_strongestLull 54 = .ok (.istore_n 2, 1) := by decide +kernel
theorem dX5_strongestLull_55 : decode cX5_strongestLull 55 = .ok (.iload_n 3, 1) := by decide +kernel
theorem dX5_strongestLull_56 : decode cX5_strongestLull 56 = .ok (.istore_n 1, 1) := by decide +kernel
set_option maxHeartbeats 4000000 in
set_option maxRecDepth 100000 in
theorem k_X5_strongestLull (l : Launch) (D : va_G) (cy : Nat → ClassId) (ld : Nat → Nat) (t : tk_T) (a0 : Nat) (g0 : Int32) (ht_a0 : t a0 = (6, 0, 0)) (ht_ld21 : t (ld 21) = (10, 0, 4)) (hp_0 : 0 ≤ g0.toInt) (hp_1 : g0.toInt ≤ 7) : Met l yX5_strongestLull (wl yX5_strongestLull cX5_strongestLull 5 (some .int)) ({ frames := 7, cells := 0, slots := 0, locals := 420 }) (tp D cy ld t [] [.ref a0] (fun H => tk_f D H (ld 21) 9 5 (.int g0))) (ti D cy ld t [] (fun r H => (-1) ≤ r.toInt ∧ r.toInt ≤ 9) (tk_w t [(20, 0, 0), (12, 0, 0), (9, 0, 0)])) 0 0 (tk_w t [(20, 0, 0), (12, 0, 0), (9, 0, 0)]) := by
  refine tk_met (y := yX5_strongestLull) (cc := cX5_strongestLull) (maxL := 5) (ret := (some .int)) (av := [.ref a0]) _ _ (by decide) (Nat.le_of_ble_eq_true rfl) ?_
  intro p e s m args below meth c hx hb hr hml hts htl hown hlocks hK H locs hH hG hS hB hZ ls hl
  have hown : s.vm.findClass RX5 = some m.cls := hown
  have hl : lv_has ls 5 [(0, .ref a0)] := hl
  have hg_0 := hB
  refine lv_iconst (v := (-1)) hx hb dX5_strongestLull_0 (by decide) ?_
  refine lv_istore_n (lv' := [(1, .int (-1)), (0, .ref a0)]) hx hb dX5_strongestLull_1 rfl hl (by decide) rfl (fun ls hl => ?_)
  refine lv_iconst (v := (-1)) hx hb dX5_strongestLull_2 (by decide) ?_
  refine lv_istore_n (lv' := [(2, .int (-1)), (1, .int (-1)), (0, .ref a0)]) hx hb dX5_strongestLull_3 rfl hl (by decide) rfl (fun ls hl => ?_)
  refine lv_iconst (v := 0) hx hb dX5_strongestLull_4 (by decide) ?_
  refine lv_istore_n (lv' := [(3, .int 0), (2, .int (-1)), (1, .int (-1)), (0, .ref a0)]) hx hb dX5_strongestLull_5 rfl hl (by decide) rfl (fun ls hl => ?_)
  have hl517 : ∀ (N : Nat) (v1 : Int32) (v2 : Int32) (v3 : Int32) (H : Heap) (locs : List Loc), v1.toInt ≤ 10 → (-1) ≤ v2.toInt → (-1) ≤ v3.toInt → 0 ≤ v1.toInt + (-1) * v3.toInt + (-1) → (-1) * v1.toInt + 10 < (N : Int) → tk_G D cy ld t [] H → va_S (tk_w t [(20, 0, 0), (12, 0, 0), (9, 0, 0)]) s.heap H locs → tk_f D H (ld 21) 9 5 (.int g0) → ∀ ls : Array Slot, lv_has ls 5 [(3, .int v1), (2, .int v2), (1, .int v3), (0, .ref a0)] → W p l e ({ frames := 7, cells := 0, slots := 0, locals := 420 }) s m args below meth c H locs 0 0 (MQ below (ti D cy ld t [] (fun r H => (-1) ≤ r.toInt ∧ r.toInt ≤ 9) (tk_w t [(20, 0, 0), (12, 0, 0), (9, 0, 0)])) args s 0 0 (tk_w t [(20, 0, 0), (12, 0, 0), (9, 0, 0)])) (F0 m 6 ls []) := by
    intro N
    induction N with
    | zero => intro v1 v2 v3 H locs hq0_l517 hq1_l517 hq2_l517 hq3_l517 hm_l517 hG hS hg_0 ls hl; exfalso; omega
    | succ N ih =>
      intro v1 v2 v3 H locs hq0_l517 hq1_l517 hq2_l517 hq3_l517 hm_l517 hG hS hg_0 ls hl
      refine lv_iload_n hx hb dX5_strongestLull_6 rfl (lv_at hl 0 rfl) ?_
      refine lv_aload_n hx hb dX5_strongestLull_7 rfl (lv_at hl 3 rfl) ?_
      refine tk_get (ci := 5) (C := RX5) (T := TX5) (N := 11) (sp := (8, 20, 3, 0)) hx hb htl inX5 hown hK hG ht_a0 (by decide) tk_no rfl 0 (by decide) (htl _ mw_155) (fun _ h9 => h9) rfl dX5_strongestLull_8 (fun v9 hf518 hV9 => ?_)
      obtain ⟨rfl, ht_ld20⟩ := hV9
      have ht_ld20 : t (ld 20) = (3, 0, 0) := ht_ld20
      refine fx_top (v := .ref (ld 20)) rfl ?_
      refine tk_get (ci := 2) (C := RX2) (T := TX2) (N := 20) (sp := (0, 0, 10, 0)) hx hb htl inX2 hown hK hG ht_ld20 (by decide) tk_no rfl 4 (by decide) (htl _ mw_1297) (fun _ h9 => h9) rfl dX5_strongestLull_11 (fun v9 hf519 hV9 => ?_)
      obtain ⟨v520, rfl, ha_v520, hb_v520⟩ := hV9
      refine lv_icmp_ge (tgt := 63) hx hb dX5_strongestLull_14 (by decide) (fun c9 => ?_) (fun c9 => ?_)
      · have hc521 : v520.toInt ≤ v1.toInt := (fi_le rfl rfl).mp c9
        refine lv_iload_n hx hb dX5_strongestLull_63 rfl (lv_at hl 2 rfl) ?_
        exact tk_iret (v := v3) hx hb hr rfl hlocks (show (-1) ≤ v3.toInt ∧ v3.toInt ≤ 9 from ⟨(by omega), (by omega)⟩) hG hS dX5_strongestLull_64
      · have hc521 : ¬ (v520.toInt ≤ v1.toInt) := fun h9 => c9 ((fi_le rfl rfl).mpr h9)
        refine lv_aload_n hx hb dX5_strongestLull_17 rfl (lv_at hl 3 rfl) ?_
        refine tk_get (ci := 5) (C := RX5) (T := TX5) (N := 11) (sp := (6, 9, 0, 0)) hx hb htl inX5 hown hK hG ht_a0 (by decide) tk_no rfl 1 (by decide) (htl _ mw_156) (fun _ h9 => h9) rfl dX5_strongestLull_18 (fun v9 hf552 hV9 => ?_)
        obtain ⟨b553, rfl, ht_b553⟩ := hV9
        have ht_b553 : t b553 = (9, 0, 0) := ht_b553
        refine lv_aload_n hx hb dX5_strongestLull_21 rfl (lv_at hl 3 rfl) ?_
        refine tk_get (ci := 5) (C := RX5) (T := TX5) (N := 11) (sp := (8, 21, 10, 4)) hx hb htl inX5 hown hK hG ht_a0 (by decide) tk_no rfl 5 (by decide) (htl _ mw_150) (fun _ h9 => h9) rfl dX5_strongestLull_22 (fun v9 hf554 hV9 => ?_)
        obtain ⟨rfl, ht_ld21⟩ := hV9
        have ht_ld21 : t (ld 21) = (10, 0, 4) := ht_ld21
        refine fx_top (v := .ref (ld 21)) rfl ?_
        refine lv_iload_n hx hb dX5_strongestLull_25 rfl (lv_at hl 0 rfl) ?_
        refine tk_Vi (As := [.ref (ld 21), .int v1]) (rest := []) (ci := 8) ⟨hx, hb, hml, hown, hts⟩ hK hG hZ hS (k_X8_isBarred l D cy ld t 4 b553 (ld 21) v1 g0 ht_b553 ht_ld21 (by omega) (by omega) (by omega) (by omega)) hg_0 ⟨callB_of 2 hts (wl_in mw_901) rfl rfl rfl (htl _ mw_21) (htl _ mw_1300) hd_yX8_isBarred ⟨(Nat.le_of_ble_eq_true rfl), (Nat.le_of_ble_eq_true rfl)⟩, htl _ mw_899, htl _ mw_900⟩ ht_b553 (by decide) tk_no rfl (tk_w.pick [0, 1, 2] rfl) rfl hl.1 rfl (Nat.le_of_ble_eq_true rfl) dX5_strongestLull_26 ⟨(Nat.le_of_ble_eq_true rfl), (Nat.le_of_ble_eq_true rfl)⟩ (fun v555 H locs hpo hG hS hq9 => ?_)
        have hg_0 := hg_0.call hq9 (tk_w.no ht_ld21 (by decide))
        have hf519 := hf519.call hq9 (tk_w.no ht_ld20 (by decide))
        obtain ⟨hpo557, hpo558, hpo559, hpo560⟩ := hpo
        have hj574 : ∀ (v571 : Int32) (v572 : Int32) (H : Heap) (locs : List Loc), 0 ≤ (-1) * v2.toInt + v571.toInt → 0 ≤ v1.toInt + (-1) * v572.toInt → 0 ≤ (-1) * v3.toInt + v572.toInt → tk_G D cy ld t [] H → va_S (tk_w t [(20, 0, 0), (12, 0, 0), (9, 0, 0)]) s.heap H locs → tk_f D H (ld 21) 9 5 (.int g0) → tk_f D H (ld 20) 2 4 (.int v520) → ∀ ls : Array Slot, lv_has ls 5 [(3, .int v1), (2, .int v571), (1, .int v572), (0, .ref a0)] → W p l e ({ frames := 7, cells := 0, slots := 0, locals := 420 }) s m args below meth c H locs 0 0 (MQ below (ti D cy ld t [] (fun r H => (-1) ≤ r.toInt ∧ r.toInt ≤ 9) (tk_w t [(20, 0, 0), (12, 0, 0), (9, 0, 0)])) args s 0 0 (tk_w t [(20, 0, 0), (12, 0, 0), (9, 0, 0)])) (F0 m 57 ls []) := by
          intro v571 v572 H locs hq0_j574 hq1_j574 hq2_j574 hG hS hg_0 hf519 ls hl
          obtain ⟨v575, h_v575, e_v575⟩ := tk_inc v1 1 (by decide) (by omega) (by omega)
          refine lv_iinc (v := v575) (lv' := [(3, .int v575), (2, .int v571), (1, .int v572), (0, .ref a0)]) hx hb dX5_strongestLull_57 hl (k := 0) rfl e_v575 (by decide) rfl (fun ls hl => ?_)
          refine lv_goto (tgt := 6) hx hb dX5_strongestLull_60 (by decide) ?_
          exact ih v575 v571 v572 _ _ (by omega) (by omega) (by omega) (by omega) (by omega) hG hS hg_0 _ (lv_sub hl [0, 1, 2, 3] rfl)
        refine lv_if_ne (tgt := 57) hx hb dX5_strongestLull_29 (by decide) (fun c9 => ?_) (fun c9 => ?_)
        · have hc561 : ¬ (v555.toInt = 0) := fun h9 => c9 ((fi_eq rfl (by decide)).mpr h9)
          exact hj574 v2 v3 _ _ (by omega) (by omega) (by omega) hG hS hg_0 hf519 _ (lv_sub hl [0, 1, 2, 3] rfl)
        · have hc561 : v555.toInt = 0 := (fi_eq rfl (by decide)).mp c9
          refine lv_aload_n hx hb dX5_strongestLull_32 rfl (lv_at hl 3 rfl) ?_
          refine tk_get (ci := 5) (C := RX5) (T := TX5) (N := 11) (sp := (6, 9, 0, 0)) hx hb htl inX5 hown hK hG ht_a0 (by decide) tk_no rfl 1 (by decide) (htl _ mw_156) (fun _ h9 => h9) rfl dX5_strongestLull_33 (fun v9 hf576 hV9 => ?_)
          obtain ⟨b577, rfl, ht_b577⟩ := hV9
          have ht_b577 : t b577 = (9, 0, 0) := ht_b577
          refine lv_aload_n hx hb dX5_strongestLull_36 rfl (lv_at hl 3 rfl) ?_
          refine tk_get (ci := 5) (C := RX5) (T := TX5) (N := 11) (sp := (8, 21, 10, 4)) hx hb htl inX5 hown hK hG ht_a0 (by decide) tk_no rfl 5 (by decide) (htl _ mw_150) (fun _ h9 => h9) rfl dX5_strongestLull_37 (fun v9 hf578 hV9 => ?_)
          obtain ⟨rfl, ht_ld21⟩ := hV9
          have ht_ld21 : t (ld 21) = (10, 0, 4) := ht_ld21
          refine fx_top (v := .ref (ld 21)) rfl ?_
          refine lv_iload_n hx hb dX5_strongestLull_40 rfl (lv_at hl 0 rfl) ?_
          refine tk_Vi (As := [.ref (ld 21), .int v1]) (rest := []) (ci := 8) ⟨hx, hb, hml, hown, hts⟩ hK hG hZ hS (k_X8_howLulls l D cy ld t 4 b577 (ld 21) v1 g0 ht_b577 ht_ld21 (by omega) (by omega) (by omega) (by omega)) hg_0 ⟨callB_of 2 hts (wl_in mw_1196) rfl rfl rfl (htl _ mw_21) (htl _ mw_1402) hd_yX8_howLulls ⟨(Nat.le_of_ble_eq_true rfl), (Nat.le_of_ble_eq_true rfl)⟩, htl _ mw_1194, htl _ mw_1195⟩ ht_b577 (by decide) tk_no rfl (tk_w.pick [0, 1, 2] rfl) rfl hl.1 rfl (Nat.le_of_ble_eq_true rfl) dX5_strongestLull_41 ⟨(Nat.le_of_ble_eq_true rfl), (Nat.le_of_ble_eq_true rfl)⟩ (fun v579 H locs hpo hG hS hq9 => ?_)
          have hg_0 := hg_0.call hq9 (tk_w.no ht_ld21 (by decide))
          have hf519 := hf519.call hq9 (tk_w.no ht_ld20 (by decide))
          refine lv_istore (lv' := [(4, .int v579), (3, .int v1), (2, .int v2), (1, .int v3), (0, .ref a0)]) hx hb dX5_strongestLull_44 hl (by decide) rfl (fun ls hl => ?_)
          refine lv_iload hx hb dX5_strongestLull_46 (lv_at hl 0 rfl) ?_
          refine lv_iload_n hx hb dX5_strongestLull_48 rfl (lv_at hl 2 rfl) ?_
          refine lv_icmp_le (tgt := 57) hx hb dX5_strongestLull_49 (by decide) (fun c9 => ?_) (fun c9 => ?_)
          · have hc581 : v579.toInt ≤ v2.toInt := (fi_le rfl rfl).mp c9
            exact hj574 v2 v3 _ _ (by omega) (by omega) (by omega) hG hS hg_0 hf519 _ (lv_sub hl [1, 2, 3, 4] rfl)
          · have hc581 : ¬ (v579.toInt ≤ v2.toInt) := fun h9 => c9 ((fi_le rfl rfl).mpr h9)
            refine lv_iload hx hb dX5_strongestLull_52 (lv_at hl 0 rfl) ?_
            refine lv_istore_n (lv' := [(2, .int v579), (4, .int v579), (3, .int v1), (1, .int v3), (0, .ref a0)]) hx hb dX5_strongestLull_54 rfl hl (by decide) rfl (fun ls hl => ?_)
            refine lv_iload_n hx hb dX5_strongestLull_55 rfl (lv_at hl 2 rfl) ?_
            refine lv_istore_n (lv' := [(1, .int v1), (2, .int v579), (4, .int v579), (3, .int v1), (0, .ref a0)]) hx hb dX5_strongestLull_56 rfl hl (by decide) rfl (fun ls hl => ?_)
            exact hj574 v579 v1 _ _ (by omega) (by omega) (by omega) hG hS hg_0 hf519 _ (lv_sub hl [3, 1, 0, 4] rfl)
  have hk_0 : (0 : Int32).toInt = 0 := by decide
  have hk_m1 : ((-1) : Int32).toInt = (-1) := by decide
  have hk_m1 : ((-1) : Int32).toInt = (-1) := by decide
  exact hl517 11 0 (-1) (-1) _ _ (by omega) (by omega) (by omega) (by omega) (by omega) hG hS hg_0 _ (lv_sub hl [0, 1, 2, 3] rfl)
theorem dX5_resultByRule_0 : decode cX5_resultByRule 0 = .ok (.aload_n 0, 1) := by decide +kernel
theorem dX5_resultByRule_1 : decode cX5_resultByRule 1 = .ok (.iload_n 1, 1) := by decide +kernel
theorem dX5_resultByRule_2 : decode cX5_resultByRule 2 = .ok (.iload_n 2, 1) := by decide +kernel
theorem dX5_resultByRule_3 : decode cX5_resultByRule 3 = .ok (.invokevirtual 110, 3) := by decide +kernel
theorem dX5_resultByRule_6 : decode cX5_resultByRule 6 = .ok (.ifCond .ne 10, 3) := by decide +kernel
theorem dX5_resultByRule_16 : decode cX5_resultByRule 16 = .ok (.iconst 0, 1) := by decide +kernel
theorem dX5_resultByRule_17 : decode cX5_resultByRule 17 = .ok (.istore_n 3, 1) := by decide +kernel
theorem dX5_resultByRule_18 : decode cX5_resultByRule 18 = .ok (.iload_n 3, 1) := by decide +kernel
theorem dX5_resultByRule_19 : decode cX5_resultByRule 19 = .ok (.bipush 24, 2) := by decide +kernel
theorem dX5_resultByRule_21 : decode cX5_resultByRule 21 = .ok (.if_icmp .ge 69, 3) := by decide +kernel
theorem dX5_resultByRule_90 : decode cX5_resultByRule 90 = .ok (.iconst 0, 1) := by decide +kernel
theorem dX5_resultByRule_91 : decode cX5_resultByRule 91 = .ok (.ireturn, 1) := by decide +kernel
theorem dX5_resultByRule_24 : decode cX5_resultByRule 24 = .ok (.aload_n 0, 1) := by decide +kernel
theorem dX5_resultByRule_25 : decode cX5_resultByRule 25 = .ok (.getfield 18, 3) := by decide +kernel
theorem dX5_resultByRule_28 : decode cX5_resultByRule 28 = .ok (.invokevirtual 75, 3) := by decide +kernel
theorem dX5_resultByRule_31 : decode cX5_resultByRule 31 = .ok (.ifCond .eq 59, 3) := by decide +kernel
theorem dX5_resultByRule_34 : decode cX5_resultByRule 34 = .ok (.aload_n 0, 1) := by decide +kernel
theorem dX5_resultByRule_35 : decode cX5_resultByRule 35 = .ok (.getfield 18, 3) := by decide +kernel
theorem dX5_resultByRule_38 : decode cX5_resultByRule 38 = .ok (.getfield 117, 3) := by decide +kernel
theorem dX5_resultByRule_41 : decode cX5_resultByRule 41 = .ok (.istore 4, 2) := by decide +kernel
theorem dX5_resultByRule_43 : decode cX5_resultByRule 43 = .ok (.aload_n 0, 1) := by decide +kernel
theorem dX5_resultByRule_44 : decode cX5_resultByRule 44 = .ok (.invokevirtual 121, 3) := by decide +kernel
theorem dX5_resultByRule_47 : decode cX5_resultByRule 47 = .ok (.istore 5, 2) := by decide +kernel
theorem dX5_resultByRule_49 : decode cX5_resultByRule 49 = .ok (.iload 5, 2) := by decide +kernel
theorem dX5_resultByRule_51 : decode cX5_resultByRule 51 = .ok (.iconst (-1), 1) := by decide +kernel
theorem dX5_resultByRule_52 : decode cX5_resultByRule 52 = .ok (.if_icmp .ne 5, 3) := by decide +kernel
theorem dX5_resultByRule_57 : decode cX5_resultByRule 57 = .ok (.aload_n 0, 1) := by decide +kernel
theorem dX5_resultByRule_58 : decode cX5_resultByRule 58 = .ok (.getfield 38, 3) := by decide +kernel
theorem dX5_resultByRule_61 : decode cX5_resultByRule 61 = .ok (.aload_n 0, 1) := by decide +kernel
theorem dX5_resultByRule_62 : decode cX5_resultByRule 62 = .ok (.getfield 18, 3) := by decide +kernel
theorem dX5_resultByRule_65 : decode cX5_resultByRule 65 = .ok (.iload 5, 2) := by decide +kernel
theorem dX5_resultByRule_67 : decode cX5_resultByRule 67 = .ok (.invokevirtual 92, 3) := by decide +kernel
theorem dX5_resultByRule_70 : decode cX5_resultByRule 70 = .ok (.ifCond .ne 14, 3) := by decide +kernel
theorem dX5_resultByRule_84 : decode cX5_resultByRule 84 = .ok (.iinc 3 1, 3) := by decide +kernel
theorem dX5_resultByRule_87 : decode cX5_resultByRule 87 = .ok (.goto (-69), 3) := by decide +kernel
theorem dX5_resultByRule_73 : decode cX5_resultByRule 73 = .ok (.iload 4, 2) := by decide +kernel
theorem dX5_resultByRule_83 : decode cX5_resultByRule 83 = .ok (.ireturn, 1) := by decide +kernel
theorem dX5_resultByRule_75 : decode cX5_resultByRule 75 = .ok (.ifCond .eq 7, 3) := by decide +kernel
theorem dX5_resultByRule_82 : decode cX5_resultByRule 82 = .ok (.iconst 1, 1) := by decide +kernel
theorem dX5_resultByRule_78 : decode cX5_resultByRule 78 = .ok (.iconst (-1), 1) := by decide +kernel
theorem dX5_resultByRule_79 : decode cX5_resultByRule 79 = .ok (.goto 4, 3) := by decide +kernel
theorem dX5_resultByRule_55 : decode cX5_resultByRule 55 = .ok (.iconst 0, 1) := by decide +kernel
theorem dX5_resultByRule_56 : decode cX5_resultByRule 56 = .ok (.ireturn, 1) := by decide +kernel
theorem dX5_resultByRule_9 : decode cX5_resultByRule 9 = .ok (.aload_n 0, 1) := by decide +kernel
theorem dX5_resultByRule_10 : decode cX5_resultByRule 10 = .ok (.iload_n 1, 1) := by decide +kernel
theorem dX5_resultByRule_11 : decode cX5_resultByRule 11 = .ok (.iload_n 2, 1) := by decide +kernel
theorem dX5_resultByRule_12 : decode cX5_resultByRule 12 = .ok (.invokevirtual 114, 3) := by decide +kernel
theorem dX5_resultByRule_15 : decode cX5_resultByRule 15 = .ok (.ireturn, 1) := by decide +kernel
set_option maxHeartbeats 4000000 in
set_option maxRecDepth 100000 in
theorem k_X5_resultByRule (l : Launch) (D : va_G) (cy : Nat → ClassId) (ld : Nat → Nat) (t : tk_T) (a0 : Nat) (p1 : Int32) (p2 : Int32) (ht_a0 : t a0 = (6, 0, 0)) (hp_0 : 0 ≤ p1.toInt) (hp_1 : p1.toInt ≤ 7) (hp_2 : 0 ≤ p2.toInt) (hp_3 : p2.toInt ≤ 7) : Met l yX5_resultByRule (wl yX5_resultByRule cX5_resultByRule 6 (some .int)) ({ frames := 8, cells := 0, slots := 0, locals := 490 }) (tp D cy ld t [] [.ref a0, .int p1, .int p2] (fun H => True)) (ti D cy ld t [] (fun r H => (-1) ≤ r.toInt ∧ r.toInt ≤ 1) (tk_w t [(20, 4, 4), (10, 4, 4), (20, 0, 0), (12, 0, 0), (9, 0, 0)])) 0 0 (tk_w t [(20, 4, 4), (10, 4, 4), (20, 0, 0), (12, 0, 0), (9, 0, 0)]) := by
  refine tk_met (y := yX5_resultByRule) (cc := cX5_resultByRule) (maxL := 6) (ret := (some .int)) (av := [.ref a0, .int p1, .int p2]) _ _ (by decide) (Nat.le_of_ble_eq_true rfl) ?_
  intro p e s m args below meth c hx hb hr hml hts htl hown hlocks hK H locs hH hG hS hB hZ ls hl
  have hown : s.vm.findClass RX5 = some m.cls := hown
  have hl : lv_has ls 6 [(0, .ref a0), (1, .int p1), (2, .int p2)] := hl
  have hr_p1 := tk_rng p1
  have hr_p2 := tk_rng p2
  refine lv_aload_n hx hb dX5_resultByRule_0 rfl (lv_at hl 0 rfl) ?_
  refine lv_iload_n hx hb dX5_resultByRule_1 rfl (lv_at hl 1 rfl) ?_
  refine lv_iload_n hx hb dX5_resultByRule_2 rfl (lv_at hl 2 rfl) ?_
  refine tk_Vi (As := [.int p1, .int p2]) (rest := []) (ci := 5) ⟨hx, hb, hml, hown, hts⟩ hK hG hZ hS (k_X5_openBout l D cy ld t a0 p1 p2 ht_a0 (by omega) (by omega) (by omega) (by omega)) trivial ⟨callB_of 2 hts (wl_in mw_1346) rfl rfl rfl (htl _ mw_40) (htl _ mw_1343) hd_yX5_openBout ⟨(Nat.le_of_ble_eq_true rfl), (Nat.le_of_ble_eq_true rfl)⟩, htl _ mw_1344, htl _ mw_1345⟩ ht_a0 (by decide) tk_no rfl (tk_w.pick [0, 1] rfl) rfl hl.1 rfl (Nat.le_of_ble_eq_true rfl) dX5_resultByRule_3 ⟨(Nat.le_of_ble_eq_true rfl), (Nat.le_of_ble_eq_true rfl)⟩ (fun v1 H locs hpo hG hS hq9 => ?_)
  obtain ⟨hpo3, hpo4, hpo5, hpo6⟩ := hpo
  refine lv_if_ne (tgt := 16) hx hb dX5_resultByRule_6 (by decide) (fun c9 => ?_) (fun c9 => ?_)
  · have hc7 : ¬ (v1.toInt = 0) := fun h9 => c9 ((fi_eq rfl (by decide)).mpr h9)
    refine lv_iconst (v := 0) hx hb dX5_resultByRule_16 (by decide) ?_
    refine lv_istore_n (lv' := [(3, .int 0), (0, .ref a0), (1, .int p1), (2, .int p2)]) hx hb dX5_resultByRule_17 rfl hl (by decide) rfl (fun ls hl => ?_)
    have hl226 : ∀ (N : Nat) (v8 : Int32) (H : Heap) (locs : List Loc), v8.toInt ≤ 24 → 0 ≤ v8.toInt → (-1) * v8.toInt + 24 < (N : Int) → tk_G D cy ld t [] H → va_S (tk_w t [(20, 4, 4), (10, 4, 4), (20, 0, 0), (12, 0, 0), (9, 0, 0)]) s.heap H locs → ∀ ls : Array Slot, lv_has ls 6 [(3, .int v8), (0, .ref a0)] → W p l e ({ frames := 8, cells := 0, slots := 0, locals := 490 }) s m args below meth c H locs 0 0 (MQ below (ti D cy ld t [] (fun r H => (-1) ≤ r.toInt ∧ r.toInt ≤ 1) (tk_w t [(20, 4, 4), (10, 4, 4), (20, 0, 0), (12, 0, 0), (9, 0, 0)])) args s 0 0 (tk_w t [(20, 4, 4), (10, 4, 4), (20, 0, 0), (12, 0, 0), (9, 0, 0)])) (F0 m 18 ls []) := by
      intro N
      induction N with
      | zero => intro v8 H locs hq0_l226 hq1_l226 hm_l226 hG hS ls hl; exfalso; omega
      | succ N ih =>
        intro v8 H locs hq0_l226 hq1_l226 hm_l226 hG hS ls hl
        refine lv_iload_n hx hb dX5_resultByRule_18 rfl (lv_at hl 0 rfl) ?_
        refine lv_bipush (v := 24) hx hb dX5_resultByRule_19 (by decide) ?_
        refine lv_icmp_ge (tgt := 90) hx hb dX5_resultByRule_21 (by decide) (fun c9 => ?_) (fun c9 => ?_)
        · have hc227 : 24 ≤ v8.toInt := (fi_le (by decide) rfl).mp c9
          refine lv_iconst (v := 0) hx hb dX5_resultByRule_90 (by decide) ?_
          have hk_0 : (0 : Int32).toInt = 0 := by decide
          exact tk_iret (v := 0) hx hb hr rfl hlocks (show (-1) ≤ (0 : Int32).toInt ∧ (0 : Int32).toInt ≤ 1 from ⟨(by omega), (by omega)⟩) hG hS dX5_resultByRule_91
        · have hc227 : ¬ (24 ≤ v8.toInt) := fun h9 => c9 ((fi_le (by decide) rfl).mpr h9)
          refine lv_aload_n hx hb dX5_resultByRule_24 rfl (lv_at hl 1 rfl) ?_
          refine tk_get (ci := 5) (C := RX5) (T := TX5) (N := 11) (sp := (8, 21, 10, 4)) hx hb htl inX5 hown hK hG ht_a0 (by decide) tk_no rfl 5 (by decide) (htl _ mw_150) (fun _ h9 => h9) rfl dX5_resultByRule_25 (fun v9 hf228 hV9 => ?_)
          obtain ⟨rfl, ht_ld21⟩ := hV9
          have ht_ld21 : t (ld 21) = (10, 0, 4) := ht_ld21
          refine fx_top (v := .ref (ld 21)) rfl ?_
          obtain ⟨v9, hf229, hV9⟩ := tk_peek (ci := 9) (C := RX9) (T := TX9) (N := 11) (sp := (0, (-1), 7, 0)) hG ht_ld21 (by decide) tk_no rfl 5 (by decide) rfl
          obtain ⟨v230, rfl, ha_v230, hb_v230⟩ := hV9
          refine tk_Vi (As := []) (rest := []) (ci := 9) ⟨hx, hb, hml, hown, hts⟩ hK hG hZ hS (k_X9_isDuel l D cy ld t 4 (ld 21) v230 ht_ld21 (by omega) (by omega)) hf229 ⟨callB_of 0 hts (wl_in mw_840) rfl rfl rfl (htl _ mw_76) (htl _ mw_1299) hd_yX9_isDuel ⟨(Nat.le_of_ble_eq_true rfl), (Nat.le_of_ble_eq_true rfl)⟩, htl _ mw_838, htl _ mw_839⟩ ht_ld21 (by decide) tk_no rfl (tk_w.pick [] rfl) rfl hl.1 rfl (Nat.le_of_ble_eq_true rfl) dX5_resultByRule_28 ⟨(Nat.le_of_ble_eq_true rfl), (Nat.le_of_ble_eq_true rfl)⟩ (fun v231 H locs hpo hG hS hq9 => ?_)
          have hf229 := hf229.call hq9 tk_w.nil
          obtain ⟨hpo233, hpo234, hpo235, hpo236, hpo237⟩ := hpo
          refine lv_if_eq (tgt := 90) hx hb dX5_resultByRule_31 (by decide) (fun c9 => ?_) (fun c9 => ?_)
          · have hc238 : v231.toInt = 0 := (fi_eq rfl (by decide)).mp c9
            refine lv_iconst (v := 0) hx hb dX5_resultByRule_90 (by decide) ?_
            have hk_0 : (0 : Int32).toInt = 0 := by decide
            exact tk_iret (v := 0) hx hb hr rfl hlocks (show (-1) ≤ (0 : Int32).toInt ∧ (0 : Int32).toInt ≤ 1 from ⟨(by omega), (by omega)⟩) hG hS dX5_resultByRule_91
          · have hc238 : ¬ (v231.toInt = 0) := fun h9 => c9 ((fi_eq rfl (by decide)).mpr h9)
            refine lv_aload_n hx hb dX5_resultByRule_34 rfl (lv_at hl 1 rfl) ?_
            refine tk_get (ci := 5) (C := RX5) (T := TX5) (N := 11) (sp := (8, 21, 10, 4)) hx hb htl inX5 hown hK hG ht_a0 (by decide) tk_no rfl 5 (by decide) (htl _ mw_150) (fun _ h9 => h9) rfl dX5_resultByRule_35 (fun v9 hf239 hV9 => ?_)
            obtain ⟨rfl, ht_ld21⟩ := hV9
            have ht_ld21 : t (ld 21) = (10, 0, 4) := ht_ld21
            refine fx_top (v := .ref (ld 21)) rfl ?_
            refine tk_get (ci := 9) (C := RX9) (T := TX9) (N := 11) (sp := (0, 0, 1, 0)) hx hb htl inX9 hown hK hG ht_ld21 (by decide) tk_no rfl 9 (by decide) (htl _ mw_1342) (fun _ h9 => h9) rfl dX5_resultByRule_38 (fun v9 hf240 hV9 => ?_)
            obtain ⟨v241, rfl, ha_v241, hb_v241⟩ := hV9
            refine lv_istore (lv' := [(4, .int v241), (3, .int v8), (0, .ref a0)]) hx hb dX5_resultByRule_41 hl (by decide) rfl (fun ls hl => ?_)
            refine lv_aload_n hx hb dX5_resultByRule_43 rfl (lv_at hl 2 rfl) ?_
            refine tk_Vi (As := []) (rest := []) (ci := 5) ⟨hx, hb, hml, hown, hts⟩ hK hG hZ hS (k_X5_strongestLull l D cy ld t a0 v230 ht_a0 ht_ld21 (by omega) (by omega)) hf229 ⟨callB_of 0 hts (wl_in mw_1401) rfl rfl rfl (htl _ mw_40) (htl _ mw_1398) hd_yX5_strongestLull ⟨(Nat.le_of_ble_eq_true rfl), (Nat.le_of_ble_eq_true rfl)⟩, htl _ mw_1399, htl _ mw_1400⟩ ht_a0 (by decide) tk_no rfl (tk_w.pick [2, 3, 4] rfl) rfl hl.1 rfl (Nat.le_of_ble_eq_true rfl) dX5_resultByRule_44 ⟨(Nat.le_of_ble_eq_true rfl), (Nat.le_of_ble_eq_true rfl)⟩ (fun v242 H locs hpo hG hS hq9 => ?_)
            have hf229 := hf229.call hq9 (tk_w.no ht_ld21 (by decide))
            obtain ⟨hpo244, hpo245⟩ := hpo
            refine lv_istore (lv' := [(5, .int v242), (4, .int v241), (3, .int v8), (0, .ref a0)]) hx hb dX5_resultByRule_47 hl (by decide) rfl (fun ls hl => ?_)
            refine lv_iload hx hb dX5_resultByRule_49 (lv_at hl 0 rfl) ?_
            refine lv_iconst (v := (-1)) hx hb dX5_resultByRule_51 (by decide) ?_
            refine lv_icmp_ne (tgt := 57) hx hb dX5_resultByRule_52 (by decide) (fun c9 => ?_) (fun c9 => ?_)
            · have hc246 : ¬ (v242.toInt = (-1)) := fun h9 => c9 ((fi_eq rfl (by decide)).mpr h9)
              refine lv_aload_n hx hb dX5_resultByRule_57 rfl (lv_at hl 3 rfl) ?_
              refine tk_get (ci := 5) (C := RX5) (T := TX5) (N := 11) (sp := (6, 9, 0, 0)) hx hb htl inX5 hown hK hG ht_a0 (by decide) tk_no rfl 1 (by decide) (htl _ mw_156) (fun _ h9 => h9) rfl dX5_resultByRule_58 (fun v9 hf247 hV9 => ?_)
              obtain ⟨b248, rfl, ht_b248⟩ := hV9
              have ht_b248 : t b248 = (9, 0, 0) := ht_b248
              refine lv_aload_n hx hb dX5_resultByRule_61 rfl (lv_at hl 3 rfl) ?_
              refine tk_get (ci := 5) (C := RX5) (T := TX5) (N := 11) (sp := (8, 21, 10, 4)) hx hb htl inX5 hown hK hG ht_a0 (by decide) tk_no rfl 5 (by decide) (htl _ mw_150) (fun _ h9 => h9) rfl dX5_resultByRule_62 (fun v9 hf249 hV9 => ?_)
              obtain ⟨rfl, ht_ld21⟩ := hV9
              have ht_ld21 : t (ld 21) = (10, 0, 4) := ht_ld21
              refine fx_top (v := .ref (ld 21)) rfl ?_
              refine lv_iload hx hb dX5_resultByRule_65 (lv_at hl 0 rfl) ?_
              refine tk_Vi (As := [.ref (ld 21), .int v242]) (rest := []) (ci := 8) ⟨hx, hb, hml, hown, hts⟩ hK hG hZ hS (k_X8_singOn l D cy ld t 4 b248 (ld 21) v242 v230 ht_b248 ht_ld21 (by omega) (by omega) (by omega) (by omega)) hf229 ⟨callB_of 2 hts (wl_in mw_946) rfl rfl rfl (htl _ mw_21) (htl _ mw_1301) hd_yX8_singOn ⟨(Nat.le_of_ble_eq_true rfl), (Nat.le_of_ble_eq_true rfl)⟩, htl _ mw_944, htl _ mw_945⟩ ht_b248 (by decide) tk_no rfl (tk_w.pick [2, 3, 4, 0, 1] rfl) rfl hl.1 rfl (Nat.le_of_ble_eq_true rfl) dX5_resultByRule_67 ⟨(Nat.le_of_ble_eq_true rfl), (Nat.le_of_ble_eq_true rfl)⟩ (fun v250 H locs hpo hG hS hq9 => ?_)
              refine lv_if_ne (tgt := 84) hx hb dX5_resultByRule_70 (by decide) (fun c9 => ?_) (fun c9 => ?_)
              · have hc252 : ¬ (v250.toInt = 0) := fun h9 => c9 ((fi_eq rfl (by decide)).mpr h9)
                obtain ⟨v253, h_v253, e_v253⟩ := tk_inc v8 1 (by decide) (by omega) (by omega)
                refine lv_iinc (v := v253) (lv' := [(3, .int v253), (5, .int v242), (4, .int v241), (0, .ref a0)]) hx hb dX5_resultByRule_84 hl (k := 2) rfl e_v253 (by decide) rfl (fun ls hl => ?_)
                refine lv_goto (tgt := 18) hx hb dX5_resultByRule_87 (by decide) ?_
                exact ih v253 _ _ (by omega) (by omega) (by omega) hG hS _ (lv_sub hl [0, 3] rfl)
              · have hc252 : v250.toInt = 0 := (fi_eq rfl (by decide)).mp c9
                refine lv_iload hx hb dX5_resultByRule_73 (lv_at hl 1 rfl) ?_
                have hj257 : ∀ (v256 : Int32), (-1) ≤ v256.toInt → v256.toInt ≤ 1 → ∀ ls : Array Slot, lv_has ls 6 [] → W p l e ({ frames := 8, cells := 0, slots := 0, locals := 490 }) s m args below meth c H locs 0 0 (MQ below (ti D cy ld t [] (fun r H => (-1) ≤ r.toInt ∧ r.toInt ≤ 1) (tk_w t [(20, 4, 4), (10, 4, 4), (20, 0, 0), (12, 0, 0), (9, 0, 0)])) args s 0 0 (tk_w t [(20, 4, 4), (10, 4, 4), (20, 0, 0), (12, 0, 0), (9, 0, 0)])) (F0 m 83 ls [.int v256]) := by
                  intro v256 hq0_j257 hq1_j257 ls hl
                  exact tk_iret (v := v256) hx hb hr rfl hlocks (show (-1) ≤ v256.toInt ∧ v256.toInt ≤ 1 from ⟨(by omega), (by omega)⟩) hG hS dX5_resultByRule_83
                refine lv_if_eq (tgt := 82) hx hb dX5_resultByRule_75 (by decide) (fun c9 => ?_) (fun c9 => ?_)
                · have hc254 : v241.toInt = 0 := (fi_eq rfl (by decide)).mp c9
                  refine lv_iconst (v := 1) hx hb dX5_resultByRule_82 (by decide) ?_
                  have hk_1 : (1 : Int32).toInt = 1 := by decide
                  exact hj257 1 (by omega) (by omega) _ (lv_sub hl [] rfl)
                · have hc254 : ¬ (v241.toInt = 0) := fun h9 => c9 ((fi_eq rfl (by decide)).mpr h9)
                  refine lv_iconst (v := (-1)) hx hb dX5_resultByRule_78 (by decide) ?_
                  refine lv_goto (tgt := 83) hx hb dX5_resultByRule_79 (by decide) ?_
                  have hk_m1 : ((-1) : Int32).toInt = (-1) := by decide
                  exact hj257 (-1) (by omega) (by omega) _ (lv_sub hl [] rfl)
            · have hc246 : v242.toInt = (-1) := (fi_eq rfl (by decide)).mp c9
              refine lv_iconst (v := 0) hx hb dX5_resultByRule_55 (by decide) ?_
              have hk_0 : (0 : Int32).toInt = 0 := by decide
              exact tk_iret (v := 0) hx hb hr rfl hlocks (show (-1) ≤ (0 : Int32).toInt ∧ (0 : Int32).toInt ≤ 1 from ⟨(by omega), (by omega)⟩) hG hS dX5_resultByRule_56
    have hk_0 : (0 : Int32).toInt = 0 := by decide
    exact hl226 25 0 _ _ (by omega) (by omega) (by omega) hG hS _ (lv_sub hl [0, 1] rfl)
  · have hc7 : v1.toInt = 0 := (fi_eq rfl (by decide)).mp c9
    refine lv_aload_n hx hb dX5_resultByRule_9 rfl (lv_at hl 0 rfl) ?_
    refine lv_iload_n hx hb dX5_resultByRule_10 rfl (lv_at hl 1 rfl) ?_
    refine lv_iload_n hx hb dX5_resultByRule_11 rfl (lv_at hl 2 rfl) ?_
    refine tk_Vi (As := [.int p1, .int p2]) (rest := []) (ci := 5) ⟨hx, hb, hml, hown, hts⟩ hK hG hZ hS (k_X5_resultAtOnce l D cy ld t a0 p1 p2 ht_a0 (by omega) (by omega) (by omega) (by omega)) trivial ⟨callB_of 2 hts (wl_in mw_1352) rfl rfl rfl (htl _ mw_40) (htl _ mw_1349) hd_yX5_resultAtOnce ⟨(Nat.le_of_ble_eq_true rfl), (Nat.le_of_ble_eq_true rfl)⟩, htl _ mw_1350, htl _ mw_1351⟩ ht_a0 (by decide) tk_no rfl (tk_w.pick [] rfl) rfl hl.1 rfl (Nat.le_of_ble_eq_true rfl) dX5_resultByRule_12 ⟨(Nat.le_of_ble_eq_true rfl), (Nat.le_of_ble_eq_true rfl)⟩ (fun v258 H locs hpo hG hS hq9 => ?_)
    obtain ⟨hpo260, hpo261⟩ := hpo
    exact tk_iret (v := v258) hx hb hr rfl hlocks (show (-1) ≤ v258.toInt ∧ v258.toInt ≤ 1 from ⟨(by omega), (by omega)⟩) hG hS dX5_resultByRule_15
theorem dX5_chooseFrom_0 : decode cX5_chooseFrom 0 = .ok (.iload_n 1, 1) := by decide +kernel
theorem dX5_chooseFrom_1 : decode cX5_chooseFrom 1 = .ok (.aload_n 0, 1) := by decide +kernel
theorem dX5_chooseFrom_2 : decode cX5_chooseFrom 2 = .ok (.getfield 34, 3) := by decide +kernel
theorem dX5_chooseFrom_5 : decode cX5_chooseFrom 5 = .ok (.getfield 127, 3) := by decide +kernel
theorem dX5_chooseFrom_8 : decode cX5_chooseFrom 8 = .ok (.if_icmp .lt 55, 3) := by decide +kernel
theorem dX5_chooseFrom_11 : decode cX5_chooseFrom 11 = .ok (.iload_n 3, 1) := by decide +kernel
theorem dX5_chooseFrom_12 : decode cX5_chooseFrom 12 = .ok (.aload_n 0, 1) := by decide +kernel
theorem dX5_chooseFrom_13 : decode cX5_chooseFrom 13 = .ok (.getfield 136, 3) := by decide +kernel
theorem dX5_chooseFrom_62 : decode cX5_chooseFrom 62 = .ok (.return_, 1) := by decide +kernel
theorem dX5_chooseFrom_16 : decode cX5_chooseFrom 16 = .ok (.if_icmp .gt 20, 3) := by decide +kernel
theorem dX5_chooseFrom_36 : decode cX5_chooseFrom 36 = .ok (.aload_n 0, 1) := by decide +kernel
theorem dX5_chooseFrom_37 : decode cX5_chooseFrom 37 = .ok (.iload_n 3, 1) := by decide +kernel
theorem dX5_chooseFrom_38 : decode cX5_chooseFrom 38 = .ok (.putfield 136, 3) := by decide +kernel
theorem dX5_chooseFrom_41 : decode cX5_chooseFrom 41 = .ok (.aload_n 0, 1) := by decide +kernel
theorem dX5_chooseFrom_42 : decode cX5_chooseFrom 42 = .ok (.iload 4, 2) := by decide +kernel
theorem dX5_chooseFrom_44 : decode cX5_chooseFrom 44 = .ok (.putfield 139, 3) := by decide +kernel
theorem dX5_chooseFrom_47 : decode cX5_chooseFrom 47 = .ok (.aload_n 0, 1) := by decide +kernel
theorem dX5_chooseFrom_48 : decode cX5_chooseFrom 48 = .ok (.getfield 27, 3) := by decide +kernel
theorem dX5_chooseFrom_51 : decode cX5_chooseFrom 51 = .ok (.iconst 0, 1) := by decide +kernel
theorem dX5_chooseFrom_52 : decode cX5_chooseFrom 52 = .ok (.aload_n 0, 1) := by decide +kernel
theorem dX5_chooseFrom_53 : decode cX5_chooseFrom 53 = .ok (.getfield 31, 3) := by decide +kernel
theorem dX5_chooseFrom_56 : decode cX5_chooseFrom 56 = .ok (.iconst 0, 1) := by decide +kernel
theorem dX5_chooseFrom_57 : decode cX5_chooseFrom 57 = .ok (.bipush 8, 2) := by decide +kernel
theorem dX5_chooseFrom_59 : decode cX5_chooseFrom 59 = .ok (.invokestatic 146, 3) := by decide +kernel
theorem dX5_chooseFrom_19 : decode cX5_chooseFrom 19 = .ok (.iload_n 3, 1) := by decide +kernel
theorem dX5_chooseFrom_20 : decode cX5_chooseFrom 20 = .ok (.aload_n 0, 1) := by decide +kernel
theorem dX5_chooseFrom_21 : decode cX5_chooseFrom 21 = .ok (.getfield 136, 3) := by decide +kernel
theorem dX5_chooseFrom_24 : decode cX5_chooseFrom 24 = .ok (.if_icmp .ne 38, 3) := by decide +kernel
theorem dX5_chooseFrom_27 : decode cX5_chooseFrom 27 = .ok (.iload 4, 2) := by decide +kernel
theorem dX5_chooseFrom_29 : decode cX5_chooseFrom 29 = .ok (.aload_n 0, 1) := by decide +kernel
theorem dX5_chooseFrom_30 : decode cX5_chooseFrom 30 = .ok (.getfield 139, 3) := by decide +kernel
theorem dX5_chooseFrom_33 : decode cX5_chooseFrom 33 = .ok (.if_icmp .ge 29, 3) := by decide +kernel
set_option maxHeartbeats 4000000 in
set_option maxRecDepth 100000 in
theorem k_X5_chooseFrom_8 (l : Launch) (D : va_G) (cy : Nat → ClassId) (ld : Nat → Nat) (t : tk_T) (a0 : Nat) (p2 : Int32) (p3 : Int32) (p4 : Int32) (ht_a0 : t a0 = (6, 0, 0)) : Met l yX5_chooseFrom (wl yX5_chooseFrom cX5_chooseFrom 7 none) ({ frames := 4, cells := 0, slots := 0, locals := 210 }) (tp D cy ld t [] [.ref a0, .int 8, .int p2, .int p3, .int p4] (fun H => True)) (tv D cy ld t [] (fun H => True) (tk_w t [(6, 0, 0), (20, 0, 0)])) 0 0 (tk_w t [(6, 0, 0), (20, 0, 0)]) := by
  refine tk_met (y := yX5_chooseFrom) (cc := cX5_chooseFrom) (maxL := 7) (ret := none) (av := [.ref a0, .int 8, .int p2, .int p3, .int p4]) _ _ (by decide) (Nat.le_of_ble_eq_true rfl) ?_
  intro p e s m args below meth c hx hb hr hml hts htl hown hlocks hK H locs hH hG hS hB hZ ls hl
  have hown : s.vm.findClass RX5 = some m.cls := hown
  have hl : lv_has ls 7 [(0, .ref a0), (1, .int 8), (2, .int p2), (3, .int p3), (4, .int p4)] := hl
  have hr_p2 := tk_rng p2
  have hr_p3 := tk_rng p3
  have hr_p4 := tk_rng p4
  refine lv_iload_n hx hb dX5_chooseFrom_0 rfl (lv_at hl 1 rfl) ?_
  refine lv_aload_n hx hb dX5_chooseFrom_1 rfl (lv_at hl 0 rfl) ?_
  refine tk_get (ci := 5) (C := RX5) (T := TX5) (N := 11) (sp := (8, 20, 3, 0)) hx hb htl inX5 hown hK hG ht_a0 (by decide) tk_no rfl 0 (by decide) (htl _ mw_155) (fun _ h9 => h9) rfl dX5_chooseFrom_2 (fun v9 hf1 hV9 => ?_)
  obtain ⟨rfl, ht_ld20⟩ := hV9
  have ht_ld20 : t (ld 20) = (3, 0, 0) := ht_ld20
  refine fx_top (v := .ref (ld 20)) rfl ?_
  refine tk_get (ci := 2) (C := RX2) (T := TX2) (N := 20) (sp := (0, 0, 8, 0)) hx hb htl inX2 hown hK hG ht_ld20 (by decide) tk_no rfl 0 (by decide) (htl _ mw_1419) (fun _ h9 => h9) rfl dX5_chooseFrom_5 (fun v9 hf2 hV9 => ?_)
  obtain ⟨v3, rfl, ha_v3, hb_v3⟩ := hV9
  refine lv_icmp_lt (tgt := 63) hx hb dX5_chooseFrom_8 (by decide) (fun c9 => absurd (show 8 < v3.toInt from (fi_lt (by decide) rfl).mp c9) (by omega)) (fun _ => ?_)
  refine lv_iload_n hx hb dX5_chooseFrom_11 rfl (lv_at hl 3 rfl) ?_
  refine lv_aload_n hx hb dX5_chooseFrom_12 rfl (lv_at hl 0 rfl) ?_
  refine tk_get (ci := 5) (C := RX5) (T := TX5) (N := 11) (sp := (0, (-2147483648), 2147483647, 0)) hx hb htl inX5 hown hK hG ht_a0 (by decide) tk_no rfl 9 (by decide) (htl _ mw_1421) (fun _ h9 => h9) rfl dX5_chooseFrom_13 (fun v9 hf4 hV9 => ?_)
  obtain ⟨v5, rfl, ha_v5, hb_v5⟩ := hV9
  have hj33 : ∀ (H : Heap) (locs : List Loc), tk_G D cy ld t [] H → va_S (tk_w t [(6, 0, 0), (20, 0, 0)]) s.heap H locs → tk_f D H (ld 20) 2 0 (.int v3) → ∀ ls : Array Slot, lv_has ls 7 [] → W p l e ({ frames := 4, cells := 0, slots := 0, locals := 210 }) s m args below meth c H locs 0 0 (MQ below (tv D cy ld t [] (fun H => True) (tk_w t [(6, 0, 0), (20, 0, 0)])) args s 0 0 (tk_w t [(6, 0, 0), (20, 0, 0)])) (F0 m 62 ls []) := by
    intro H locs hG hS hf2 ls hl
    exact tk_vret hx hb hr hlocks trivial hG hS dX5_chooseFrom_62
  refine lv_icmp_gt (tgt := 36) hx hb dX5_chooseFrom_16 (by decide) (fun c9 => ?_) (fun c9 => ?_)
  · have hc6 : v5.toInt < p3.toInt := (fi_lt rfl rfl).mp c9
    refine lv_aload_n hx hb dX5_chooseFrom_36 rfl (lv_at hl 0 rfl) ?_
    refine lv_iload_n hx hb dX5_chooseFrom_37 rfl (lv_at hl 3 rfl) ?_
    refine tk_put (ci := 5) (v := .int p3) (ty := .int) (C := RX5) (T := TX5) (N := 11) (sp := (0, (-2147483648), 2147483647, 0)) hx hb htl inX5 tyX5 tyX5_ok nmX5 hown hK hG hS ht_a0 (by decide) tk_no rfl 9 (by decide) (htl _ mw_1421) (fun _ h9 => h9) rfl (tyX5_ok 9 (by decide)) rfl rfl rfl (tk_Vi (tk_rng _).1 (tk_rng _).2) (fun _ h => h) (tk_w.of ht_a0 (by decide) (List.mem_of_getElem? (i := 0) rfl) (Nat.le_refl _) (Nat.le_refl _)) dX5_chooseFrom_38 (fun H locs hG hS hf34 hq9 hj9 => ?_)
    have hf2 := hf2.kept (hq9 _ (tk_ne ht_ld20 ht_a0 (Or.inl (by decide))))
    refine lv_aload_n hx hb dX5_chooseFrom_41 rfl (lv_at hl 0 rfl) ?_
    refine lv_iload hx hb dX5_chooseFrom_42 (lv_at hl 4 rfl) ?_
    refine tk_put (ci := 5) (v := .int p4) (ty := .int) (C := RX5) (T := TX5) (N := 11) (sp := (0, (-2147483648), 2147483647, 0)) hx hb htl inX5 tyX5 tyX5_ok nmX5 hown hK hG hS ht_a0 (by decide) tk_no rfl 10 (by decide) (htl _ mw_1422) (fun _ h9 => h9) rfl (tyX5_ok 10 (by decide)) rfl rfl rfl (tk_Vi (tk_rng _).1 (tk_rng _).2) (fun _ h => h) (tk_w.of ht_a0 (by decide) (List.mem_of_getElem? (i := 0) rfl) (Nat.le_refl _) (Nat.le_refl _)) dX5_chooseFrom_44 (fun H locs hG hS hf36 hq9 hj9 => ?_)
    have hf2 := hf2.kept (hq9 _ (tk_ne ht_ld20 ht_a0 (Or.inl (by decide))))
    refine lv_aload_n hx hb dX5_chooseFrom_47 rfl (lv_at hl 0 rfl) ?_
    refine tk_get (ci := 5) (C := RX5) (T := TX5) (N := 11) (sp := (6, 20, 8, 0)) hx hb htl inX5 hown hK hG ht_a0 (by decide) tk_no rfl 7 (by decide) (htl _ mw_153) (fun _ h9 => h9) rfl dX5_chooseFrom_48 (fun v9 hf38 hV9 => ?_)
    obtain ⟨b39, rfl, ht_b39⟩ := hV9
    have ht_b39 : t b39 = (20, 8, 0) := ht_b39
    refine lv_iconst (v := 0) hx hb dX5_chooseFrom_51 (by decide) ?_
    refine lv_aload_n hx hb dX5_chooseFrom_52 rfl (lv_at hl 0 rfl) ?_
    refine tk_get (ci := 5) (C := RX5) (T := TX5) (N := 11) (sp := (6, 20, 8, 0)) hx hb htl inX5 hown hK hG ht_a0 (by decide) tk_no rfl 8 (by decide) (htl _ mw_154) (fun _ h9 => h9) rfl dX5_chooseFrom_53 (fun v9 hf40 hV9 => ?_)
    obtain ⟨b41, rfl, ht_b41⟩ := hV9
    have ht_b41 : t b41 = (20, 8, 0) := ht_b41
    refine lv_iconst (v := 0) hx hb dX5_chooseFrom_56 (by decide) ?_
    refine lv_bipush (v := 8) hx hb dX5_chooseFrom_57 (by decide) ?_
    refine tk_copy (SP := 0) (DP := 0) (NC := 8) hx hb (by rw [hml]; exact hl.1.symm) hown (htl _ mw_1428) (htl _ mw_655) (htl _ mw_656) (htl _ mw_657) hK hG hS ht_b39 ht_b41 (by decide) (by decide) (fun _ h => h) (fun _ => Iff.rfl) tk_no tk_no (by decide) (by decide) (by decide) (by decide) (by decide) (by decide) (by decide) (by decide) (fun _ _ _ _ _ => trivial) (tk_w.of ht_b41 (by decide) (List.mem_of_getElem? (i := 1) rfl) (Nat.le_refl _) (Nat.le_refl _)) (Nat.le_of_ble_eq_true rfl) (Nat.le_of_ble_eq_true rfl) dX5_chooseFrom_59 (fun H locs hG hS hq9 => ?_)
    have hf2 := hf2.kept (hq9 _ (tk_ne ht_ld20 ht_b41 (Or.inl (by decide))))
    exact hj33 _ _ hG hS hf2 _ (lv_sub hl [] rfl)
  · have hc6 : ¬ (v5.toInt < p3.toInt) := fun h9 => c9 ((fi_lt rfl rfl).mpr h9)
    refine lv_iload_n hx hb dX5_chooseFrom_19 rfl (lv_at hl 3 rfl) ?_
    refine lv_aload_n hx hb dX5_chooseFrom_20 rfl (lv_at hl 0 rfl) ?_
    refine tk_get (ci := 5) (C := RX5) (T := TX5) (N := 11) (sp := (0, (-2147483648), 2147483647, 0)) hx hb htl inX5 hown hK hG ht_a0 (by decide) tk_no rfl 9 (by decide) (htl _ mw_1421) (fun _ h9 => h9) rfl dX5_chooseFrom_21 (fun v9 hf43 hV9 => ?_)
    obtain ⟨v44, rfl, ha_v44, hb_v44⟩ := hV9
    refine lv_icmp_ne (tgt := 62) hx hb dX5_chooseFrom_24 (by decide) (fun c9 => ?_) (fun c9 => ?_)
    · have hc45 : ¬ (p3.toInt = v44.toInt) := fun h9 => c9 ((fi_eq rfl rfl).mpr h9)
      exact hj33 _ _ hG hS hf2 _ (lv_sub hl [] rfl)
    · have hc45 : p3.toInt = v44.toInt := (fi_eq rfl rfl).mp c9
      refine lv_iload hx hb dX5_chooseFrom_27 (lv_at hl 4 rfl) ?_
      refine lv_aload_n hx hb dX5_chooseFrom_29 rfl (lv_at hl 0 rfl) ?_
      refine tk_get (ci := 5) (C := RX5) (T := TX5) (N := 11) (sp := (0, (-2147483648), 2147483647, 0)) hx hb htl inX5 hown hK hG ht_a0 (by decide) tk_no rfl 10 (by decide) (htl _ mw_1422) (fun _ h9 => h9) rfl dX5_chooseFrom_30 (fun v9 hf46 hV9 => ?_)
      obtain ⟨v47, rfl, ha_v47, hb_v47⟩ := hV9
      refine lv_icmp_ge (tgt := 62) hx hb dX5_chooseFrom_33 (by decide) (fun c9 => ?_) (fun c9 => ?_)
      · have hc48 : v47.toInt ≤ p4.toInt := (fi_le rfl rfl).mp c9
        exact hj33 _ _ hG hS hf2 _ (lv_sub hl [] rfl)
      · have hc48 : ¬ (v47.toInt ≤ p4.toInt) := fun h9 => c9 ((fi_le rfl rfl).mpr h9)
        refine lv_aload_n hx hb dX5_chooseFrom_36 rfl (lv_at hl 0 rfl) ?_
        refine lv_iload_n hx hb dX5_chooseFrom_37 rfl (lv_at hl 3 rfl) ?_
        refine tk_put (ci := 5) (v := .int p3) (ty := .int) (C := RX5) (T := TX5) (N := 11) (sp := (0, (-2147483648), 2147483647, 0)) hx hb htl inX5 tyX5 tyX5_ok nmX5 hown hK hG hS ht_a0 (by decide) tk_no rfl 9 (by decide) (htl _ mw_1421) (fun _ h9 => h9) rfl (tyX5_ok 9 (by decide)) rfl rfl rfl (tk_Vi (tk_rng _).1 (tk_rng _).2) (fun _ h => h) (tk_w.of ht_a0 (by decide) (List.mem_of_getElem? (i := 0) rfl) (Nat.le_refl _) (Nat.le_refl _)) dX5_chooseFrom_38 (fun H locs hG hS hf49 hq9 hj9 => ?_)
        have hf2 := hf2.kept (hq9 _ (tk_ne ht_ld20 ht_a0 (Or.inl (by decide))))
        refine lv_aload_n hx hb dX5_chooseFrom_41 rfl (lv_at hl 0 rfl) ?_
        refine lv_iload hx hb dX5_chooseFrom_42 (lv_at hl 4 rfl) ?_
        refine tk_put (ci := 5) (v := .int p4) (ty := .int) (C := RX5) (T := TX5) (N := 11) (sp := (0, (-2147483648), 2147483647, 0)) hx hb htl inX5 tyX5 tyX5_ok nmX5 hown hK hG hS ht_a0 (by decide) tk_no rfl 10 (by decide) (htl _ mw_1422) (fun _ h9 => h9) rfl (tyX5_ok 10 (by decide)) rfl rfl rfl (tk_Vi (tk_rng _).1 (tk_rng _).2) (fun _ h => h) (tk_w.of ht_a0 (by decide) (List.mem_of_getElem? (i := 0) rfl) (Nat.le_refl _) (Nat.le_refl _)) dX5_chooseFrom_44 (fun H locs hG hS hf51 hq9 hj9 => ?_)
        have hf2 := hf2.kept (hq9 _ (tk_ne ht_ld20 ht_a0 (Or.inl (by decide))))
        refine lv_aload_n hx hb dX5_chooseFrom_47 rfl (lv_at hl 0 rfl) ?_
        refine tk_get (ci := 5) (C := RX5) (T := TX5) (N := 11) (sp := (6, 20, 8, 0)) hx hb htl inX5 hown hK hG ht_a0 (by decide) tk_no rfl 7 (by decide) (htl _ mw_153) (fun _ h9 => h9) rfl dX5_chooseFrom_48 (fun v9 hf53 hV9 => ?_)
        obtain ⟨b54, rfl, ht_b54⟩ := hV9
        have ht_b54 : t b54 = (20, 8, 0) := ht_b54
        refine lv_iconst (v := 0) hx hb dX5_chooseFrom_51 (by decide) ?_
        refine lv_aload_n hx hb dX5_chooseFrom_52 rfl (lv_at hl 0 rfl) ?_
        refine tk_get (ci := 5) (C := RX5) (T := TX5) (N := 11) (sp := (6, 20, 8, 0)) hx hb htl inX5 hown hK hG ht_a0 (by decide) tk_no rfl 8 (by decide) (htl _ mw_154) (fun _ h9 => h9) rfl dX5_chooseFrom_53 (fun v9 hf55 hV9 => ?_)
        obtain ⟨b56, rfl, ht_b56⟩ := hV9
        have ht_b56 : t b56 = (20, 8, 0) := ht_b56
        refine lv_iconst (v := 0) hx hb dX5_chooseFrom_56 (by decide) ?_
        refine lv_bipush (v := 8) hx hb dX5_chooseFrom_57 (by decide) ?_
        refine tk_copy (SP := 0) (DP := 0) (NC := 8) hx hb (by rw [hml]; exact hl.1.symm) hown (htl _ mw_1428) (htl _ mw_655) (htl _ mw_656) (htl _ mw_657) hK hG hS ht_b54 ht_b56 (by decide) (by decide) (fun _ h => h) (fun _ => Iff.rfl) tk_no tk_no (by decide) (by decide) (by decide) (by decide) (by decide) (by decide) (by decide) (by decide) (fun _ _ _ _ _ => trivial) (tk_w.of ht_b56 (by decide) (List.mem_of_getElem? (i := 1) rfl) (Nat.le_refl _) (Nat.le_refl _)) (Nat.le_of_ble_eq_true rfl) (Nat.le_of_ble_eq_true rfl) dX5_chooseFrom_59 (fun H locs hG hS hq9 => ?_)
        have hf2 := hf2.kept (hq9 _ (tk_ne ht_ld20 ht_b56 (Or.inl (by decide))))
        exact hj33 _ _ hG hS hf2 _ (lv_sub hl [] rfl)
theorem dX5_chooseFrom_63 : decode cX5_chooseFrom 63 = .ok (.aload_n 0, 1) := by decide +kernel
theorem dX5_chooseFrom_64 : decode cX5_chooseFrom 64 = .ok (.getfield 34, 3) := by decide +kernel
theorem dX5_chooseFrom_67 : decode cX5_chooseFrom 67 = .ok (.getfield 130, 3) := by decide +kernel
theorem dX5_chooseFrom_70 : decode cX5_chooseFrom 70 = .ok (.iload_n 1, 1) := by decide +kernel
theorem dX5_chooseFrom_71 : decode cX5_chooseFrom 71 = .ok (.iaload, 1) := by decide +kernel
theorem dX5_chooseFrom_176 : decode cX5_chooseFrom 176 = .ok (.aload_n 0, 1) := by decide +kernel
theorem dX5_chooseFrom_177 : decode cX5_chooseFrom 177 = .ok (.getfield 27, 3) := by decide +kernel
theorem dX5_chooseFrom_180 : decode cX5_chooseFrom 180 = .ok (.iload_n 1, 1) := by decide +kernel
theorem dX5_chooseFrom_181 : decode cX5_chooseFrom 181 = .ok (.bipush 100, 2) := by decide +kernel
theorem dX5_chooseFrom_183 : decode cX5_chooseFrom 183 = .ok (.iastore, 1) := by decide +kernel
theorem dX5_chooseFrom_184 : decode cX5_chooseFrom 184 = .ok (.aload_n 0, 1) := by decide +kernel
theorem dX5_chooseFrom_185 : decode cX5_chooseFrom 185 = .ok (.iload_n 1, 1) := by decide +kernel
theorem dX5_chooseFrom_186 : decode cX5_chooseFrom 186 = .ok (.iconst 1, 1) := by decide +kernel
theorem dX5_chooseFrom_187 : decode cX5_chooseFrom 187 = .ok (.iadd, 1) := by decide +kernel
theorem dX5_chooseFrom_188 : decode cX5_chooseFrom 188 = .ok (.iload_n 2, 1) := by decide +kernel
theorem dX5_chooseFrom_189 : decode cX5_chooseFrom 189 = .ok (.iload_n 3, 1) := by decide +kernel
theorem dX5_chooseFrom_190 : decode cX5_chooseFrom 190 = .ok (.iload 4, 2) := by decide +kernel
theorem dX5_chooseFrom_192 : decode cX5_chooseFrom 192 = .ok (.invokevirtual 142, 3) := by decide +kernel
theorem dX5_chooseFrom_195 : decode cX5_chooseFrom 195 = .ok (.return_, 1) := by decide +kernel
theorem dX5_chooseFrom_72 : decode cX5_chooseFrom 72 = .ok (.ifCond .ne 104, 3) := by decide +kernel
theorem dX5_chooseFrom_75 : decode cX5_chooseFrom 75 = .ok (.iconst 0, 1) := by decide +kernel
theorem dX5_chooseFrom_76 : decode cX5_chooseFrom 76 = .ok (.istore 5, 2) := by decide +kernel
theorem dX5_chooseFrom_78 : decode cX5_chooseFrom 78 = .ok (.iload 5, 2) := by decide +kernel
theorem dX5_chooseFrom_80 : decode cX5_chooseFrom 80 = .ok (.aload_n 0, 1) := by decide +kernel
theorem dX5_chooseFrom_81 : decode cX5_chooseFrom 81 = .ok (.getfield 34, 3) := by decide +kernel
theorem dX5_chooseFrom_84 : decode cX5_chooseFrom 84 = .ok (.getfield 127, 3) := by decide +kernel
theorem dX5_chooseFrom_87 : decode cX5_chooseFrom 87 = .ok (.if_icmp .ge 89, 3) := by decide +kernel
theorem dX5_chooseFrom_90 : decode cX5_chooseFrom 90 = .ok (.aload_n 0, 1) := by decide +kernel
theorem dX5_chooseFrom_91 : decode cX5_chooseFrom 91 = .ok (.getfield 34, 3) := by decide +kernel
theorem dX5_chooseFrom_94 : decode cX5_chooseFrom 94 = .ok (.getfield 130, 3) := by decide +kernel
theorem dX5_chooseFrom_97 : decode cX5_chooseFrom 97 = .ok (.iload 5, 2) := by decide +kernel
theorem dX5_chooseFrom_99 : decode cX5_chooseFrom 99 = .ok (.iaload, 1) := by decide +kernel
theorem dX5_chooseFrom_100 : decode cX5_chooseFrom 100 = .ok (.iconst 1, 1) := by decide +kernel
theorem dX5_chooseFrom_170 : decode cX5_chooseFrom 170 = .ok (.iinc 5 1, 3) := by decide +kernel
theorem dX5_chooseFrom_173 : decode cX5_chooseFrom 173 = .ok (.goto (-95), 3) := by decide +kernel
theorem dX5_chooseFrom_101 : decode cX5_chooseFrom 101 = .ok (.if_icmp .ne 69, 3) := by decide +kernel
theorem dX5_chooseFrom_104 : decode cX5_chooseFrom 104 = .ok (.iload_n 2, 1) := by decide +kernel
theorem dX5_chooseFrom_105 : decode cX5_chooseFrom 105 = .ok (.iload 5, 2) := by decide +kernel
theorem dX5_chooseFrom_107 : decode cX5_chooseFrom 107 = .ok (.ishr, 1) := by decide +kernel
theorem dX5_chooseFrom_108 : decode cX5_chooseFrom 108 = .ok (.iconst 1, 1) := by decide +kernel
theorem dX5_chooseFrom_109 : decode cX5_chooseFrom 109 = .ok (.iand, 1) := by decide +kernel
theorem dX5_chooseFrom_110 : decode cX5_chooseFrom 110 = .ok (.ifCond .ne 60, 3) := by decide +kernel
theorem dX5_chooseFrom_113 : decode cX5_chooseFrom 113 = .ok (.aload_n 0, 1) := by decide +kernel
theorem dX5_chooseFrom_114 : decode cX5_chooseFrom 114 = .ok (.getfield 24, 3) := by decide +kernel
theorem dX5_chooseFrom_117 : decode cX5_chooseFrom 117 = .ok (.iload_n 1, 1) := by decide +kernel
theorem dX5_chooseFrom_118 : decode cX5_chooseFrom 118 = .ok (.aaload, 1) := by decide +kernel
theorem dX5_chooseFrom_119 : decode cX5_chooseFrom 119 = .ok (.iload 5, 2) := by decide +kernel
theorem dX5_chooseFrom_121 : decode cX5_chooseFrom 121 = .ok (.iaload, 1) := by decide +kernel
theorem dX5_chooseFrom_122 : decode cX5_chooseFrom 122 = .ok (.istore 6, 2) := by decide +kernel
theorem dX5_chooseFrom_124 : decode cX5_chooseFrom 124 = .ok (.aload_n 0, 1) := by decide +kernel
theorem dX5_chooseFrom_125 : decode cX5_chooseFrom 125 = .ok (.getfield 27, 3) := by decide +kernel
theorem dX5_chooseFrom_128 : decode cX5_chooseFrom 128 = .ok (.iload_n 1, 1) := by decide +kernel
theorem dX5_chooseFrom_129 : decode cX5_chooseFrom 129 = .ok (.iload 5, 2) := by decide +kernel
theorem dX5_chooseFrom_131 : decode cX5_chooseFrom 131 = .ok (.iastore, 1) := by decide +kernel
theorem dX5_chooseFrom_132 : decode cX5_chooseFrom 132 = .ok (.aload_n 0, 1) := by decide +kernel
theorem dX5_chooseFrom_133 : decode cX5_chooseFrom 133 = .ok (.iload_n 1, 1) := by decide +kernel
theorem dX5_chooseFrom_134 : decode cX5_chooseFrom 134 = .ok (.iconst 1, 1) := by decide +kernel
theorem dX5_chooseFrom_135 : decode cX5_chooseFrom 135 = .ok (.iadd, 1) := by decide +kernel
theorem dX5_chooseFrom_136 : decode cX5_chooseFrom 136 = .ok (.iload_n 2, 1) := by decide +kernel
theorem dX5_chooseFrom_137 : decode cX5_chooseFrom 137 = .ok (.iconst 1, 1) := by decide +kernel
theorem dX5_chooseFrom_138 : decode cX5_chooseFrom 138 = .ok (.iload 5, 2) := by decide +kernel
theorem dX5_chooseFrom_140 : decode cX5_chooseFrom 140 = .ok (.ishl, 1) := by decide +kernel
theorem dX5_chooseFrom_141 : decode cX5_chooseFrom 141 = .ok (.ior, 1) := by decide +kernel
theorem dX5_chooseFrom_142 : decode cX5_chooseFrom 142 = .ok (.iload_n 3, 1) := by decide +kernel
theorem dX5_chooseFrom_143 : decode cX5_chooseFrom 143 = .ok (.iload 6, 2) := by decide +kernel
theorem dX5_chooseFrom_153 : decode cX5_chooseFrom 153 = .ok (.iadd, 1) := by decide +kernel
theorem dX5_chooseFrom_154 : decode cX5_chooseFrom 154 = .ok (.iload 4, 2) := by decide +kernel
theorem dX5_chooseFrom_156 : decode cX5_chooseFrom 156 = .ok (.iload 6, 2) := by decide +kernel
theorem dX5_chooseFrom_166 : decode cX5_chooseFrom 166 = .ok (.iadd, 1) := by decide +kernel
theorem dX5_chooseFrom_167 : decode cX5_chooseFrom 167 = .ok (.invokevirtual 142, 3) := by decide +kernel
theorem dX5_chooseFrom_158 : decode cX5_chooseFrom 158 = .ok (.ifCond .ge 7, 3) := by decide +kernel
theorem dX5_chooseFrom_165 : decode cX5_chooseFrom 165 = .ok (.iconst 0, 1) := by decide +kernel
theorem dX5_chooseFrom_161 : decode cX5_chooseFrom 161 = .ok (.iconst 1, 1) := by decide +kernel
theorem dX5_chooseFrom_162 : decode cX5_chooseFrom 162 = .ok (.goto 4, 3) := by decide +kernel
theorem dX5_chooseFrom_145 : decode cX5_chooseFrom 145 = .ok (.ifCond .le 7, 3) := by decide +kernel
theorem dX5_chooseFrom_152 : decode cX5_chooseFrom 152 = .ok (.iconst 0, 1) := by decide +kernel
theorem dX5_chooseFrom_148 : decode cX5_chooseFrom 148 = .ok (.iconst 1, 1) := by decide +kernel
theorem dX5_chooseFrom_149 : decode cX5_chooseFrom 149 = .ok (.goto 4, 3) := by decide +kernel
set_option maxHeartbeats 4000000 in
set_option maxRecDepth 100000 in
theorem k_X5_chooseFrom_7 (l : Launch) (D : va_G) (cy : Nat → ClassId) (ld : Nat → Nat) (t : tk_T) (a0 : Nat) (p2 : Int32) (p3 : Int32) (p4 : Int32) (ht_a0 : t a0 = (6, 0, 0)) : Met l yX5_chooseFrom (wl yX5_chooseFrom cX5_chooseFrom 7 none) ({ frames := 5, cells := 0, slots := 0, locals := 280 }) (tp D cy ld t [] [.ref a0, .int 7, .int p2, .int p3, .int p4] (fun H => True)) (tv D cy ld t [] (fun H => True) (tk_w t [(20, 0, 0), (6, 0, 0)])) 0 0 (tk_w t [(20, 0, 0), (6, 0, 0)]) := by
  refine tk_met (y := yX5_chooseFrom) (cc := cX5_chooseFrom) (maxL := 7) (ret := none) (av := [.ref a0, .int 7, .int p2, .int p3, .int p4]) _ _ (by decide) (Nat.le_of_ble_eq_true rfl) ?_
  intro p e s m args below meth c hx hb hr hml hts htl hown hlocks hK H locs hH hG hS hB hZ ls hl
  have hown : s.vm.findClass RX5 = some m.cls := hown
  have hl : lv_has ls 7 [(0, .ref a0), (1, .int 7), (2, .int p2), (3, .int p3), (4, .int p4)] := hl
  have hr_p2 := tk_rng p2
  have hr_p3 := tk_rng p3
  have hr_p4 := tk_rng p4
  refine lv_iload_n hx hb dX5_chooseFrom_0 rfl (lv_at hl 1 rfl) ?_
  refine lv_aload_n hx hb dX5_chooseFrom_1 rfl (lv_at hl 0 rfl) ?_
  refine tk_get (ci := 5) (C := RX5) (T := TX5) (N := 11) (sp := (8, 20, 3, 0)) hx hb htl inX5 hown hK hG ht_a0 (by decide) tk_no rfl 0 (by decide) (htl _ mw_155) (fun _ h9 => h9) rfl dX5_chooseFrom_2 (fun v9 hf1 hV9 => ?_)
  obtain ⟨rfl, ht_ld20⟩ := hV9
  have ht_ld20 : t (ld 20) = (3, 0, 0) := ht_ld20
  refine fx_top (v := .ref (ld 20)) rfl ?_
  refine tk_get (ci := 2) (C := RX2) (T := TX2) (N := 20) (sp := (0, 0, 8, 0)) hx hb htl inX2 hown hK hG ht_ld20 (by decide) tk_no rfl 0 (by decide) (htl _ mw_1419) (fun _ h9 => h9) rfl dX5_chooseFrom_5 (fun v9 hf2 hV9 => ?_)
  obtain ⟨v3, rfl, ha_v3, hb_v3⟩ := hV9
  refine lv_icmp_lt (tgt := 63) hx hb dX5_chooseFrom_8 (by decide) (fun c9 => ?_) (fun c9 => ?_)
  · have hc4 : 7 < v3.toInt := (fi_lt (by decide) rfl).mp c9
    refine lv_aload_n hx hb dX5_chooseFrom_63 rfl (lv_at hl 0 rfl) ?_
    refine tk_get (ci := 5) (C := RX5) (T := TX5) (N := 11) (sp := (8, 20, 3, 0)) hx hb htl inX5 hown hK hG ht_a0 (by decide) tk_no rfl 0 (by decide) (htl _ mw_155) (fun _ h9 => h9) rfl dX5_chooseFrom_64 (fun v9 hf5 hV9 => ?_)
    obtain ⟨rfl, ht_ld20⟩ := hV9
    have ht_ld20 : t (ld 20) = (3, 0, 0) := ht_ld20
    refine fx_top (v := .ref (ld 20)) rfl ?_
    refine tk_get (ci := 2) (C := RX2) (T := TX2) (N := 20) (sp := (1, 21, 8, 0)) hx hb htl inX2 hown hK hG ht_ld20 (by decide) tk_no rfl 2 (by decide) (htl _ mw_1420) (fun _ h9 => h9) rfl dX5_chooseFrom_67 (fun v9 hf6 hV9 => ?_)
    obtain ⟨b7, rfl, ht_b7⟩ := hV9
    have ht_b7 : t b7 = (21, 8, 0) := ht_b7
    refine lv_iload_n hx hb dX5_chooseFrom_70 rfl (lv_at hl 1 rfl) ?_
    refine tk_iald hx hb hK hG ht_b7 (by decide) (fun _ h => h) tk_no (I := 7) (by decide) (by decide) (by decide) dX5_chooseFrom_71 (fun v8 hE9 _ => ?_)
    have he_v8 : 0 ≤ v8.toInt ∧ v8.toInt ≤ 1 := hE9
    have hj486 : ∀ (H : Heap) (locs : List Loc), tk_G D cy ld t [] H → va_S (tk_w t [(20, 0, 0), (6, 0, 0)]) s.heap H locs → tk_f D H (ld 20) 2 0 (.int v3) → ∀ ls : Array Slot, lv_has ls 7 [(0, .ref a0), (1, .int 7), (2, .int p2), (3, .int p3), (4, .int p4)] → W p l e ({ frames := 5, cells := 0, slots := 0, locals := 280 }) s m args below meth c H locs 0 0 (MQ below (tv D cy ld t [] (fun H => True) (tk_w t [(20, 0, 0), (6, 0, 0)])) args s 0 0 (tk_w t [(20, 0, 0), (6, 0, 0)])) (F0 m 176 ls []) := by
      intro H locs hG hS hf2 ls hl
      refine lv_aload_n hx hb dX5_chooseFrom_176 rfl (lv_at hl 0 rfl) ?_
      refine tk_get (ci := 5) (C := RX5) (T := TX5) (N := 11) (sp := (6, 20, 8, 0)) hx hb htl inX5 hown hK hG ht_a0 (by decide) tk_no rfl 7 (by decide) (htl _ mw_153) (fun _ h9 => h9) rfl dX5_chooseFrom_177 (fun v9 hf487 hV9 => ?_)
      obtain ⟨b488, rfl, ht_b488⟩ := hV9
      have ht_b488 : t b488 = (20, 8, 0) := ht_b488
      refine lv_iload_n hx hb dX5_chooseFrom_180 rfl (lv_at hl 1 rfl) ?_
      refine lv_bipush (v := 100) hx hb dX5_chooseFrom_181 (by decide) ?_
      refine tk_iast hx hb hK hG hS ht_b488 (by decide) (fun _ => Iff.rfl) tk_no (I := 7) (by decide) (by decide) (by decide) trivial (tk_w.of ht_b488 (by decide) (List.mem_of_getElem? (i := 0) rfl) (Nat.le_refl _) (Nat.le_refl _)) dX5_chooseFrom_183 (fun H locs hG hS hq9 => ?_)
      have hf2 := hf2.kept (hq9 _ (tk_ne ht_ld20 ht_b488 (Or.inl (by decide))))
      refine lv_aload_n hx hb dX5_chooseFrom_184 rfl (lv_at hl 0 rfl) ?_
      refine lv_iload_n hx hb dX5_chooseFrom_185 rfl (lv_at hl 1 rfl) ?_
      refine lv_iconst (v := 1) hx hb dX5_chooseFrom_186 (by decide) ?_
      refine lv_iadd hx hb dX5_chooseFrom_187 ?_
      refine fx_ti (v := 8) (by decide) ?_
      refine lv_iload_n hx hb dX5_chooseFrom_188 rfl (lv_at hl 2 rfl) ?_
      refine lv_iload_n hx hb dX5_chooseFrom_189 rfl (lv_at hl 3 rfl) ?_
      refine lv_iload hx hb dX5_chooseFrom_190 (lv_at hl 4 rfl) ?_
      have hk_8 : (8 : Int32).toInt = 8 := by decide
      refine tk_Vv (As := [.int 8, .int p2, .int p3, .int p4]) (rest := []) (ci := 5) ⟨hx, hb, hml, hown, hts⟩ hK hG hZ hS (k_X5_chooseFrom_8 l D cy ld t a0 p2 p3 p4 ht_a0) trivial ⟨callB_of 4 hts (wl_in mw_1427) rfl rfl rfl (htl _ mw_40) (htl _ mw_1424) hd_yX5_chooseFrom ⟨(Nat.le_of_ble_eq_true rfl), (Nat.le_of_ble_eq_true rfl)⟩, htl _ mw_1425, htl _ mw_1426⟩ ht_a0 (by decide) tk_no rfl (tk_w.pick [1, 0] rfl) rfl hl.1 rfl (Nat.le_of_ble_eq_true rfl) dX5_chooseFrom_192 ⟨(Nat.le_of_ble_eq_true rfl), (Nat.le_of_ble_eq_true rfl)⟩ (fun H locs hpo hG hS hq9 => ?_)
      have hf2 := hf2.call hq9 (tk_w.no ht_ld20 (by decide))
      exact tk_vret hx hb hr hlocks trivial hG hS dX5_chooseFrom_195
    refine lv_if_ne (tgt := 176) hx hb dX5_chooseFrom_72 (by decide) (fun c9 => ?_) (fun c9 => ?_)
    · have hc9 : ¬ (v8.toInt = 0) := fun h9 => c9 ((fi_eq rfl (by decide)).mpr h9)
      exact hj486 _ _ hG hS hf2 _ (lv_sub hl [0, 1, 2, 3, 4] rfl)
    · have hc9 : v8.toInt = 0 := (fi_eq rfl (by decide)).mp c9
      refine lv_iconst (v := 0) hx hb dX5_chooseFrom_75 (by decide) ?_
      refine lv_istore (lv' := [(5, .int 0), (0, .ref a0), (1, .int 7), (2, .int p2), (3, .int p3), (4, .int p4)]) hx hb dX5_chooseFrom_76 hl (by decide) rfl (fun ls hl => ?_)
      have hl905 : ∀ (N : Nat) (v491 : Int32) (H : Heap) (locs : List Loc), v491.toInt ≤ 8 → 0 ≤ v491.toInt → (-1) * v491.toInt + 8 < (N : Int) → tk_G D cy ld t [] H → va_S (tk_w t [(20, 0, 0), (6, 0, 0)]) s.heap H locs → tk_f D H (ld 20) 2 0 (.int v3) → ∀ ls : Array Slot, lv_has ls 7 [(5, .int v491), (0, .ref a0), (1, .int 7), (2, .int p2), (3, .int p3), (4, .int p4)] → W p l e ({ frames := 5, cells := 0, slots := 0, locals := 280 }) s m args below meth c H locs 0 0 (MQ below (tv D cy ld t [] (fun H => True) (tk_w t [(20, 0, 0), (6, 0, 0)])) args s 0 0 (tk_w t [(20, 0, 0), (6, 0, 0)])) (F0 m 78 ls []) := by
        intro N
        induction N with
        | zero => intro v491 H locs hq0_l905 hq1_l905 hm_l905 hG hS hf2 ls hl; exfalso; omega
        | succ N ih =>
          intro v491 H locs hq0_l905 hq1_l905 hm_l905 hG hS hf2 ls hl
          refine lv_iload hx hb dX5_chooseFrom_78 (lv_at hl 0 rfl) ?_
          refine lv_aload_n hx hb dX5_chooseFrom_80 rfl (lv_at hl 1 rfl) ?_
          refine tk_get (ci := 5) (C := RX5) (T := TX5) (N := 11) (sp := (8, 20, 3, 0)) hx hb htl inX5 hown hK hG ht_a0 (by decide) tk_no rfl 0 (by decide) (htl _ mw_155) (fun _ h9 => h9) rfl dX5_chooseFrom_81 (fun v9 hf906 hV9 => ?_)
          obtain ⟨rfl, ht_ld20⟩ := hV9
          have ht_ld20 : t (ld 20) = (3, 0, 0) := ht_ld20
          refine fx_top (v := .ref (ld 20)) rfl ?_
          refine tk_getk (ci := 2) (C := RX2) (T := TX2) (N := 20) (sp := (0, 0, 8, 0)) hx hb htl inX2 hown hK hG ht_ld20 (by decide) tk_no rfl 0 (by decide) (htl _ mw_1419) (fun _ h9 => h9) rfl hf2 dX5_chooseFrom_84 ?_
          refine lv_icmp_ge (tgt := 176) hx hb dX5_chooseFrom_87 (by decide) (fun c9 => ?_) (fun c9 => ?_)
          · have hc907 : v3.toInt ≤ v491.toInt := (fi_le rfl rfl).mp c9
            exact hj486 _ _ hG hS hf2 _ (lv_sub hl [1, 2, 3, 4, 5] rfl)
          · have hc907 : ¬ (v3.toInt ≤ v491.toInt) := fun h9 => c9 ((fi_le rfl rfl).mpr h9)
            refine lv_aload_n hx hb dX5_chooseFrom_90 rfl (lv_at hl 1 rfl) ?_
            refine tk_get (ci := 5) (C := RX5) (T := TX5) (N := 11) (sp := (8, 20, 3, 0)) hx hb htl inX5 hown hK hG ht_a0 (by decide) tk_no rfl 0 (by decide) (htl _ mw_155) (fun _ h9 => h9) rfl dX5_chooseFrom_91 (fun v9 hf908 hV9 => ?_)
            obtain ⟨rfl, ht_ld20⟩ := hV9
            have ht_ld20 : t (ld 20) = (3, 0, 0) := ht_ld20
            refine fx_top (v := .ref (ld 20)) rfl ?_
            refine tk_get (ci := 2) (C := RX2) (T := TX2) (N := 20) (sp := (1, 21, 8, 0)) hx hb htl inX2 hown hK hG ht_ld20 (by decide) tk_no rfl 2 (by decide) (htl _ mw_1420) (fun _ h9 => h9) rfl dX5_chooseFrom_94 (fun v9 hf909 hV9 => ?_)
            obtain ⟨b910, rfl, ht_b910⟩ := hV9
            have ht_b910 : t b910 = (21, 8, 0) := ht_b910
            refine lv_iload hx hb dX5_chooseFrom_97 (lv_at hl 0 rfl) ?_
            refine tk_iald hx hb hK hG ht_b910 (by decide) (fun _ h => h) tk_no rfl (by omega) (by omega) dX5_chooseFrom_99 (fun v911 hE9 _ => ?_)
            have he_v911 : 0 ≤ v911.toInt ∧ v911.toInt ≤ 1 := hE9
            refine lv_iconst (v := 1) hx hb dX5_chooseFrom_100 (by decide) ?_
            have hj939 : ∀ (H : Heap) (locs : List Loc), tk_G D cy ld t [] H → va_S (tk_w t [(20, 0, 0), (6, 0, 0)]) s.heap H locs → tk_f D H (ld 20) 2 0 (.int v3) → ∀ ls : Array Slot, lv_has ls 7 [(5, .int v491), (0, .ref a0), (1, .int 7), (2, .int p2), (3, .int p3), (4, .int p4)] → W p l e ({ frames := 5, cells := 0, slots := 0, locals := 280 }) s m args below meth c H locs 0 0 (MQ below (tv D cy ld t [] (fun H => True) (tk_w t [(20, 0, 0), (6, 0, 0)])) args s 0 0 (tk_w t [(20, 0, 0), (6, 0, 0)])) (F0 m 170 ls []) := by
              intro H locs hG hS hf2 ls hl
              obtain ⟨v940, h_v940, e_v940⟩ := tk_inc v491 1 (by decide) (by omega) (by omega)
              refine lv_iinc (v := v940) (lv' := [(5, .int v940), (0, .ref a0), (1, .int 7), (2, .int p2), (3, .int p3), (4, .int p4)]) hx hb dX5_chooseFrom_170 hl (k := 0) rfl e_v940 (by decide) rfl (fun ls hl => ?_)
              refine lv_goto (tgt := 78) hx hb dX5_chooseFrom_173 (by decide) ?_
              exact ih v940 _ _ (by omega) (by omega) (by omega) hG hS hf2 _ (lv_sub hl [0, 1, 2, 3, 4, 5] rfl)
            refine lv_icmp_ne (tgt := 170) hx hb dX5_chooseFrom_101 (by decide) (fun c9 => ?_) (fun c9 => ?_)
            · have hc912 : ¬ (v911.toInt = 1) := fun h9 => c9 ((fi_eq rfl (by decide)).mpr h9)
              exact hj939 _ _ hG hS hf2 _ (lv_sub hl [0, 1, 2, 3, 4, 5] rfl)
            · have hc912 : v911.toInt = 1 := (fi_eq rfl (by decide)).mp c9
              refine lv_iload_n hx hb dX5_chooseFrom_104 rfl (lv_at hl 3 rfl) ?_
              refine lv_iload hx hb dX5_chooseFrom_105 (lv_at hl 0 rfl) ?_
              refine lv_ishr hx hb dX5_chooseFrom_107 ?_
              refine tk_any (fun v941 => ?_)
              refine lv_iconst (v := 1) hx hb dX5_chooseFrom_108 (by decide) ?_
              refine lv_iand hx hb dX5_chooseFrom_109 ?_
              refine tk_say (P := fun z => 0 ≤ z.toInt ∧ z.toInt ≤ 1) (tk_and v941 1 (by decide) (by decide)) (fun v942 h_v942 => ?_)
              refine lv_if_ne (tgt := 170) hx hb dX5_chooseFrom_110 (by decide) (fun c9 => ?_) (fun c9 => ?_)
              · have hc943 : ¬ (v942.toInt = 0) := fun h9 => c9 ((fi_eq rfl (by decide)).mpr h9)
                exact hj939 _ _ hG hS hf2 _ (lv_sub hl [0, 1, 2, 3, 4, 5] rfl)
              · have hc943 : v942.toInt = 0 := (fi_eq rfl (by decide)).mp c9
                refine lv_aload_n hx hb dX5_chooseFrom_113 rfl (lv_at hl 1 rfl) ?_
                refine tk_get (ci := 5) (C := RX5) (T := TX5) (N := 11) (sp := (6, 30, 8, 0)) hx hb htl inX5 hown hK hG ht_a0 (by decide) tk_no rfl 6 (by decide) (htl _ mw_152) (fun _ h9 => h9) rfl dX5_chooseFrom_114 (fun v9 hf944 hV9 => ?_)
                obtain ⟨b945, rfl, ht_b945⟩ := hV9
                have ht_b945 : t b945 = (30, 8, 0) := ht_b945
                refine lv_iload_n hx hb dX5_chooseFrom_117 rfl (lv_at hl 2 rfl) ?_
                refine tk_aald hx hb hK hG 6 rfl rfl ht_b945 (by decide) (fun _ h => h) tk_no (I := 7) (by decide) (by decide) (by decide) dX5_chooseFrom_118 (fun o946 ht_o946 => ?_)
                obtain ⟨b947, rfl, ht_b947⟩ := ht_o946
                have ht_b947 : t b947 = (20, 8, 0) := ht_b947
                refine fx_top (v := .ref b947) rfl ?_
                refine lv_iload hx hb dX5_chooseFrom_119 (lv_at hl 0 rfl) ?_
                refine tk_iald hx hb hK hG ht_b947 (by decide) (fun _ h => h) tk_no rfl (by omega) (by omega) dX5_chooseFrom_121 (fun v948 _ _ => ?_)
                have hr_v948 := tk_rng v948
                refine lv_istore (lv' := [(6, .int v948), (5, .int v491), (0, .ref a0), (1, .int 7), (2, .int p2), (3, .int p3), (4, .int p4)]) hx hb dX5_chooseFrom_122 hl (by decide) rfl (fun ls hl => ?_)
                refine lv_aload_n hx hb dX5_chooseFrom_124 rfl (lv_at hl 2 rfl) ?_
                refine tk_get (ci := 5) (C := RX5) (T := TX5) (N := 11) (sp := (6, 20, 8, 0)) hx hb htl inX5 hown hK hG ht_a0 (by decide) tk_no rfl 7 (by decide) (htl _ mw_153) (fun _ h9 => h9) rfl dX5_chooseFrom_125 (fun v9 hf949 hV9 => ?_)
                obtain ⟨b950, rfl, ht_b950⟩ := hV9
                have ht_b950 : t b950 = (20, 8, 0) := ht_b950
                refine lv_iload_n hx hb dX5_chooseFrom_128 rfl (lv_at hl 3 rfl) ?_
                refine lv_iload hx hb dX5_chooseFrom_129 (lv_at hl 1 rfl) ?_
                refine tk_iast hx hb hK hG hS ht_b950 (by decide) (fun _ => Iff.rfl) tk_no (I := 7) (by decide) (by decide) (by decide) trivial (tk_w.of ht_b950 (by decide) (List.mem_of_getElem? (i := 0) rfl) (Nat.le_refl _) (Nat.le_refl _)) dX5_chooseFrom_131 (fun H locs hG hS hq9 => ?_)
                have hf2 := hf2.kept (hq9 _ (tk_ne ht_ld20 ht_b950 (Or.inl (by decide))))
                refine lv_aload_n hx hb dX5_chooseFrom_132 rfl (lv_at hl 2 rfl) ?_
                refine lv_iload_n hx hb dX5_chooseFrom_133 rfl (lv_at hl 3 rfl) ?_
                refine lv_iconst (v := 1) hx hb dX5_chooseFrom_134 (by decide) ?_
                refine lv_iadd hx hb dX5_chooseFrom_135 ?_
                refine fx_ti (v := 8) (by decide) ?_
                refine lv_iload_n hx hb dX5_chooseFrom_136 rfl (lv_at hl 4 rfl) ?_
                refine lv_iconst (v := 1) hx hb dX5_chooseFrom_137 (by decide) ?_
                refine lv_iload hx hb dX5_chooseFrom_138 (lv_at hl 1 rfl) ?_
                refine lv_ishl hx hb dX5_chooseFrom_140 ?_
                refine tk_say (P := fun z => 1 ≤ z.toInt ∧ z.toInt ≤ 1024) (tk_shl1 v491 (by omega) (by omega)) (fun v952 h_v952 => ?_)
                refine lv_ior hx hb dX5_chooseFrom_141 ?_
                refine tk_any (fun v953 => ?_)
                refine lv_iload_n hx hb dX5_chooseFrom_142 rfl (lv_at hl 5 rfl) ?_
                refine lv_iload hx hb dX5_chooseFrom_143 (lv_at hl 0 rfl) ?_
                have hj957 : ∀ (v956 : Int32), 0 ≤ v956.toInt → v956.toInt ≤ 1 → ∀ ls : Array Slot, lv_has ls 7 [(6, .int v948), (5, .int v491), (0, .ref a0), (1, .int 7), (2, .int p2), (3, .int p3), (4, .int p4)] → W p l e ({ frames := 5, cells := 0, slots := 0, locals := 280 }) s m args below meth c H locs 0 0 (MQ below (tv D cy ld t [] (fun H => True) (tk_w t [(20, 0, 0), (6, 0, 0)])) args s 0 0 (tk_w t [(20, 0, 0), (6, 0, 0)])) (F0 m 153 ls [.int v956, .int p3, .int v953, .int 8, .ref a0]) := by
                  intro v956 hq0_j957 hq1_j957 ls hl
                  refine lv_iadd hx hb dX5_chooseFrom_153 ?_
                  obtain ⟨v958, hm_v958⟩ : ∃ z : Int32, p3 + v956 = z := ⟨_, rfl⟩
                  refine fx_ti hm_v958 ?_
                  refine lv_iload hx hb dX5_chooseFrom_154 (lv_at hl 6 rfl) ?_
                  refine lv_iload hx hb dX5_chooseFrom_156 (lv_at hl 0 rfl) ?_
                  have hj962 : ∀ (v961 : Int32), 0 ≤ v961.toInt → v961.toInt ≤ 1 → ∀ ls : Array Slot, lv_has ls 7 [(5, .int v491), (0, .ref a0), (1, .int 7), (2, .int p2), (3, .int p3), (4, .int p4)] → W p l e ({ frames := 5, cells := 0, slots := 0, locals := 280 }) s m args below meth c H locs 0 0 (MQ below (tv D cy ld t [] (fun H => True) (tk_w t [(20, 0, 0), (6, 0, 0)])) args s 0 0 (tk_w t [(20, 0, 0), (6, 0, 0)])) (F0 m 166 ls [.int v961, .int p4, .int v958, .int v953, .int 8, .ref a0]) := by
                    intro v961 hq0_j962 hq1_j962 ls hl
                    refine lv_iadd hx hb dX5_chooseFrom_166 ?_
                    obtain ⟨v963, hm_v963⟩ : ∃ z : Int32, p4 + v961 = z := ⟨_, rfl⟩
                    refine fx_ti hm_v963 ?_
                    have hk_8 : (8 : Int32).toInt = 8 := by decide
                    refine tk_Vv (As := [.int 8, .int v953, .int v958, .int v963]) (rest := []) (ci := 5) ⟨hx, hb, hml, hown, hts⟩ hK hG hZ hS (k_X5_chooseFrom_8 l D cy ld t a0 v953 v958 v963 ht_a0) trivial ⟨callB_of 4 hts (wl_in mw_1427) rfl rfl rfl (htl _ mw_40) (htl _ mw_1424) hd_yX5_chooseFrom ⟨(Nat.le_of_ble_eq_true rfl), (Nat.le_of_ble_eq_true rfl)⟩, htl _ mw_1425, htl _ mw_1426⟩ ht_a0 (by decide) tk_no rfl (tk_w.pick [1, 0] rfl) rfl hl.1 rfl (Nat.le_of_ble_eq_true rfl) dX5_chooseFrom_167 ⟨(Nat.le_of_ble_eq_true rfl), (Nat.le_of_ble_eq_true rfl)⟩ (fun H locs hpo hG hS hq9 => ?_)
                    have hf2 := hf2.call hq9 (tk_w.no ht_ld20 (by decide))
                    exact hj939 _ _ hG hS hf2 _ (lv_sub hl [0, 1, 2, 3, 4, 5] rfl)
                  refine lv_if_ge (tgt := 165) hx hb dX5_chooseFrom_158 (by decide) (fun c9 => ?_) (fun c9 => ?_)
                  · have hc959 : 0 ≤ v948.toInt := (fi_le (by decide) rfl).mp c9
                    refine lv_iconst (v := 0) hx hb dX5_chooseFrom_165 (by decide) ?_
                    have hk_0 : (0 : Int32).toInt = 0 := by decide
                    exact hj962 0 (by omega) (by omega) _ (lv_sub hl [1, 2, 3, 4, 5, 6] rfl)
                  · have hc959 : ¬ (0 ≤ v948.toInt) := fun h9 => c9 ((fi_le (by decide) rfl).mpr h9)
                    refine lv_iconst (v := 1) hx hb dX5_chooseFrom_161 (by decide) ?_
                    refine lv_goto (tgt := 166) hx hb dX5_chooseFrom_162 (by decide) ?_
                    have hk_1 : (1 : Int32).toInt = 1 := by decide
                    exact hj962 1 (by omega) (by omega) _ (lv_sub hl [1, 2, 3, 4, 5, 6] rfl)
                refine lv_if_le (tgt := 152) hx hb dX5_chooseFrom_145 (by decide) (fun c9 => ?_) (fun c9 => ?_)
                · have hc954 : v948.toInt ≤ 0 := (fi_le rfl (by decide)).mp c9
                  refine lv_iconst (v := 0) hx hb dX5_chooseFrom_152 (by decide) ?_
                  have hk_0 : (0 : Int32).toInt = 0 := by decide
                  exact hj957 0 (by omega) (by omega) _ (lv_sub hl [0, 1, 2, 3, 4, 5, 6] rfl)
                · have hc954 : ¬ (v948.toInt ≤ 0) := fun h9 => c9 ((fi_le rfl (by decide)).mpr h9)
                  refine lv_iconst (v := 1) hx hb dX5_chooseFrom_148 (by decide) ?_
                  refine lv_goto (tgt := 153) hx hb dX5_chooseFrom_149 (by decide) ?_
                  have hk_1 : (1 : Int32).toInt = 1 := by decide
                  exact hj957 1 (by omega) (by omega) _ (lv_sub hl [0, 1, 2, 3, 4, 5, 6] rfl)
      have hk_0 : (0 : Int32).toInt = 0 := by decide
      exact hl905 9 0 _ _ (by omega) (by omega) (by omega) hG hS hf2 _ (lv_sub hl [0, 1, 2, 3, 4, 5] rfl)
  · have hc4 : ¬ (7 < v3.toInt) := fun h9 => c9 ((fi_lt (by decide) rfl).mpr h9)
    refine lv_iload_n hx hb dX5_chooseFrom_11 rfl (lv_at hl 3 rfl) ?_
    refine lv_aload_n hx hb dX5_chooseFrom_12 rfl (lv_at hl 0 rfl) ?_
    refine tk_get (ci := 5) (C := RX5) (T := TX5) (N := 11) (sp := (0, (-2147483648), 2147483647, 0)) hx hb htl inX5 hown hK hG ht_a0 (by decide) tk_no rfl 9 (by decide) (htl _ mw_1421) (fun _ h9 => h9) rfl dX5_chooseFrom_13 (fun v9 hf965 hV9 => ?_)
    obtain ⟨v966, rfl, ha_v966, hb_v966⟩ := hV9
    have hj994 : ∀ (H : Heap) (locs : List Loc), tk_G D cy ld t [] H → va_S (tk_w t [(20, 0, 0), (6, 0, 0)]) s.heap H locs → tk_f D H (ld 20) 2 0 (.int v3) → ∀ ls : Array Slot, lv_has ls 7 [] → W p l e ({ frames := 5, cells := 0, slots := 0, locals := 280 }) s m args below meth c H locs 0 0 (MQ below (tv D cy ld t [] (fun H => True) (tk_w t [(20, 0, 0), (6, 0, 0)])) args s 0 0 (tk_w t [(20, 0, 0), (6, 0, 0)])) (F0 m 62 ls []) := by
      intro H locs hG hS hf2 ls hl
      exact tk_vret hx hb hr hlocks trivial hG hS dX5_chooseFrom_62
    refine lv_icmp_gt (tgt := 36) hx hb dX5_chooseFrom_16 (by decide) (fun c9 => ?_) (fun c9 => ?_)
    · have hc967 : v966.toInt < p3.toInt := (fi_lt rfl rfl).mp c9
      refine lv_aload_n hx hb dX5_chooseFrom_36 rfl (lv_at hl 0 rfl) ?_
      refine lv_iload_n hx hb dX5_chooseFrom_37 rfl (lv_at hl 3 rfl) ?_
      refine tk_put (ci := 5) (v := .int p3) (ty := .int) (C := RX5) (T := TX5) (N := 11) (sp := (0, (-2147483648), 2147483647, 0)) hx hb htl inX5 tyX5 tyX5_ok nmX5 hown hK hG hS ht_a0 (by decide) tk_no rfl 9 (by decide) (htl _ mw_1421) (fun _ h9 => h9) rfl (tyX5_ok 9 (by decide)) rfl rfl rfl (tk_Vi (tk_rng _).1 (tk_rng _).2) (fun _ h => h) (tk_w.of ht_a0 (by decide) (List.mem_of_getElem? (i := 1) rfl) (Nat.le_refl _) (Nat.le_refl _)) dX5_chooseFrom_38 (fun H locs hG hS hf995 hq9 hj9 => ?_)
      have hf2 := hf2.kept (hq9 _ (tk_ne ht_ld20 ht_a0 (Or.inl (by decide))))
      refine lv_aload_n hx hb dX5_chooseFrom_41 rfl (lv_at hl 0 rfl) ?_
      refine lv_iload hx hb dX5_chooseFrom_42 (lv_at hl 4 rfl) ?_
      refine tk_put (ci := 5) (v := .int p4) (ty := .int) (C := RX5) (T := TX5) (N := 11) (sp := (0, (-2147483648), 2147483647, 0)) hx hb htl inX5 tyX5 tyX5_ok nmX5 hown hK hG hS ht_a0 (by decide) tk_no rfl 10 (by decide) (htl _ mw_1422) (fun _ h9 => h9) rfl (tyX5_ok 10 (by decide)) rfl rfl rfl (tk_Vi (tk_rng _).1 (tk_rng _).2) (fun _ h => h) (tk_w.of ht_a0 (by decide) (List.mem_of_getElem? (i := 1) rfl) (Nat.le_refl _) (Nat.le_refl _)) dX5_chooseFrom_44 (fun H locs hG hS hf997 hq9 hj9 => ?_)
      have hf2 := hf2.kept (hq9 _ (tk_ne ht_ld20 ht_a0 (Or.inl (by decide))))
      refine lv_aload_n hx hb dX5_chooseFrom_47 rfl (lv_at hl 0 rfl) ?_
      refine tk_get (ci := 5) (C := RX5) (T := TX5) (N := 11) (sp := (6, 20, 8, 0)) hx hb htl inX5 hown hK hG ht_a0 (by decide) tk_no rfl 7 (by decide) (htl _ mw_153) (fun _ h9 => h9) rfl dX5_chooseFrom_48 (fun v9 hf999 hV9 => ?_)
      obtain ⟨b1000, rfl, ht_b1000⟩ := hV9
      have ht_b1000 : t b1000 = (20, 8, 0) := ht_b1000
      refine lv_iconst (v := 0) hx hb dX5_chooseFrom_51 (by decide) ?_
      refine lv_aload_n hx hb dX5_chooseFrom_52 rfl (lv_at hl 0 rfl) ?_
      refine tk_get (ci := 5) (C := RX5) (T := TX5) (N := 11) (sp := (6, 20, 8, 0)) hx hb htl inX5 hown hK hG ht_a0 (by decide) tk_no rfl 8 (by decide) (htl _ mw_154) (fun _ h9 => h9) rfl dX5_chooseFrom_53 (fun v9 hf1001 hV9 => ?_)
      obtain ⟨b1002, rfl, ht_b1002⟩ := hV9
      have ht_b1002 : t b1002 = (20, 8, 0) := ht_b1002
      refine lv_iconst (v := 0) hx hb dX5_chooseFrom_56 (by decide) ?_
      refine lv_bipush (v := 8) hx hb dX5_chooseFrom_57 (by decide) ?_
      refine tk_copy (SP := 0) (DP := 0) (NC := 8) hx hb (by rw [hml]; exact hl.1.symm) hown (htl _ mw_1428) (htl _ mw_655) (htl _ mw_656) (htl _ mw_657) hK hG hS ht_b1000 ht_b1002 (by decide) (by decide) (fun _ h => h) (fun _ => Iff.rfl) tk_no tk_no (by decide) (by decide) (by decide) (by decide) (by decide) (by decide) (by decide) (by decide) (fun _ _ _ _ _ => trivial) (tk_w.of ht_b1002 (by decide) (List.mem_of_getElem? (i := 0) rfl) (Nat.le_refl _) (Nat.le_refl _)) (Nat.le_of_ble_eq_true rfl) (Nat.le_of_ble_eq_true rfl) dX5_chooseFrom_59 (fun H locs hG hS hq9 => ?_)
      have hf2 := hf2.kept (hq9 _ (tk_ne ht_ld20 ht_b1002 (Or.inl (by decide))))
      exact hj994 _ _ hG hS hf2 _ (lv_sub hl [] rfl)
    · have hc967 : ¬ (v966.toInt < p3.toInt) := fun h9 => c9 ((fi_lt rfl rfl).mpr h9)
      refine lv_iload_n hx hb dX5_chooseFrom_19 rfl (lv_at hl 3 rfl) ?_
      refine lv_aload_n hx hb dX5_chooseFrom_20 rfl (lv_at hl 0 rfl) ?_
      refine tk_get (ci := 5) (C := RX5) (T := TX5) (N := 11) (sp := (0, (-2147483648), 2147483647, 0)) hx hb htl inX5 hown hK hG ht_a0 (by decide) tk_no rfl 9 (by decide) (htl _ mw_1421) (fun _ h9 => h9) rfl dX5_chooseFrom_21 (fun v9 hf1004 hV9 => ?_)
      obtain ⟨v1005, rfl, ha_v1005, hb_v1005⟩ := hV9
      refine lv_icmp_ne (tgt := 62) hx hb dX5_chooseFrom_24 (by decide) (fun c9 => ?_) (fun c9 => ?_)
      · have hc1006 : ¬ (p3.toInt = v1005.toInt) := fun h9 => c9 ((fi_eq rfl rfl).mpr h9)
        exact hj994 _ _ hG hS hf2 _ (lv_sub hl [] rfl)
      · have hc1006 : p3.toInt = v1005.toInt := (fi_eq rfl rfl).mp c9
        refine lv_iload hx hb dX5_chooseFrom_27 (lv_at hl 4 rfl) ?_
        refine lv_aload_n hx hb dX5_chooseFrom_29 rfl (lv_at hl 0 rfl) ?_
        refine tk_get (ci := 5) (C := RX5) (T := TX5) (N := 11) (sp := (0, (-2147483648), 2147483647, 0)) hx hb htl inX5 hown hK hG ht_a0 (by decide) tk_no rfl 10 (by decide) (htl _ mw_1422) (fun _ h9 => h9) rfl dX5_chooseFrom_30 (fun v9 hf1007 hV9 => ?_)
        obtain ⟨v1008, rfl, ha_v1008, hb_v1008⟩ := hV9
        refine lv_icmp_ge (tgt := 62) hx hb dX5_chooseFrom_33 (by decide) (fun c9 => ?_) (fun c9 => ?_)
        · have hc1009 : v1008.toInt ≤ p4.toInt := (fi_le rfl rfl).mp c9
          exact hj994 _ _ hG hS hf2 _ (lv_sub hl [] rfl)
        · have hc1009 : ¬ (v1008.toInt ≤ p4.toInt) := fun h9 => c9 ((fi_le rfl rfl).mpr h9)
          refine lv_aload_n hx hb dX5_chooseFrom_36 rfl (lv_at hl 0 rfl) ?_
          refine lv_iload_n hx hb dX5_chooseFrom_37 rfl (lv_at hl 3 rfl) ?_
          refine tk_put (ci := 5) (v := .int p3) (ty := .int) (C := RX5) (T := TX5) (N := 11) (sp := (0, (-2147483648), 2147483647, 0)) hx hb htl inX5 tyX5 tyX5_ok nmX5 hown hK hG hS ht_a0 (by decide) tk_no rfl 9 (by decide) (htl _ mw_1421) (fun _ h9 => h9) rfl (tyX5_ok 9 (by decide)) rfl rfl rfl (tk_Vi (tk_rng _).1 (tk_rng _).2) (fun _ h => h) (tk_w.of ht_a0 (by decide) (List.mem_of_getElem? (i := 1) rfl) (Nat.le_refl _) (Nat.le_refl _)) dX5_chooseFrom_38 (fun H locs hG hS hf1010 hq9 hj9 => ?_)
          have hf2 := hf2.kept (hq9 _ (tk_ne ht_ld20 ht_a0 (Or.inl (by decide))))
          refine lv_aload_n hx hb dX5_chooseFrom_41 rfl (lv_at hl 0 rfl) ?_
          refine lv_iload hx hb dX5_chooseFrom_42 (lv_at hl 4 rfl) ?_
          refine tk_put (ci := 5) (v := .int p4) (ty := .int) (C := RX5) (T := TX5) (N := 11) (sp := (0, (-2147483648), 2147483647, 0)) hx hb htl inX5 tyX5 tyX5_ok nmX5 hown hK hG hS ht_a0 (by decide) tk_no rfl 10 (by decide) (htl _ mw_1422) (fun _ h9 => h9) rfl (tyX5_ok 10 (by decide)) rfl rfl rfl (tk_Vi (tk_rng _).1 (tk_rng _).2) (fun _ h => h) (tk_w.of ht_a0 (by decide) (List.mem_of_getElem? (i := 1) rfl) (Nat.le_refl _) (Nat.le_refl _)) dX5_chooseFrom_44 (fun H locs hG hS hf1012 hq9 hj9 => ?_)
          have hf2 := hf2.kept (hq9 _ (tk_ne ht_ld20 ht_a0 (Or.inl (by decide))))
          refine lv_aload_n hx hb dX5_chooseFrom_47 rfl (lv_at hl 0 rfl) ?_
          refine tk_get (ci := 5) (C := RX5) (T := TX5) (N := 11) (sp := (6, 20, 8, 0)) hx hb htl inX5 hown hK hG ht_a0 (by decide) tk_no rfl 7 (by decide) (htl _ mw_153) (fun _ h9 => h9) rfl dX5_chooseFrom_48 (fun v9 hf1014 hV9 => ?_)
          obtain ⟨b1015, rfl, ht_b1015⟩ := hV9
          have ht_b1015 : t b1015 = (20, 8, 0) := ht_b1015
          refine lv_iconst (v := 0) hx hb dX5_chooseFrom_51 (by decide) ?_
          refine lv_aload_n hx hb dX5_chooseFrom_52 rfl (lv_at hl 0 rfl) ?_
          refine tk_get (ci := 5) (C := RX5) (T := TX5) (N := 11) (sp := (6, 20, 8, 0)) hx hb htl inX5 hown hK hG ht_a0 (by decide) tk_no rfl 8 (by decide) (htl _ mw_154) (fun _ h9 => h9) rfl dX5_chooseFrom_53 (fun v9 hf1016 hV9 => ?_)
          obtain ⟨b1017, rfl, ht_b1017⟩ := hV9
          have ht_b1017 : t b1017 = (20, 8, 0) := ht_b1017
          refine lv_iconst (v := 0) hx hb dX5_chooseFrom_56 (by decide) ?_
          refine lv_bipush (v := 8) hx hb dX5_chooseFrom_57 (by decide) ?_
          refine tk_copy (SP := 0) (DP := 0) (NC := 8) hx hb (by rw [hml]; exact hl.1.symm) hown (htl _ mw_1428) (htl _ mw_655) (htl _ mw_656) (htl _ mw_657) hK hG hS ht_b1015 ht_b1017 (by decide) (by decide) (fun _ h => h) (fun _ => Iff.rfl) tk_no tk_no (by decide) (by decide) (by decide) (by decide) (by decide) (by decide) (by decide) (by decide) (fun _ _ _ _ _ => trivial) (tk_w.of ht_b1017 (by decide) (List.mem_of_getElem? (i := 0) rfl) (Nat.le_refl _) (Nat.le_refl _)) (Nat.le_of_ble_eq_true rfl) (Nat.le_of_ble_eq_true rfl) dX5_chooseFrom_59 (fun H locs hG hS hq9 => ?_)
          have hf2 := hf2.kept (hq9 _ (tk_ne ht_ld20 ht_b1017 (Or.inl (by decide))))
          exact hj994 _ _ hG hS hf2 _ (lv_sub hl [] rfl)
