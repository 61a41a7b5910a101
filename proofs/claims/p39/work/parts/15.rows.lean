theorem dX12_image_0 : decode cX12_image 0 = .ok (.iload_n 1, 1) := by decide +kernel
theorem dX12_image_1 : decode cX12_image 1 = .ok (.iconst 0, 1) := by decide +kernel
theorem dX12_image_2 : decode cX12_image 2 = .ok (.iconst 1, 1) := by decide +kernel
theorem dX12_image_3 : decode cX12_image 3 = .ok (.invokestatic 146, 3) := by decide +kernel
theorem dX12_image_6 : decode cX12_image 6 = .ok (.ifCond .ne 9, 3) := by decide +kernel
theorem dX12_image_15 : decode cX12_image 15 = .ok (.aload_n 0, 1) := by decide +kernel
theorem dX12_image_16 : decode cX12_image 16 = .ok (.getfield 16, 3) := by decide +kernel
theorem dX12_image_19 : decode cX12_image 19 = .ok (.iload_n 1, 1) := by decide +kernel
theorem dX12_image_20 : decode cX12_image 20 = .ok (.aaload, 1) := by decide +kernel
theorem dX12_image_21 : decode cX12_image 21 = .ok (.aload_n 0, 1) := by decide +kernel
theorem dX12_image_22 : decode cX12_image 22 = .ok (.getfield 10, 3) := by decide +kernel
theorem dX12_image_25 : decode cX12_image 25 = .ok (.invokevirtual 345, 3) := by decide +kernel
theorem dX12_image_28 : decode cX12_image 28 = .ok (.aload_n 0, 1) := by decide +kernel
theorem dX12_image_29 : decode cX12_image 29 = .ok (.getfield 20, 3) := by decide +kernel
theorem dX12_image_32 : decode cX12_image 32 = .ok (.iload_n 1, 1) := by decide +kernel
theorem dX12_image_33 : decode cX12_image 33 = .ok (.iconst 1, 1) := by decide +kernel
theorem dX12_image_34 : decode cX12_image 34 = .ok (.bastore, 1) := by decide +kernel
theorem dX12_image_35 : decode cX12_image 35 = .ok (.aload_n 0, 1) := by decide +kernel
theorem dX12_image_36 : decode cX12_image 36 = .ok (.iconst 0, 1) := by decide +kernel
theorem dX12_image_37 : decode cX12_image 37 = .ok (.invokevirtual 165, 3) := by decide +kernel
theorem dX12_image_40 : decode cX12_image 40 = .ok (.ireturn, 1) := by decide +kernel
theorem dX12_image_9 : decode cX12_image 9 = .ok (.aload_n 0, 1) := by decide +kernel
theorem dX12_image_10 : decode cX12_image 10 = .ok (.iconst (-1), 1) := by decide +kernel
theorem dX12_image_11 : decode cX12_image 11 = .ok (.invokevirtual 159, 3) := by decide +kernel
theorem dX12_image_14 : decode cX12_image 14 = .ok (.ireturn, 1) := by decide +kernel
set_option maxHeartbeats 4000000 in
set_option maxRecDepth 100000 in
theorem k_X12_image (l : Launch) (D : va_G) (cy : Nat → ClassId) (ld : Nat → Nat) (t : tk_T) (a0 : Nat) (p1 : Int32) (ht_a0 : t a0 = (13, 0, 0)) : Met l yX12_image (wl yX12_image cX12_image 2 (some .int)) ({ frames := 6, cells := 0, slots := 0, locals := 350 }) (tp D cy ld t [] [.ref a0, .int p1] (fun H => True)) (ti D cy ld t [] (fun r H => True) (tk_w t [(3, 6 + p1.toNatClampNeg, 6 + p1.toNatClampNeg), (20, 6 + p1.toNatClampNeg, 6 + p1.toNatClampNeg), (21, 6 + p1.toNatClampNeg, 6 + p1.toNatClampNeg), (24, 6 + p1.toNatClampNeg, 6 + p1.toNatClampNeg), (28, 6 + p1.toNatClampNeg, 6 + p1.toNatClampNeg), (10, 6 + p1.toNatClampNeg, 6 + p1.toNatClampNeg), (29, 0, 0), (13, 0, 0), (20, 0, 0)])) 0 0 (tk_w t [(3, 6 + p1.toNatClampNeg, 6 + p1.toNatClampNeg), (20, 6 + p1.toNatClampNeg, 6 + p1.toNatClampNeg), (21, 6 + p1.toNatClampNeg, 6 + p1.toNatClampNeg), (24, 6 + p1.toNatClampNeg, 6 + p1.toNatClampNeg), (28, 6 + p1.toNatClampNeg, 6 + p1.toNatClampNeg), (10, 6 + p1.toNatClampNeg, 6 + p1.toNatClampNeg), (29, 0, 0), (13, 0, 0), (20, 0, 0)]) := by
  refine tk_met (y := yX12_image) (cc := cX12_image) (maxL := 2) (ret := (some .int)) (av := [.ref a0, .int p1]) _ _ (by decide) (Nat.le_of_ble_eq_true rfl) ?_
  intro p e s m args below meth c hx hb hr hml hts htl hown hlocks hK H locs hH hG hS hB hZ ls hl
  have hown : s.vm.findClass RX12 = some m.cls := hown
  have hl : lv_has ls 2 [(0, .ref a0), (1, .int p1)] := hl
  have hr_p1 := tk_rng p1
  refine lv_iload_n hx hb dX12_image_0 rfl (lv_at hl 1 rfl) ?_
  refine lv_iconst (v := 0) hx hb dX12_image_1 (by decide) ?_
  refine lv_iconst (v := 1) hx hb dX12_image_2 (by decide) ?_
  have hk_0 : (0 : Int32).toInt = 0 := by decide
  have hk_1 : (1 : Int32).toInt = 1 := by decide
  refine tk_Si (As := [.int p1, .int 0, .int 1]) (rest := []) ⟨hx, hb, hml, hown, hts⟩ hK hG hZ hS (k_X12_within l D cy ld t _ p1 0 1) trivial ⟨callB_of 3 hts (wl_in mw_262) rfl rfl rfl (htl _ mw_2) (htl _ mw_277) hd_yX12_within ⟨(Nat.le_of_ble_eq_true rfl), (Nat.le_of_ble_eq_true rfl)⟩, htl _ mw_261⟩ (tk_w.pick [] rfl) rfl hl.1 rfl (Nat.le_of_ble_eq_true rfl) dX12_image_3 ⟨(Nat.le_of_ble_eq_true rfl), (Nat.le_of_ble_eq_true rfl)⟩ (fun v1 H locs hpo hG hS hq9 => ?_)
  obtain ⟨hpo3, hpo4, hpo5, hpo6, hpo7⟩ := hpo
  refine lv_if_ne (tgt := 15) hx hb dX12_image_6 (by decide) (fun c9 => ?_) (fun c9 => ?_)
  · have hc8 : ¬ (v1.toInt = 0) := fun h9 => c9 ((fi_eq rfl (by decide)).mpr h9)
    refine lv_aload_n hx hb dX12_image_15 rfl (lv_at hl 0 rfl) ?_
    refine tk_get (ci := 12) (C := RX12) (T := TX12) (N := 17) (sp := (6, 27, 2, 0)) hx hb htl inX12 hown hK hG ht_a0 (by decide) tk_no rfl 1 (by decide) (htl _ mw_16) (fun _ h9 => h9) rfl dX12_image_16 (fun v9 hf9 hV9 => ?_)
    obtain ⟨b10, rfl, ht_b10⟩ := hV9
    have ht_b10 : t b10 = (27, 2, 0) := ht_b10
    refine lv_iload_n hx hb dX12_image_19 rfl (lv_at hl 1 rfl) ?_
    refine tk_aald hx hb hK hG 4 rfl rfl ht_b10 (by decide) (fun _ h => h) tk_no rfl (by omega) (by omega) dX12_image_20 (fun o11 ht_o11 => ?_)
    obtain ⟨b12, rfl, ht_b12⟩ := ht_o11
    have ht_b12 : t b12 = (3, 0, 6 + p1.toNatClampNeg) := ht_b12
    refine fx_top (v := .ref b12) rfl ?_
    refine lv_aload_n hx hb dX12_image_21 rfl (lv_at hl 0 rfl) ?_
    refine tk_get (ci := 12) (C := RX12) (T := TX12) (N := 17) (sp := (8, 20, 3, 0)) hx hb htl inX12 hown hK hG ht_a0 (by decide) tk_no rfl 0 (by decide) (htl _ mw_15) (fun _ h9 => h9) rfl dX12_image_22 (fun v9 hf13 hV9 => ?_)
    obtain ⟨rfl, ht_ld20⟩ := hV9
    have ht_ld20 : t (ld 20) = (3, 0, 0) := ht_ld20
    refine fx_top (v := .ref (ld 20)) rfl ?_
    refine tk_Vv (As := [.ref (ld 20)]) (rest := []) (ci := 2) ⟨hx, hb, hml, hown, hts⟩ hK hG hZ hS (k_X2_copyFrom l D cy ld t (6 + p1.toNatClampNeg) 0 b12 (ld 20) ht_b12 ht_ld20 (by omega)) trivial ⟨callB_of 1 hts (wl_in mw_1711) rfl rfl rfl (htl _ mw_14) (htl _ mw_1708) hd_yX2_copyFrom ⟨(Nat.le_of_ble_eq_true rfl), (Nat.le_of_ble_eq_true rfl)⟩, htl _ mw_1709, htl _ mw_1710⟩ ht_b12 (by decide) tk_no rfl (tk_w.pick [0, 1, 2, 3, 4, 5] rfl) rfl hl.1 rfl (Nat.le_of_ble_eq_true rfl) dX12_image_25 ⟨(Nat.le_of_ble_eq_true rfl), (Nat.le_of_ble_eq_true rfl)⟩ (fun H locs hpo hG hS hq9 => ?_)
    refine lv_aload_n hx hb dX12_image_28 rfl (lv_at hl 0 rfl) ?_
    refine tk_get (ci := 12) (C := RX12) (T := TX12) (N := 17) (sp := (6, 29, 2, 0)) hx hb htl inX12 hown hK hG ht_a0 (by decide) tk_no rfl 2 (by decide) (htl _ mw_18) (fun _ h9 => h9) rfl dX12_image_29 (fun v9 hf15 hV9 => ?_)
    obtain ⟨b16, rfl, ht_b16⟩ := hV9
    have ht_b16 : t b16 = (29, 2, 0) := ht_b16
    refine lv_iload_n hx hb dX12_image_32 rfl (lv_at hl 1 rfl) ?_
    refine lv_iconst (v := 1) hx hb dX12_image_33 (by decide) ?_
    refine tk_zast hx hb hK hG hS ht_b16 (by decide) (fun _ => Iff.rfl) tk_no rfl (by omega) (by omega) (tk_w.of ht_b16 (by decide) (List.mem_of_getElem? (i := 6) rfl) (Nat.le_refl _) (Nat.le_refl _)) dX12_image_34 (fun H locs hG hS hq9 => ?_)
    refine lv_aload_n hx hb dX12_image_35 rfl (lv_at hl 0 rfl) ?_
    refine lv_iconst (v := 0) hx hb dX12_image_36 (by decide) ?_
    have hk_0 : (0 : Int32).toInt = 0 := by decide
    refine tk_Vi (As := [.int 0]) (rest := []) (ci := 12) ⟨hx, hb, hml, hown, hts⟩ hK hG hZ hS (k_X12_accept l D cy ld t a0 0 ht_a0) trivial ⟨callB_of 1 hts (wl_in mw_281) rfl rfl rfl (htl _ mw_2) (htl _ mw_278) hd_yX12_accept ⟨(Nat.le_of_ble_eq_true rfl), (Nat.le_of_ble_eq_true rfl)⟩, htl _ mw_279, htl _ mw_280⟩ ht_a0 (by decide) tk_no rfl (tk_w.pick [7] rfl) rfl hl.1 rfl (Nat.le_of_ble_eq_true rfl) dX12_image_37 ⟨(Nat.le_of_ble_eq_true rfl), (Nat.le_of_ble_eq_true rfl)⟩ (fun v18 H locs hpo hG hS hq9 => ?_)
    exact tk_iret (v := v18) hx hb hr rfl hlocks trivial hG hS dX12_image_40
  · have hc8 : v1.toInt = 0 := (fi_eq rfl (by decide)).mp c9
    refine lv_aload_n hx hb dX12_image_9 rfl (lv_at hl 0 rfl) ?_
    refine lv_iconst (v := (-1)) hx hb dX12_image_10 (by decide) ?_
    have hk_m1 : ((-1) : Int32).toInt = (-1) := by decide
    refine tk_Vi (As := [.int (-1)]) (rest := []) (ci := 12) ⟨hx, hb, hml, hown, hts⟩ hK hG hZ hS (k_X12_refuse l D cy ld t a0 (-1) ht_a0) trivial ⟨callB_of 1 hts (wl_in mw_275) rfl rfl rfl (htl _ mw_2) (htl _ mw_272) hd_yX12_refuse ⟨(Nat.le_of_ble_eq_true rfl), (Nat.le_of_ble_eq_true rfl)⟩, htl _ mw_273, htl _ mw_274⟩ ht_a0 (by decide) tk_no rfl (tk_w.pick [7, 8] rfl) rfl hl.1 rfl (Nat.le_of_ble_eq_true rfl) dX12_image_11 ⟨(Nat.le_of_ble_eq_true rfl), (Nat.le_of_ble_eq_true rfl)⟩ (fun v20 H locs hpo hG hS hq9 => ?_)
    exact tk_iret (v := v20) hx hb hr rfl hlocks trivial hG hS dX12_image_14
theorem dX12_back_0 : decode cX12_back 0 = .ok (.iload_n 1, 1) := by decide +kernel
theorem dX12_back_1 : decode cX12_back 1 = .ok (.iconst 0, 1) := by decide +kernel
theorem dX12_back_2 : decode cX12_back 2 = .ok (.iconst 1, 1) := by decide +kernel
theorem dX12_back_3 : decode cX12_back 3 = .ok (.invokestatic 146, 3) := by decide +kernel
theorem dX12_back_6 : decode cX12_back 6 = .ok (.ifCond .ne 9, 3) := by decide +kernel
theorem dX12_back_15 : decode cX12_back 15 = .ok (.aload_n 0, 1) := by decide +kernel
theorem dX12_back_16 : decode cX12_back 16 = .ok (.getfield 20, 3) := by decide +kernel
theorem dX12_back_19 : decode cX12_back 19 = .ok (.iload_n 1, 1) := by decide +kernel
theorem dX12_back_20 : decode cX12_back 20 = .ok (.baload, 1) := by decide +kernel
theorem dX12_back_21 : decode cX12_back 21 = .ok (.ifCond .ne 10, 3) := by decide +kernel
theorem dX12_back_31 : decode cX12_back 31 = .ok (.aload_n 0, 1) := by decide +kernel
theorem dX12_back_32 : decode cX12_back 32 = .ok (.getfield 10, 3) := by decide +kernel
theorem dX12_back_35 : decode cX12_back 35 = .ok (.aload_n 0, 1) := by decide +kernel
theorem dX12_back_36 : decode cX12_back 36 = .ok (.getfield 16, 3) := by decide +kernel
theorem dX12_back_39 : decode cX12_back 39 = .ok (.iload_n 1, 1) := by decide +kernel
theorem dX12_back_40 : decode cX12_back 40 = .ok (.aaload, 1) := by decide +kernel
theorem dX12_back_41 : decode cX12_back 41 = .ok (.invokevirtual 345, 3) := by decide +kernel
theorem dX12_back_44 : decode cX12_back 44 = .ok (.aload_n 0, 1) := by decide +kernel
theorem dX12_back_45 : decode cX12_back 45 = .ok (.getfield 38, 3) := by decide +kernel
theorem dX12_back_48 : decode cX12_back 48 = .ok (.invokevirtual 107, 3) := by decide +kernel
theorem dX12_back_51 : decode cX12_back 51 = .ok (.aload_n 0, 1) := by decide +kernel
theorem dX12_back_52 : decode cX12_back 52 = .ok (.iconst 0, 1) := by decide +kernel
theorem dX12_back_53 : decode cX12_back 53 = .ok (.invokevirtual 165, 3) := by decide +kernel
theorem dX12_back_56 : decode cX12_back 56 = .ok (.ireturn, 1) := by decide +kernel
theorem dX12_back_24 : decode cX12_back 24 = .ok (.aload_n 0, 1) := by decide +kernel
theorem dX12_back_25 : decode cX12_back 25 = .ok (.bipush (-2), 2) := by decide +kernel
theorem dX12_back_27 : decode cX12_back 27 = .ok (.invokevirtual 159, 3) := by decide +kernel
theorem dX12_back_30 : decode cX12_back 30 = .ok (.ireturn, 1) := by decide +kernel
theorem dX12_back_9 : decode cX12_back 9 = .ok (.aload_n 0, 1) := by decide +kernel
theorem dX12_back_10 : decode cX12_back 10 = .ok (.iconst (-1), 1) := by decide +kernel
theorem dX12_back_11 : decode cX12_back 11 = .ok (.invokevirtual 159, 3) := by decide +kernel
theorem dX12_back_14 : decode cX12_back 14 = .ok (.ireturn, 1) := by decide +kernel
set_option maxHeartbeats 4000000 in
set_option maxRecDepth 100000 in
theorem k_X12_back (l : Launch) (D : va_G) (cy : Nat → ClassId) (ld : Nat → Nat) (t : tk_T) (a0 : Nat) (p1 : Int32) (ht_a0 : t a0 = (13, 0, 0)) : Met l yX12_back (wl yX12_back cX12_back 2 (some .int)) ({ frames := 6, cells := 0, slots := 0, locals := 350 }) (tp D cy ld t [] [.ref a0, .int p1] (fun H => True)) (ti D cy ld t [] (fun r H => True) (tk_w t [(3, 0, 0), (20, 0, 0), (21, 0, 0), (24, 0, 0), (28, 0, 0), (10, 0, 0), (2, 0, 0), (13, 0, 0)])) 0 0 (tk_w t [(3, 0, 0), (20, 0, 0), (21, 0, 0), (24, 0, 0), (28, 0, 0), (10, 0, 0), (2, 0, 0), (13, 0, 0)]) := by
  refine tk_met (y := yX12_back) (cc := cX12_back) (maxL := 2) (ret := (some .int)) (av := [.ref a0, .int p1]) _ _ (by decide) (Nat.le_of_ble_eq_true rfl) ?_
  intro p e s m args below meth c hx hb hr hml hts htl hown hlocks hK H locs hH hG hS hB hZ ls hl
  have hown : s.vm.findClass RX12 = some m.cls := hown
  have hl : lv_has ls 2 [(0, .ref a0), (1, .int p1)] := hl
  have hr_p1 := tk_rng p1
  refine lv_iload_n hx hb dX12_back_0 rfl (lv_at hl 1 rfl) ?_
  refine lv_iconst (v := 0) hx hb dX12_back_1 (by decide) ?_
  refine lv_iconst (v := 1) hx hb dX12_back_2 (by decide) ?_
  have hk_0 : (0 : Int32).toInt = 0 := by decide
  have hk_1 : (1 : Int32).toInt = 1 := by decide
  refine tk_Si (As := [.int p1, .int 0, .int 1]) (rest := []) ⟨hx, hb, hml, hown, hts⟩ hK hG hZ hS (k_X12_within l D cy ld t _ p1 0 1) trivial ⟨callB_of 3 hts (wl_in mw_262) rfl rfl rfl (htl _ mw_2) (htl _ mw_277) hd_yX12_within ⟨(Nat.le_of_ble_eq_true rfl), (Nat.le_of_ble_eq_true rfl)⟩, htl _ mw_261⟩ (tk_w.pick [] rfl) rfl hl.1 rfl (Nat.le_of_ble_eq_true rfl) dX12_back_3 ⟨(Nat.le_of_ble_eq_true rfl), (Nat.le_of_ble_eq_true rfl)⟩ (fun v1 H locs hpo hG hS hq9 => ?_)
  obtain ⟨hpo3, hpo4, hpo5, hpo6, hpo7⟩ := hpo
  refine lv_if_ne (tgt := 15) hx hb dX12_back_6 (by decide) (fun c9 => ?_) (fun c9 => ?_)
  · have hc8 : ¬ (v1.toInt = 0) := fun h9 => c9 ((fi_eq rfl (by decide)).mpr h9)
    refine lv_aload_n hx hb dX12_back_15 rfl (lv_at hl 0 rfl) ?_
    refine tk_get (ci := 12) (C := RX12) (T := TX12) (N := 17) (sp := (6, 29, 2, 0)) hx hb htl inX12 hown hK hG ht_a0 (by decide) tk_no rfl 2 (by decide) (htl _ mw_18) (fun _ h9 => h9) rfl dX12_back_16 (fun v9 hf9 hV9 => ?_)
    obtain ⟨b10, rfl, ht_b10⟩ := hV9
    have ht_b10 : t b10 = (29, 2, 0) := ht_b10
    refine lv_iload_n hx hb dX12_back_19 rfl (lv_at hl 1 rfl) ?_
    refine tk_zald hx hb hK hG ht_b10 (by decide) (fun _ h => h) tk_no rfl (by omega) (by omega) dX12_back_20 (fun v11 _ => ?_)
    refine lv_if_ne (tgt := 31) hx hb dX12_back_21 (by decide) (fun c9 => ?_) (fun c9 => ?_)
    · have hc12 : ¬ (v11.toInt = 0) := fun h9 => c9 ((fi_eq rfl (by decide)).mpr h9)
      refine lv_aload_n hx hb dX12_back_31 rfl (lv_at hl 0 rfl) ?_
      refine tk_get (ci := 12) (C := RX12) (T := TX12) (N := 17) (sp := (8, 20, 3, 0)) hx hb htl inX12 hown hK hG ht_a0 (by decide) tk_no rfl 0 (by decide) (htl _ mw_15) (fun _ h9 => h9) rfl dX12_back_32 (fun v9 hf13 hV9 => ?_)
      obtain ⟨rfl, ht_ld20⟩ := hV9
      have ht_ld20 : t (ld 20) = (3, 0, 0) := ht_ld20
      refine fx_top (v := .ref (ld 20)) rfl ?_
      refine lv_aload_n hx hb dX12_back_35 rfl (lv_at hl 0 rfl) ?_
      refine tk_get (ci := 12) (C := RX12) (T := TX12) (N := 17) (sp := (6, 27, 2, 0)) hx hb htl inX12 hown hK hG ht_a0 (by decide) tk_no rfl 1 (by decide) (htl _ mw_16) (fun _ h9 => h9) rfl dX12_back_36 (fun v9 hf14 hV9 => ?_)
      obtain ⟨b15, rfl, ht_b15⟩ := hV9
      have ht_b15 : t b15 = (27, 2, 0) := ht_b15
      refine lv_iload_n hx hb dX12_back_39 rfl (lv_at hl 1 rfl) ?_
      refine tk_aald hx hb hK hG 4 rfl rfl ht_b15 (by decide) (fun _ h => h) tk_no rfl (by omega) (by omega) dX12_back_40 (fun o16 ht_o16 => ?_)
      obtain ⟨b17, rfl, ht_b17⟩ := ht_o16
      have ht_b17 : t b17 = (3, 0, 6 + p1.toNatClampNeg) := ht_b17
      refine fx_top (v := .ref b17) rfl ?_
      refine tk_Vv (As := [.ref b17]) (rest := []) (ci := 2) ⟨hx, hb, hml, hown, hts⟩ hK hG hZ hS (k_X2_copyFrom l D cy ld t 0 (6 + p1.toNatClampNeg) (ld 20) b17 ht_ld20 ht_b17 (by omega)) trivial ⟨callB_of 1 hts (wl_in mw_1711) rfl rfl rfl (htl _ mw_14) (htl _ mw_1708) hd_yX2_copyFrom ⟨(Nat.le_of_ble_eq_true rfl), (Nat.le_of_ble_eq_true rfl)⟩, htl _ mw_1709, htl _ mw_1710⟩ ht_ld20 (by decide) tk_no rfl (tk_w.pick [0, 1, 2, 3, 4, 5] rfl) rfl hl.1 rfl (Nat.le_of_ble_eq_true rfl) dX12_back_41 ⟨(Nat.le_of_ble_eq_true rfl), (Nat.le_of_ble_eq_true rfl)⟩ (fun H locs hpo hG hS hq9 => ?_)
      refine lv_aload_n hx hb dX12_back_44 rfl (lv_at hl 0 rfl) ?_
      refine tk_get (ci := 12) (C := RX12) (T := TX12) (N := 17) (sp := (6, 2, 0, 0)) hx hb htl inX12 hown hK hG ht_a0 (by decide) tk_no rfl 4 (by decide) (htl _ mw_26) (fun _ h9 => h9) rfl dX12_back_45 (fun v9 hf19 hV9 => ?_)
      obtain ⟨b20, rfl, ht_b20⟩ := hV9
      have ht_b20 : t b20 = (2, 0, 0) := ht_b20
      refine tk_Vv (As := []) (rest := []) (ci := 1) ⟨hx, hb, hml, hown, hts⟩ hK hG hZ hS (k_X1_clearUndone l D cy ld t b20 ht_b20) trivial ⟨callB_of 0 hts (wl_in mw_266) rfl rfl rfl (htl _ mw_25) (htl _ mw_263) hd_yX1_clearUndone ⟨(Nat.le_of_ble_eq_true rfl), (Nat.le_of_ble_eq_true rfl)⟩, htl _ mw_264, htl _ mw_265⟩ ht_b20 (by decide) tk_no rfl (tk_w.pick [6] rfl) rfl hl.1 rfl (Nat.le_of_ble_eq_true rfl) dX12_back_48 ⟨(Nat.le_of_ble_eq_true rfl), (Nat.le_of_ble_eq_true rfl)⟩ (fun H locs hpo hG hS hq9 => ?_)
      refine lv_aload_n hx hb dX12_back_51 rfl (lv_at hl 0 rfl) ?_
      refine lv_iconst (v := 0) hx hb dX12_back_52 (by decide) ?_
      have hk_0 : (0 : Int32).toInt = 0 := by decide
      refine tk_Vi (As := [.int 0]) (rest := []) (ci := 12) ⟨hx, hb, hml, hown, hts⟩ hK hG hZ hS (k_X12_accept l D cy ld t a0 0 ht_a0) trivial ⟨callB_of 1 hts (wl_in mw_281) rfl rfl rfl (htl _ mw_2) (htl _ mw_278) hd_yX12_accept ⟨(Nat.le_of_ble_eq_true rfl), (Nat.le_of_ble_eq_true rfl)⟩, htl _ mw_279, htl _ mw_280⟩ ht_a0 (by decide) tk_no rfl (tk_w.pick [7] rfl) rfl hl.1 rfl (Nat.le_of_ble_eq_true rfl) dX12_back_53 ⟨(Nat.le_of_ble_eq_true rfl), (Nat.le_of_ble_eq_true rfl)⟩ (fun v22 H locs hpo hG hS hq9 => ?_)
      exact tk_iret (v := v22) hx hb hr rfl hlocks trivial hG hS dX12_back_56
    · have hc12 : v11.toInt = 0 := (fi_eq rfl (by decide)).mp c9
      refine lv_aload_n hx hb dX12_back_24 rfl (lv_at hl 0 rfl) ?_
      refine lv_bipush (v := (-2)) hx hb dX12_back_25 (by decide) ?_
      have hk_m2 : ((-2) : Int32).toInt = (-2) := by decide
      refine tk_Vi (As := [.int (-2)]) (rest := []) (ci := 12) ⟨hx, hb, hml, hown, hts⟩ hK hG hZ hS (k_X12_refuse l D cy ld t a0 (-2) ht_a0) trivial ⟨callB_of 1 hts (wl_in mw_275) rfl rfl rfl (htl _ mw_2) (htl _ mw_272) hd_yX12_refuse ⟨(Nat.le_of_ble_eq_true rfl), (Nat.le_of_ble_eq_true rfl)⟩, htl _ mw_273, htl _ mw_274⟩ ht_a0 (by decide) tk_no rfl (tk_w.pick [7, 1] rfl) rfl hl.1 rfl (Nat.le_of_ble_eq_true rfl) dX12_back_27 ⟨(Nat.le_of_ble_eq_true rfl), (Nat.le_of_ble_eq_true rfl)⟩ (fun v24 H locs hpo hG hS hq9 => ?_)
      exact tk_iret (v := v24) hx hb hr rfl hlocks trivial hG hS dX12_back_30
  · have hc8 : v1.toInt = 0 := (fi_eq rfl (by decide)).mp c9
    refine lv_aload_n hx hb dX12_back_9 rfl (lv_at hl 0 rfl) ?_
    refine lv_iconst (v := (-1)) hx hb dX12_back_10 (by decide) ?_
    have hk_m1 : ((-1) : Int32).toInt = (-1) := by decide
    refine tk_Vi (As := [.int (-1)]) (rest := []) (ci := 12) ⟨hx, hb, hml, hown, hts⟩ hK hG hZ hS (k_X12_refuse l D cy ld t a0 (-1) ht_a0) trivial ⟨callB_of 1 hts (wl_in mw_275) rfl rfl rfl (htl _ mw_2) (htl _ mw_272) hd_yX12_refuse ⟨(Nat.le_of_ble_eq_true rfl), (Nat.le_of_ble_eq_true rfl)⟩, htl _ mw_273, htl _ mw_274⟩ ht_a0 (by decide) tk_no rfl (tk_w.pick [7, 1] rfl) rfl hl.1 rfl (Nat.le_of_ble_eq_true rfl) dX12_back_11 ⟨(Nat.le_of_ble_eq_true rfl), (Nat.le_of_ble_eq_true rfl)⟩ (fun v26 H locs hpo hG hS hq9 => ?_)
    exact tk_iret (v := v26) hx hb hr rfl hlocks trivial hG hS dX12_back_14
theorem dX12_count_0 : decode cX12_count 0 = .ok (.iload_n 1, 1) := by decide +kernel
theorem dX12_count_1 : decode cX12_count 1 = .ok (.tableswitch 162 0 14 #[75, 83, 91, 99, 107, 115, 123, 162, 162, 162, 162, 162, 128, 136, 149], 75) := by decide +kernel
theorem dX12_count_76 : decode cX12_count 76 = .ok (.aload_n 0, 1) := by decide +kernel
theorem dX12_count_77 : decode cX12_count 77 = .ok (.getfield 10, 3) := by decide +kernel
theorem dX12_count_80 : decode cX12_count 80 = .ok (.getfield 348, 3) := by decide +kernel
theorem dX12_count_83 : decode cX12_count 83 = .ok (.ireturn, 1) := by decide +kernel
theorem dX12_count_84 : decode cX12_count 84 = .ok (.aload_n 0, 1) := by decide +kernel
theorem dX12_count_85 : decode cX12_count 85 = .ok (.getfield 10, 3) := by decide +kernel
theorem dX12_count_88 : decode cX12_count 88 = .ok (.getfield 277, 3) := by decide +kernel
theorem dX12_count_91 : decode cX12_count 91 = .ok (.ireturn, 1) := by decide +kernel
theorem dX12_count_92 : decode cX12_count 92 = .ok (.aload_n 0, 1) := by decide +kernel
theorem dX12_count_93 : decode cX12_count 93 = .ok (.getfield 10, 3) := by decide +kernel
theorem dX12_count_96 : decode cX12_count 96 = .ok (.getfield 349, 3) := by decide +kernel
theorem dX12_count_99 : decode cX12_count 99 = .ok (.ireturn, 1) := by decide +kernel
theorem dX12_count_100 : decode cX12_count 100 = .ok (.aload_n 0, 1) := by decide +kernel
theorem dX12_count_101 : decode cX12_count 101 = .ok (.getfield 10, 3) := by decide +kernel
theorem dX12_count_104 : decode cX12_count 104 = .ok (.getfield 303, 3) := by decide +kernel
theorem dX12_count_107 : decode cX12_count 107 = .ok (.ireturn, 1) := by decide +kernel
theorem dX12_count_108 : decode cX12_count 108 = .ok (.aload_n 0, 1) := by decide +kernel
theorem dX12_count_109 : decode cX12_count 109 = .ok (.getfield 10, 3) := by decide +kernel
theorem dX12_count_112 : decode cX12_count 112 = .ok (.getfield 188, 3) := by decide +kernel
theorem dX12_count_115 : decode cX12_count 115 = .ok (.ireturn, 1) := by decide +kernel
theorem dX12_count_116 : decode cX12_count 116 = .ok (.aload_n 0, 1) := by decide +kernel
theorem dX12_count_117 : decode cX12_count 117 = .ok (.getfield 38, 3) := by decide +kernel
theorem dX12_count_120 : decode cX12_count 120 = .ok (.getfield 352, 3) := by decide +kernel
theorem dX12_count_123 : decode cX12_count 123 = .ok (.ireturn, 1) := by decide +kernel
theorem dX12_count_124 : decode cX12_count 124 = .ok (.aload_n 0, 1) := by decide +kernel
theorem dX12_count_125 : decode cX12_count 125 = .ok (.getfield 178, 3) := by decide +kernel
theorem dX12_count_128 : decode cX12_count 128 = .ok (.ireturn, 1) := by decide +kernel
theorem dX12_count_163 : decode cX12_count 163 = .ok (.iload_n 1, 1) := by decide +kernel
theorem dX12_count_164 : decode cX12_count 164 = .ok (.bipush 7, 2) := by decide +kernel
theorem dX12_count_166 : decode cX12_count 166 = .ok (.bipush 11, 2) := by decide +kernel
theorem dX12_count_168 : decode cX12_count 168 = .ok (.invokestatic 146, 3) := by decide +kernel
theorem dX12_count_171 : decode cX12_count 171 = .ok (.ifCond .eq 13, 3) := by decide +kernel
theorem dX12_count_184 : decode cX12_count 184 = .ok (.iload_n 1, 1) := by decide +kernel
theorem dX12_count_185 : decode cX12_count 185 = .ok (.bipush 15, 2) := by decide +kernel
theorem dX12_count_187 : decode cX12_count 187 = .ok (.bipush 18, 2) := by decide +kernel
theorem dX12_count_189 : decode cX12_count 189 = .ok (.invokestatic 146, 3) := by decide +kernel
theorem dX12_count_210 : decode cX12_count 210 = .ok (.ireturn, 1) := by decide +kernel
theorem dX12_count_192 : decode cX12_count 192 = .ok (.ifCond .eq 17, 3) := by decide +kernel
theorem dX12_count_209 : decode cX12_count 209 = .ok (.iconst (-1), 1) := by decide +kernel
theorem dX12_count_195 : decode cX12_count 195 = .ok (.aload_n 0, 1) := by decide +kernel
theorem dX12_count_196 : decode cX12_count 196 = .ok (.getfield 10, 3) := by decide +kernel
theorem dX12_count_199 : decode cX12_count 199 = .ok (.iload_n 1, 1) := by decide +kernel
theorem dX12_count_200 : decode cX12_count 200 = .ok (.bipush 15, 2) := by decide +kernel
theorem dX12_count_202 : decode cX12_count 202 = .ok (.isub, 1) := by decide +kernel
theorem dX12_count_203 : decode cX12_count 203 = .ok (.invokevirtual 171, 3) := by decide +kernel
theorem dX12_count_206 : decode cX12_count 206 = .ok (.goto 4, 3) := by decide +kernel
theorem dX12_count_174 : decode cX12_count 174 = .ok (.aload_n 0, 1) := by decide +kernel
theorem dX12_count_175 : decode cX12_count 175 = .ok (.getfield 96, 3) := by decide +kernel
theorem dX12_count_178 : decode cX12_count 178 = .ok (.iload_n 1, 1) := by decide +kernel
theorem dX12_count_179 : decode cX12_count 179 = .ok (.bipush 7, 2) := by decide +kernel
theorem dX12_count_181 : decode cX12_count 181 = .ok (.isub, 1) := by decide +kernel
theorem dX12_count_182 : decode cX12_count 182 = .ok (.iaload, 1) := by decide +kernel
theorem dX12_count_183 : decode cX12_count 183 = .ok (.ireturn, 1) := by decide +kernel
theorem dX12_count_129 : decode cX12_count 129 = .ok (.aload_n 0, 1) := by decide +kernel
theorem dX12_count_130 : decode cX12_count 130 = .ok (.getfield 10, 3) := by decide +kernel
theorem dX12_count_133 : decode cX12_count 133 = .ok (.getfield 215, 3) := by decide +kernel
theorem dX12_count_136 : decode cX12_count 136 = .ok (.ireturn, 1) := by decide +kernel
theorem dX12_count_137 : decode cX12_count 137 = .ok (.aload_n 0, 1) := by decide +kernel
theorem dX12_count_138 : decode cX12_count 138 = .ok (.getfield 10, 3) := by decide +kernel
theorem dX12_count_141 : decode cX12_count 141 = .ok (.getfield 118, 3) := by decide +kernel
theorem dX12_count_144 : decode cX12_count 144 = .ok (.getfield 168, 3) := by decide +kernel
theorem dX12_count_147 : decode cX12_count 147 = .ok (.iconst 0, 1) := by decide +kernel
theorem dX12_count_148 : decode cX12_count 148 = .ok (.iaload, 1) := by decide +kernel
theorem dX12_count_149 : decode cX12_count 149 = .ok (.ireturn, 1) := by decide +kernel
theorem dX12_count_150 : decode cX12_count 150 = .ok (.aload_n 0, 1) := by decide +kernel
theorem dX12_count_151 : decode cX12_count 151 = .ok (.getfield 10, 3) := by decide +kernel
theorem dX12_count_154 : decode cX12_count 154 = .ok (.getfield 118, 3) := by decide +kernel
theorem dX12_count_157 : decode cX12_count 157 = .ok (.getfield 168, 3) := by decide +kernel
theorem dX12_count_160 : decode cX12_count 160 = .ok (.iconst 1, 1) := by decide +kernel
theorem dX12_count_161 : decode cX12_count 161 = .ok (.iaload, 1) := by decide +kernel
theorem dX12_count_162 : decode cX12_count 162 = .ok (.ireturn, 1) := by decide +kernel
set_option maxHeartbeats 4000000 in
set_option maxRecDepth 100000 in
theorem k_X12_count (l : Launch) (D : va_G) (cy : Nat → ClassId) (ld : Nat → Nat) (t : tk_T) (a0 : Nat) (p1 : Int32) (ht_a0 : t a0 = (13, 0, 0)) : Met l yX12_count (wl yX12_count cX12_count 2 (some .int)) ({ frames := 4, cells := 0, slots := 0, locals := 210 }) (tp D cy ld t [] [.ref a0, .int p1] (fun H => True)) (ti D cy ld t [] (fun r H => True) (tk_w t [])) 0 0 (tk_w t []) := by
  refine tk_met (y := yX12_count) (cc := cX12_count) (maxL := 2) (ret := (some .int)) (av := [.ref a0, .int p1]) _ _ (by decide) (Nat.le_of_ble_eq_true rfl) ?_
  intro p e s m args below meth c hx hb hr hml hts htl hown hlocks hK H locs hH hG hS hB hZ ls hl
  have hown : s.vm.findClass RX12 = some m.cls := hown
  have hl : lv_has ls 2 [(0, .ref a0), (1, .int p1)] := hl
  have hr_p1 := tk_rng p1
  refine lv_iload_n hx hb dX12_count_0 rfl (lv_at hl 1 rfl) ?_
  rcases (show p1.toInt = 0 ∨ p1.toInt = 1 ∨ p1.toInt = 2 ∨ p1.toInt = 3 ∨ p1.toInt = 4 ∨ p1.toInt = 5 ∨ p1.toInt = 6 ∨ p1.toInt = 7 ∨ p1.toInt = 8 ∨ p1.toInt = 9 ∨ p1.toInt = 10 ∨ p1.toInt = 11 ∨ p1.toInt = 12 ∨ p1.toInt = 13 ∨ p1.toInt = 14 ∨ p1.toInt < 0 ∨ 14 < p1.toInt by omega) with hsw | hsw | hsw | hsw | hsw | hsw | hsw | hsw | hsw | hsw | hsw | hsw | hsw | hsw | hsw | hsw | hsw
  · refine lv_tableIn (off := 75) (tgt := 76) hx hb dX12_count_1 (by omega) (by omega) (by rw [hsw]; rfl) (by decide) ?_
    refine lv_aload_n hx hb dX12_count_76 rfl (lv_at hl 0 rfl) ?_
    refine tk_get (ci := 12) (C := RX12) (T := TX12) (N := 17) (sp := (8, 20, 3, 0)) hx hb htl inX12 hown hK hG ht_a0 (by decide) tk_no rfl 0 (by decide) (htl _ mw_15) (fun _ h9 => h9) rfl dX12_count_77 (fun v9 hf1 hV9 => ?_)
    obtain ⟨rfl, ht_ld20⟩ := hV9
    have ht_ld20 : t (ld 20) = (3, 0, 0) := ht_ld20
    refine fx_top (v := .ref (ld 20)) rfl ?_
    refine tk_get (ci := 2) (C := RX2) (T := TX2) (N := 20) (sp := (0, 0, 8, 0)) hx hb htl inX2 hown hK hG ht_ld20 (by decide) tk_no rfl 0 (by decide) (htl _ mw_1730) (fun _ h9 => h9) rfl dX12_count_80 (fun v9 hf2 hV9 => ?_)
    obtain ⟨v3, rfl, ha_v3, hb_v3⟩ := hV9
    exact tk_iret (v := v3) hx hb hr rfl hlocks trivial hG hS dX12_count_83
  · refine lv_tableIn (off := 83) (tgt := 84) hx hb dX12_count_1 (by omega) (by omega) (by rw [hsw]; rfl) (by decide) ?_
    refine lv_aload_n hx hb dX12_count_84 rfl (lv_at hl 0 rfl) ?_
    refine tk_get (ci := 12) (C := RX12) (T := TX12) (N := 17) (sp := (8, 20, 3, 0)) hx hb htl inX12 hown hK hG ht_a0 (by decide) tk_no rfl 0 (by decide) (htl _ mw_15) (fun _ h9 => h9) rfl dX12_count_85 (fun v9 hf4 hV9 => ?_)
    obtain ⟨rfl, ht_ld20⟩ := hV9
    have ht_ld20 : t (ld 20) = (3, 0, 0) := ht_ld20
    refine fx_top (v := .ref (ld 20)) rfl ?_
    refine tk_get (ci := 2) (C := RX2) (T := TX2) (N := 20) (sp := (0, 0, 10, 0)) hx hb htl inX2 hown hK hG ht_ld20 (by decide) tk_no rfl 4 (by decide) (htl _ mw_1331) (fun _ h9 => h9) rfl dX12_count_88 (fun v9 hf5 hV9 => ?_)
    obtain ⟨v6, rfl, ha_v6, hb_v6⟩ := hV9
    exact tk_iret (v := v6) hx hb hr rfl hlocks trivial hG hS dX12_count_91
  · refine lv_tableIn (off := 91) (tgt := 92) hx hb dX12_count_1 (by omega) (by omega) (by rw [hsw]; rfl) (by decide) ?_
    refine lv_aload_n hx hb dX12_count_92 rfl (lv_at hl 0 rfl) ?_
    refine tk_get (ci := 12) (C := RX12) (T := TX12) (N := 17) (sp := (8, 20, 3, 0)) hx hb htl inX12 hown hK hG ht_a0 (by decide) tk_no rfl 0 (by decide) (htl _ mw_15) (fun _ h9 => h9) rfl dX12_count_93 (fun v9 hf7 hV9 => ?_)
    obtain ⟨rfl, ht_ld20⟩ := hV9
    have ht_ld20 : t (ld 20) = (3, 0, 0) := ht_ld20
    refine fx_top (v := .ref (ld 20)) rfl ?_
    refine tk_get (ci := 2) (C := RX2) (T := TX2) (N := 20) (sp := (0, 0, 10, 0)) hx hb htl inX2 hown hK hG ht_ld20 (by decide) tk_no rfl 7 (by decide) (htl _ mw_1731) (fun _ h9 => h9) rfl dX12_count_96 (fun v9 hf8 hV9 => ?_)
    obtain ⟨v9, rfl, ha_v9, hb_v9⟩ := hV9
    exact tk_iret (v := v9) hx hb hr rfl hlocks trivial hG hS dX12_count_99
  · refine lv_tableIn (off := 99) (tgt := 100) hx hb dX12_count_1 (by omega) (by omega) (by rw [hsw]; rfl) (by decide) ?_
    refine lv_aload_n hx hb dX12_count_100 rfl (lv_at hl 0 rfl) ?_
    refine tk_get (ci := 12) (C := RX12) (T := TX12) (N := 17) (sp := (8, 20, 3, 0)) hx hb htl inX12 hown hK hG ht_a0 (by decide) tk_no rfl 0 (by decide) (htl _ mw_15) (fun _ h9 => h9) rfl dX12_count_101 (fun v9 hf10 hV9 => ?_)
    obtain ⟨rfl, ht_ld20⟩ := hV9
    have ht_ld20 : t (ld 20) = (3, 0, 0) := ht_ld20
    refine fx_top (v := .ref (ld 20)) rfl ?_
    refine tk_get (ci := 2) (C := RX2) (T := TX2) (N := 20) (sp := (0, 0, 8, 0)) hx hb htl inX2 hown hK hG ht_ld20 (by decide) tk_no rfl 11 (by decide) (htl _ mw_1499) (fun _ h9 => h9) rfl dX12_count_104 (fun v9 hf11 hV9 => ?_)
    obtain ⟨v12, rfl, ha_v12, hb_v12⟩ := hV9
    exact tk_iret (v := v12) hx hb hr rfl hlocks trivial hG hS dX12_count_107
  · refine lv_tableIn (off := 107) (tgt := 108) hx hb dX12_count_1 (by omega) (by omega) (by rw [hsw]; rfl) (by decide) ?_
    refine lv_aload_n hx hb dX12_count_108 rfl (lv_at hl 0 rfl) ?_
    refine tk_get (ci := 12) (C := RX12) (T := TX12) (N := 17) (sp := (8, 20, 3, 0)) hx hb htl inX12 hown hK hG ht_a0 (by decide) tk_no rfl 0 (by decide) (htl _ mw_15) (fun _ h9 => h9) rfl dX12_count_109 (fun v9 hf13 hV9 => ?_)
    obtain ⟨rfl, ht_ld20⟩ := hV9
    have ht_ld20 : t (ld 20) = (3, 0, 0) := ht_ld20
    refine fx_top (v := .ref (ld 20)) rfl ?_
    refine tk_get (ci := 2) (C := RX2) (T := TX2) (N := 20) (sp := (0, 0, 6, 0)) hx hb htl inX2 hown hK hG ht_ld20 (by decide) tk_no rfl 13 (by decide) (htl _ mw_466) (fun _ h9 => h9) rfl dX12_count_112 (fun v9 hf14 hV9 => ?_)
    obtain ⟨v15, rfl, ha_v15, hb_v15⟩ := hV9
    exact tk_iret (v := v15) hx hb hr rfl hlocks trivial hG hS dX12_count_115
  · refine lv_tableIn (off := 115) (tgt := 116) hx hb dX12_count_1 (by omega) (by omega) (by rw [hsw]; rfl) (by decide) ?_
    refine lv_aload_n hx hb dX12_count_116 rfl (lv_at hl 0 rfl) ?_
    refine tk_get (ci := 12) (C := RX12) (T := TX12) (N := 17) (sp := (6, 2, 0, 0)) hx hb htl inX12 hown hK hG ht_a0 (by decide) tk_no rfl 4 (by decide) (htl _ mw_26) (fun _ h9 => h9) rfl dX12_count_117 (fun v9 hf16 hV9 => ?_)
    obtain ⟨b17, rfl, ht_b17⟩ := hV9
    have ht_b17 : t b17 = (2, 0, 0) := ht_b17
    refine tk_get (ci := 1) (C := RX1) (T := TX1) (N := 11) (sp := (0, 0, 16, 0)) hx hb htl inX1 hown hK hG ht_b17 (by decide) tk_no rfl 0 (by decide) (htl _ mw_1732) (fun _ h9 => h9) rfl dX12_count_120 (fun v9 hf18 hV9 => ?_)
    obtain ⟨v19, rfl, ha_v19, hb_v19⟩ := hV9
    exact tk_iret (v := v19) hx hb hr rfl hlocks trivial hG hS dX12_count_123
  · refine lv_tableIn (off := 123) (tgt := 124) hx hb dX12_count_1 (by omega) (by omega) (by rw [hsw]; rfl) (by decide) ?_
    refine lv_aload_n hx hb dX12_count_124 rfl (lv_at hl 0 rfl) ?_
    refine tk_get (ci := 12) (C := RX12) (T := TX12) (N := 17) (sp := (0, 0, 400, 0)) hx hb htl inX12 hown hK hG ht_a0 (by decide) tk_no rfl 13 (by decide) (htl _ mw_422) (fun _ h9 => h9) rfl dX12_count_125 (fun v9 hf20 hV9 => ?_)
    obtain ⟨v21, rfl, ha_v21, hb_v21⟩ := hV9
    exact tk_iret (v := v21) hx hb hr rfl hlocks trivial hG hS dX12_count_128
  · refine lv_tableIn (off := 162) (tgt := 163) hx hb dX12_count_1 (by omega) (by omega) (by rw [hsw]; rfl) (by decide) ?_
    refine lv_iload_n hx hb dX12_count_163 rfl (lv_at hl 1 rfl) ?_
    refine lv_bipush (v := 7) hx hb dX12_count_164 (by decide) ?_
    refine lv_bipush (v := 11) hx hb dX12_count_166 (by decide) ?_
    have hk_7 : (7 : Int32).toInt = 7 := by decide
    have hk_11 : (11 : Int32).toInt = 11 := by decide
    refine tk_Si (As := [.int p1, .int 7, .int 11]) (rest := []) ⟨hx, hb, hml, hown, hts⟩ hK hG hZ hS (k_X12_within l D cy ld t _ p1 7 11) trivial ⟨callB_of 3 hts (wl_in mw_262) rfl rfl rfl (htl _ mw_2) (htl _ mw_277) hd_yX12_within ⟨(Nat.le_of_ble_eq_true rfl), (Nat.le_of_ble_eq_true rfl)⟩, htl _ mw_261⟩ (tk_w.pick [] rfl) rfl hl.1 rfl (Nat.le_of_ble_eq_true rfl) dX12_count_168 ⟨(Nat.le_of_ble_eq_true rfl), (Nat.le_of_ble_eq_true rfl)⟩ (fun v22 H locs hpo hG hS hq9 => ?_)
    obtain ⟨hpo24, hpo25, hpo26, hpo27, hpo28⟩ := hpo
    refine lv_if_eq (tgt := 184) hx hb dX12_count_171 (by decide) (fun c9 => ?_) (fun c9 => ?_)
    · have hc29 : v22.toInt = 0 := (fi_eq rfl (by decide)).mp c9
      refine lv_iload_n hx hb dX12_count_184 rfl (lv_at hl 1 rfl) ?_
      refine lv_bipush (v := 15) hx hb dX12_count_185 (by decide) ?_
      refine lv_bipush (v := 18) hx hb dX12_count_187 (by decide) ?_
      have hk_15 : (15 : Int32).toInt = 15 := by decide
      have hk_18 : (18 : Int32).toInt = 18 := by decide
      refine tk_Si (As := [.int p1, .int 15, .int 18]) (rest := []) ⟨hx, hb, hml, hown, hts⟩ hK hG hZ hS (k_X12_within l D cy ld t _ p1 15 18) trivial ⟨callB_of 3 hts (wl_in mw_262) rfl rfl rfl (htl _ mw_2) (htl _ mw_277) hd_yX12_within ⟨(Nat.le_of_ble_eq_true rfl), (Nat.le_of_ble_eq_true rfl)⟩, htl _ mw_261⟩ (tk_w.pick [] rfl) rfl hl.1 rfl (Nat.le_of_ble_eq_true rfl) dX12_count_189 ⟨(Nat.le_of_ble_eq_true rfl), (Nat.le_of_ble_eq_true rfl)⟩ (fun v30 H locs hpo hG hS hq9 => ?_)
      obtain ⟨hpo32, hpo33, hpo34, hpo35, hpo36⟩ := hpo
      have hj46 : ∀ (v44 : Int32) (H : Heap) (locs : List Loc), 0 ≤ p1.toInt + (-1) * v44.toInt + (-1) → tk_G D cy ld t [] H → va_S (tk_w t []) s.heap H locs → ∀ ls : Array Slot, lv_has ls 2 [] → W p l e ({ frames := 4, cells := 0, slots := 0, locals := 210 }) s m args below meth c H locs 0 0 (MQ below (ti D cy ld t [] (fun r H => True) (tk_w t [])) args s 0 0 (tk_w t [])) (F0 m 210 ls [.int v44]) := by
        intro v44 H locs hq0_j46 hG hS ls hl
        exact tk_iret (v := v44) hx hb hr rfl hlocks trivial hG hS dX12_count_210
      refine lv_if_eq (tgt := 209) hx hb dX12_count_192 (by decide) (fun c9 => ?_) (fun c9 => ?_)
      · have hc37 : v30.toInt = 0 := (fi_eq rfl (by decide)).mp c9
        refine lv_iconst (v := (-1)) hx hb dX12_count_209 (by decide) ?_
        have hk_m1 : ((-1) : Int32).toInt = (-1) := by decide
        exact hj46 (-1) _ _ (by omega) hG hS _ (lv_sub hl [] rfl)
      · have hc37 : ¬ (v30.toInt = 0) := fun h9 => c9 ((fi_eq rfl (by decide)).mpr h9)
        refine lv_aload_n hx hb dX12_count_195 rfl (lv_at hl 0 rfl) ?_
        refine tk_get (ci := 12) (C := RX12) (T := TX12) (N := 17) (sp := (8, 20, 3, 0)) hx hb htl inX12 hown hK hG ht_a0 (by decide) tk_no rfl 0 (by decide) (htl _ mw_15) (fun _ h9 => h9) rfl dX12_count_196 (fun v9 hf47 hV9 => ?_)
        obtain ⟨rfl, ht_ld20⟩ := hV9
        have ht_ld20 : t (ld 20) = (3, 0, 0) := ht_ld20
        refine fx_top (v := .ref (ld 20)) rfl ?_
        refine lv_iload_n hx hb dX12_count_199 rfl (lv_at hl 1 rfl) ?_
        refine lv_bipush (v := 15) hx hb dX12_count_200 (by decide) ?_
        refine lv_isub hx hb dX12_count_202 ?_
        refine tk_sub rfl (by decide) (by omega) (by omega) (fun v48 h_v48 => ?_)
        refine tk_Vi (As := [.int v48]) (rest := []) (ci := 2) ⟨hx, hb, hml, hown, hts⟩ hK hG hZ hS (k_X2_termOf l D cy ld t (ld 20) v48 ht_ld20) trivial ⟨callB_of 1 hts (wl_in mw_407) rfl rfl rfl (htl _ mw_14) (htl _ mw_404) hd_yX2_termOf ⟨(Nat.le_of_ble_eq_true rfl), (Nat.le_of_ble_eq_true rfl)⟩, htl _ mw_405, htl _ mw_406⟩ ht_ld20 (by decide) tk_no rfl (tk_w.pick [] rfl) rfl hl.1 rfl (Nat.le_of_ble_eq_true rfl) dX12_count_203 ⟨(Nat.le_of_ble_eq_true rfl), (Nat.le_of_ble_eq_true rfl)⟩ (fun v49 H locs hpo hG hS hq9 => ?_)
        refine lv_goto (tgt := 210) hx hb dX12_count_206 (by decide) ?_
        exact hj46 v49 _ _ (by omega) hG hS _ (lv_sub hl [] rfl)
    · have hc29 : ¬ (v22.toInt = 0) := fun h9 => c9 ((fi_eq rfl (by decide)).mpr h9)
      refine lv_aload_n hx hb dX12_count_174 rfl (lv_at hl 0 rfl) ?_
      refine tk_get (ci := 12) (C := RX12) (T := TX12) (N := 17) (sp := (6, 20, 5, 0)) hx hb htl inX12 hown hK hG ht_a0 (by decide) tk_no rfl 12 (by decide) (htl _ mw_54) (fun _ h9 => h9) rfl dX12_count_175 (fun v9 hf51 hV9 => ?_)
      obtain ⟨b52, rfl, ht_b52⟩ := hV9
      have ht_b52 : t b52 = (20, 5, 0) := ht_b52
      refine lv_iload_n hx hb dX12_count_178 rfl (lv_at hl 1 rfl) ?_
      refine lv_bipush (v := 7) hx hb dX12_count_179 (by decide) ?_
      refine lv_isub hx hb dX12_count_181 ?_
      refine tk_sub rfl (by decide) (by omega) (by omega) (fun v53 h_v53 => ?_)
      refine tk_iald hx hb hK hG ht_b52 (by decide) (fun _ h => h) tk_no rfl (by omega) (by omega) dX12_count_182 (fun v54 _ _ => ?_)
      have hr_v54 := tk_rng v54
      exact tk_iret (v := v54) hx hb hr rfl hlocks trivial hG hS dX12_count_183
  · refine lv_tableIn (off := 162) (tgt := 163) hx hb dX12_count_1 (by omega) (by omega) (by rw [hsw]; rfl) (by decide) ?_
    refine lv_iload_n hx hb dX12_count_163 rfl (lv_at hl 1 rfl) ?_
    refine lv_bipush (v := 7) hx hb dX12_count_164 (by decide) ?_
    refine lv_bipush (v := 11) hx hb dX12_count_166 (by decide) ?_
    have hk_7 : (7 : Int32).toInt = 7 := by decide
    have hk_11 : (11 : Int32).toInt = 11 := by decide
    refine tk_Si (As := [.int p1, .int 7, .int 11]) (rest := []) ⟨hx, hb, hml, hown, hts⟩ hK hG hZ hS (k_X12_within l D cy ld t _ p1 7 11) trivial ⟨callB_of 3 hts (wl_in mw_262) rfl rfl rfl (htl _ mw_2) (htl _ mw_277) hd_yX12_within ⟨(Nat.le_of_ble_eq_true rfl), (Nat.le_of_ble_eq_true rfl)⟩, htl _ mw_261⟩ (tk_w.pick [] rfl) rfl hl.1 rfl (Nat.le_of_ble_eq_true rfl) dX12_count_168 ⟨(Nat.le_of_ble_eq_true rfl), (Nat.le_of_ble_eq_true rfl)⟩ (fun v55 H locs hpo hG hS hq9 => ?_)
    obtain ⟨hpo57, hpo58, hpo59, hpo60, hpo61⟩ := hpo
    refine lv_if_eq (tgt := 184) hx hb dX12_count_171 (by decide) (fun c9 => ?_) (fun c9 => ?_)
    · have hc62 : v55.toInt = 0 := (fi_eq rfl (by decide)).mp c9
      refine lv_iload_n hx hb dX12_count_184 rfl (lv_at hl 1 rfl) ?_
      refine lv_bipush (v := 15) hx hb dX12_count_185 (by decide) ?_
      refine lv_bipush (v := 18) hx hb dX12_count_187 (by decide) ?_
      have hk_15 : (15 : Int32).toInt = 15 := by decide
      have hk_18 : (18 : Int32).toInt = 18 := by decide
      refine tk_Si (As := [.int p1, .int 15, .int 18]) (rest := []) ⟨hx, hb, hml, hown, hts⟩ hK hG hZ hS (k_X12_within l D cy ld t _ p1 15 18) trivial ⟨callB_of 3 hts (wl_in mw_262) rfl rfl rfl (htl _ mw_2) (htl _ mw_277) hd_yX12_within ⟨(Nat.le_of_ble_eq_true rfl), (Nat.le_of_ble_eq_true rfl)⟩, htl _ mw_261⟩ (tk_w.pick [] rfl) rfl hl.1 rfl (Nat.le_of_ble_eq_true rfl) dX12_count_189 ⟨(Nat.le_of_ble_eq_true rfl), (Nat.le_of_ble_eq_true rfl)⟩ (fun v63 H locs hpo hG hS hq9 => ?_)
      obtain ⟨hpo65, hpo66, hpo67, hpo68, hpo69⟩ := hpo
      have hj79 : ∀ (v77 : Int32) (H : Heap) (locs : List Loc), 0 ≤ p1.toInt + (-1) * v77.toInt + (-1) → tk_G D cy ld t [] H → va_S (tk_w t []) s.heap H locs → ∀ ls : Array Slot, lv_has ls 2 [] → W p l e ({ frames := 4, cells := 0, slots := 0, locals := 210 }) s m args below meth c H locs 0 0 (MQ below (ti D cy ld t [] (fun r H => True) (tk_w t [])) args s 0 0 (tk_w t [])) (F0 m 210 ls [.int v77]) := by
        intro v77 H locs hq0_j79 hG hS ls hl
        exact tk_iret (v := v77) hx hb hr rfl hlocks trivial hG hS dX12_count_210
      refine lv_if_eq (tgt := 209) hx hb dX12_count_192 (by decide) (fun c9 => ?_) (fun c9 => ?_)
      · have hc70 : v63.toInt = 0 := (fi_eq rfl (by decide)).mp c9
        refine lv_iconst (v := (-1)) hx hb dX12_count_209 (by decide) ?_
        have hk_m1 : ((-1) : Int32).toInt = (-1) := by decide
        exact hj79 (-1) _ _ (by omega) hG hS _ (lv_sub hl [] rfl)
      · have hc70 : ¬ (v63.toInt = 0) := fun h9 => c9 ((fi_eq rfl (by decide)).mpr h9)
        refine lv_aload_n hx hb dX12_count_195 rfl (lv_at hl 0 rfl) ?_
        refine tk_get (ci := 12) (C := RX12) (T := TX12) (N := 17) (sp := (8, 20, 3, 0)) hx hb htl inX12 hown hK hG ht_a0 (by decide) tk_no rfl 0 (by decide) (htl _ mw_15) (fun _ h9 => h9) rfl dX12_count_196 (fun v9 hf80 hV9 => ?_)
        obtain ⟨rfl, ht_ld20⟩ := hV9
        have ht_ld20 : t (ld 20) = (3, 0, 0) := ht_ld20
        refine fx_top (v := .ref (ld 20)) rfl ?_
        refine lv_iload_n hx hb dX12_count_199 rfl (lv_at hl 1 rfl) ?_
        refine lv_bipush (v := 15) hx hb dX12_count_200 (by decide) ?_
        refine lv_isub hx hb dX12_count_202 ?_
        refine tk_sub rfl (by decide) (by omega) (by omega) (fun v81 h_v81 => ?_)
        refine tk_Vi (As := [.int v81]) (rest := []) (ci := 2) ⟨hx, hb, hml, hown, hts⟩ hK hG hZ hS (k_X2_termOf l D cy ld t (ld 20) v81 ht_ld20) trivial ⟨callB_of 1 hts (wl_in mw_407) rfl rfl rfl (htl _ mw_14) (htl _ mw_404) hd_yX2_termOf ⟨(Nat.le_of_ble_eq_true rfl), (Nat.le_of_ble_eq_true rfl)⟩, htl _ mw_405, htl _ mw_406⟩ ht_ld20 (by decide) tk_no rfl (tk_w.pick [] rfl) rfl hl.1 rfl (Nat.le_of_ble_eq_true rfl) dX12_count_203 ⟨(Nat.le_of_ble_eq_true rfl), (Nat.le_of_ble_eq_true rfl)⟩ (fun v82 H locs hpo hG hS hq9 => ?_)
        refine lv_goto (tgt := 210) hx hb dX12_count_206 (by decide) ?_
        exact hj79 v82 _ _ (by omega) hG hS _ (lv_sub hl [] rfl)
    · have hc62 : ¬ (v55.toInt = 0) := fun h9 => c9 ((fi_eq rfl (by decide)).mpr h9)
      refine lv_aload_n hx hb dX12_count_174 rfl (lv_at hl 0 rfl) ?_
      refine tk_get (ci := 12) (C := RX12) (T := TX12) (N := 17) (sp := (6, 20, 5, 0)) hx hb htl inX12 hown hK hG ht_a0 (by decide) tk_no rfl 12 (by decide) (htl _ mw_54) (fun _ h9 => h9) rfl dX12_count_175 (fun v9 hf84 hV9 => ?_)
      obtain ⟨b85, rfl, ht_b85⟩ := hV9
      have ht_b85 : t b85 = (20, 5, 0) := ht_b85
      refine lv_iload_n hx hb dX12_count_178 rfl (lv_at hl 1 rfl) ?_
      refine lv_bipush (v := 7) hx hb dX12_count_179 (by decide) ?_
      refine lv_isub hx hb dX12_count_181 ?_
      refine tk_sub rfl (by decide) (by omega) (by omega) (fun v86 h_v86 => ?_)
      refine tk_iald hx hb hK hG ht_b85 (by decide) (fun _ h => h) tk_no rfl (by omega) (by omega) dX12_count_182 (fun v87 _ _ => ?_)
      have hr_v87 := tk_rng v87
      exact tk_iret (v := v87) hx hb hr rfl hlocks trivial hG hS dX12_count_183
  · refine lv_tableIn (off := 162) (tgt := 163) hx hb dX12_count_1 (by omega) (by omega) (by rw [hsw]; rfl) (by decide) ?_
    refine lv_iload_n hx hb dX12_count_163 rfl (lv_at hl 1 rfl) ?_
    refine lv_bipush (v := 7) hx hb dX12_count_164 (by decide) ?_
    refine lv_bipush (v := 11) hx hb dX12_count_166 (by decide) ?_
    have hk_7 : (7 : Int32).toInt = 7 := by decide
    have hk_11 : (11 : Int32).toInt = 11 := by decide
    refine tk_Si (As := [.int p1, .int 7, .int 11]) (rest := []) ⟨hx, hb, hml, hown, hts⟩ hK hG hZ hS (k_X12_within l D cy ld t _ p1 7 11) trivial ⟨callB_of 3 hts (wl_in mw_262) rfl rfl rfl (htl _ mw_2) (htl _ mw_277) hd_yX12_within ⟨(Nat.le_of_ble_eq_true rfl), (Nat.le_of_ble_eq_true rfl)⟩, htl _ mw_261⟩ (tk_w.pick [] rfl) rfl hl.1 rfl (Nat.le_of_ble_eq_true rfl) dX12_count_168 ⟨(Nat.le_of_ble_eq_true rfl), (Nat.le_of_ble_eq_true rfl)⟩ (fun v88 H locs hpo hG hS hq9 => ?_)
    obtain ⟨hpo90, hpo91, hpo92, hpo93, hpo94⟩ := hpo
    refine lv_if_eq (tgt := 184) hx hb dX12_count_171 (by decide) (fun c9 => ?_) (fun c9 => ?_)
    · have hc95 : v88.toInt = 0 := (fi_eq rfl (by decide)).mp c9
      refine lv_iload_n hx hb dX12_count_184 rfl (lv_at hl 1 rfl) ?_
      refine lv_bipush (v := 15) hx hb dX12_count_185 (by decide) ?_
      refine lv_bipush (v := 18) hx hb dX12_count_187 (by decide) ?_
      have hk_15 : (15 : Int32).toInt = 15 := by decide
      have hk_18 : (18 : Int32).toInt = 18 := by decide
      refine tk_Si (As := [.int p1, .int 15, .int 18]) (rest := []) ⟨hx, hb, hml, hown, hts⟩ hK hG hZ hS (k_X12_within l D cy ld t _ p1 15 18) trivial ⟨callB_of 3 hts (wl_in mw_262) rfl rfl rfl (htl _ mw_2) (htl _ mw_277) hd_yX12_within ⟨(Nat.le_of_ble_eq_true rfl), (Nat.le_of_ble_eq_true rfl)⟩, htl _ mw_261⟩ (tk_w.pick [] rfl) rfl hl.1 rfl (Nat.le_of_ble_eq_true rfl) dX12_count_189 ⟨(Nat.le_of_ble_eq_true rfl), (Nat.le_of_ble_eq_true rfl)⟩ (fun v96 H locs hpo hG hS hq9 => ?_)
      obtain ⟨hpo98, hpo99, hpo100, hpo101, hpo102⟩ := hpo
      have hj112 : ∀ (v110 : Int32) (H : Heap) (locs : List Loc), 0 ≤ p1.toInt + (-1) * v110.toInt + (-1) → tk_G D cy ld t [] H → va_S (tk_w t []) s.heap H locs → ∀ ls : Array Slot, lv_has ls 2 [] → W p l e ({ frames := 4, cells := 0, slots := 0, locals := 210 }) s m args below meth c H locs 0 0 (MQ below (ti D cy ld t [] (fun r H => True) (tk_w t [])) args s 0 0 (tk_w t [])) (F0 m 210 ls [.int v110]) := by
        intro v110 H locs hq0_j112 hG hS ls hl
        exact tk_iret (v := v110) hx hb hr rfl hlocks trivial hG hS dX12_count_210
      refine lv_if_eq (tgt := 209) hx hb dX12_count_192 (by decide) (fun c9 => ?_) (fun c9 => ?_)
      · have hc103 : v96.toInt = 0 := (fi_eq rfl (by decide)).mp c9
        refine lv_iconst (v := (-1)) hx hb dX12_count_209 (by decide) ?_
        have hk_m1 : ((-1) : Int32).toInt = (-1) := by decide
        exact hj112 (-1) _ _ (by omega) hG hS _ (lv_sub hl [] rfl)
      · have hc103 : ¬ (v96.toInt = 0) := fun h9 => c9 ((fi_eq rfl (by decide)).mpr h9)
        refine lv_aload_n hx hb dX12_count_195 rfl (lv_at hl 0 rfl) ?_
        refine tk_get (ci := 12) (C := RX12) (T := TX12) (N := 17) (sp := (8, 20, 3, 0)) hx hb htl inX12 hown hK hG ht_a0 (by decide) tk_no rfl 0 (by decide) (htl _ mw_15) (fun _ h9 => h9) rfl dX12_count_196 (fun v9 hf113 hV9 => ?_)
        obtain ⟨rfl, ht_ld20⟩ := hV9
        have ht_ld20 : t (ld 20) = (3, 0, 0) := ht_ld20
        refine fx_top (v := .ref (ld 20)) rfl ?_
        refine lv_iload_n hx hb dX12_count_199 rfl (lv_at hl 1 rfl) ?_
        refine lv_bipush (v := 15) hx hb dX12_count_200 (by decide) ?_
        refine lv_isub hx hb dX12_count_202 ?_
        refine tk_sub rfl (by decide) (by omega) (by omega) (fun v114 h_v114 => ?_)
        refine tk_Vi (As := [.int v114]) (rest := []) (ci := 2) ⟨hx, hb, hml, hown, hts⟩ hK hG hZ hS (k_X2_termOf l D cy ld t (ld 20) v114 ht_ld20) trivial ⟨callB_of 1 hts (wl_in mw_407) rfl rfl rfl (htl _ mw_14) (htl _ mw_404) hd_yX2_termOf ⟨(Nat.le_of_ble_eq_true rfl), (Nat.le_of_ble_eq_true rfl)⟩, htl _ mw_405, htl _ mw_406⟩ ht_ld20 (by decide) tk_no rfl (tk_w.pick [] rfl) rfl hl.1 rfl (Nat.le_of_ble_eq_true rfl) dX12_count_203 ⟨(Nat.le_of_ble_eq_true rfl), (Nat.le_of_ble_eq_true rfl)⟩ (fun v115 H locs hpo hG hS hq9 => ?_)
        refine lv_goto (tgt := 210) hx hb dX12_count_206 (by decide) ?_
        exact hj112 v115 _ _ (by omega) hG hS _ (lv_sub hl [] rfl)
    · have hc95 : ¬ (v88.toInt = 0) := fun h9 => c9 ((fi_eq rfl (by decide)).mpr h9)
      refine lv_aload_n hx hb dX12_count_174 rfl (lv_at hl 0 rfl) ?_
      refine tk_get (ci := 12) (C := RX12) (T := TX12) (N := 17) (sp := (6, 20, 5, 0)) hx hb htl inX12 hown hK hG ht_a0 (by decide) tk_no rfl 12 (by decide) (htl _ mw_54) (fun _ h9 => h9) rfl dX12_count_175 (fun v9 hf117 hV9 => ?_)
      obtain ⟨b118, rfl, ht_b118⟩ := hV9
      have ht_b118 : t b118 = (20, 5, 0) := ht_b118
      refine lv_iload_n hx hb dX12_count_178 rfl (lv_at hl 1 rfl) ?_
      refine lv_bipush (v := 7) hx hb dX12_count_179 (by decide) ?_
      refine lv_isub hx hb dX12_count_181 ?_
      refine tk_sub rfl (by decide) (by omega) (by omega) (fun v119 h_v119 => ?_)
      refine tk_iald hx hb hK hG ht_b118 (by decide) (fun _ h => h) tk_no rfl (by omega) (by omega) dX12_count_182 (fun v120 _ _ => ?_)
      have hr_v120 := tk_rng v120
      exact tk_iret (v := v120) hx hb hr rfl hlocks trivial hG hS dX12_count_183
  · refine lv_tableIn (off := 162) (tgt := 163) hx hb dX12_count_1 (by omega) (by omega) (by rw [hsw]; rfl) (by decide) ?_
    refine lv_iload_n hx hb dX12_count_163 rfl (lv_at hl 1 rfl) ?_
    refine lv_bipush (v := 7) hx hb dX12_count_164 (by decide) ?_
    refine lv_bipush (v := 11) hx hb dX12_count_166 (by decide) ?_
    have hk_7 : (7 : Int32).toInt = 7 := by decide
    have hk_11 : (11 : Int32).toInt = 11 := by decide
    refine tk_Si (As := [.int p1, .int 7, .int 11]) (rest := []) ⟨hx, hb, hml, hown, hts⟩ hK hG hZ hS (k_X12_within l D cy ld t _ p1 7 11) trivial ⟨callB_of 3 hts (wl_in mw_262) rfl rfl rfl (htl _ mw_2) (htl _ mw_277) hd_yX12_within ⟨(Nat.le_of_ble_eq_true rfl), (Nat.le_of_ble_eq_true rfl)⟩, htl _ mw_261⟩ (tk_w.pick [] rfl) rfl hl.1 rfl (Nat.le_of_ble_eq_true rfl) dX12_count_168 ⟨(Nat.le_of_ble_eq_true rfl), (Nat.le_of_ble_eq_true rfl)⟩ (fun v121 H locs hpo hG hS hq9 => ?_)
    obtain ⟨hpo123, hpo124, hpo125, hpo126, hpo127⟩ := hpo
    refine lv_if_eq (tgt := 184) hx hb dX12_count_171 (by decide) (fun c9 => ?_) (fun c9 => ?_)
    · have hc128 : v121.toInt = 0 := (fi_eq rfl (by decide)).mp c9
      refine lv_iload_n hx hb dX12_count_184 rfl (lv_at hl 1 rfl) ?_
      refine lv_bipush (v := 15) hx hb dX12_count_185 (by decide) ?_
      refine lv_bipush (v := 18) hx hb dX12_count_187 (by decide) ?_
      have hk_15 : (15 : Int32).toInt = 15 := by decide
      have hk_18 : (18 : Int32).toInt = 18 := by decide
      refine tk_Si (As := [.int p1, .int 15, .int 18]) (rest := []) ⟨hx, hb, hml, hown, hts⟩ hK hG hZ hS (k_X12_within l D cy ld t _ p1 15 18) trivial ⟨callB_of 3 hts (wl_in mw_262) rfl rfl rfl (htl _ mw_2) (htl _ mw_277) hd_yX12_within ⟨(Nat.le_of_ble_eq_true rfl), (Nat.le_of_ble_eq_true rfl)⟩, htl _ mw_261⟩ (tk_w.pick [] rfl) rfl hl.1 rfl (Nat.le_of_ble_eq_true rfl) dX12_count_189 ⟨(Nat.le_of_ble_eq_true rfl), (Nat.le_of_ble_eq_true rfl)⟩ (fun v129 H locs hpo hG hS hq9 => ?_)
      obtain ⟨hpo131, hpo132, hpo133, hpo134, hpo135⟩ := hpo
      have hj145 : ∀ (v143 : Int32) (H : Heap) (locs : List Loc), 0 ≤ p1.toInt + (-1) * v143.toInt + (-1) → tk_G D cy ld t [] H → va_S (tk_w t []) s.heap H locs → ∀ ls : Array Slot, lv_has ls 2 [] → W p l e ({ frames := 4, cells := 0, slots := 0, locals := 210 }) s m args below meth c H locs 0 0 (MQ below (ti D cy ld t [] (fun r H => True) (tk_w t [])) args s 0 0 (tk_w t [])) (F0 m 210 ls [.int v143]) := by
        intro v143 H locs hq0_j145 hG hS ls hl
        exact tk_iret (v := v143) hx hb hr rfl hlocks trivial hG hS dX12_count_210
      refine lv_if_eq (tgt := 209) hx hb dX12_count_192 (by decide) (fun c9 => ?_) (fun c9 => ?_)
      · have hc136 : v129.toInt = 0 := (fi_eq rfl (by decide)).mp c9
        refine lv_iconst (v := (-1)) hx hb dX12_count_209 (by decide) ?_
        have hk_m1 : ((-1) : Int32).toInt = (-1) := by decide
        exact hj145 (-1) _ _ (by omega) hG hS _ (lv_sub hl [] rfl)
      · have hc136 : ¬ (v129.toInt = 0) := fun h9 => c9 ((fi_eq rfl (by decide)).mpr h9)
        refine lv_aload_n hx hb dX12_count_195 rfl (lv_at hl 0 rfl) ?_
        refine tk_get (ci := 12) (C := RX12) (T := TX12) (N := 17) (sp := (8, 20, 3, 0)) hx hb htl inX12 hown hK hG ht_a0 (by decide) tk_no rfl 0 (by decide) (htl _ mw_15) (fun _ h9 => h9) rfl dX12_count_196 (fun v9 hf146 hV9 => ?_)
        obtain ⟨rfl, ht_ld20⟩ := hV9
        have ht_ld20 : t (ld 20) = (3, 0, 0) := ht_ld20
        refine fx_top (v := .ref (ld 20)) rfl ?_
        refine lv_iload_n hx hb dX12_count_199 rfl (lv_at hl 1 rfl) ?_
        refine lv_bipush (v := 15) hx hb dX12_count_200 (by decide) ?_
        refine lv_isub hx hb dX12_count_202 ?_
        refine tk_sub rfl (by decide) (by omega) (by omega) (fun v147 h_v147 => ?_)
        refine tk_Vi (As := [.int v147]) (rest := []) (ci := 2) ⟨hx, hb, hml, hown, hts⟩ hK hG hZ hS (k_X2_termOf l D cy ld t (ld 20) v147 ht_ld20) trivial ⟨callB_of 1 hts (wl_in mw_407) rfl rfl rfl (htl _ mw_14) (htl _ mw_404) hd_yX2_termOf ⟨(Nat.le_of_ble_eq_true rfl), (Nat.le_of_ble_eq_true rfl)⟩, htl _ mw_405, htl _ mw_406⟩ ht_ld20 (by decide) tk_no rfl (tk_w.pick [] rfl) rfl hl.1 rfl (Nat.le_of_ble_eq_true rfl) dX12_count_203 ⟨(Nat.le_of_ble_eq_true rfl), (Nat.le_of_ble_eq_true rfl)⟩ (fun v148 H locs hpo hG hS hq9 => ?_)
        refine lv_goto (tgt := 210) hx hb dX12_count_206 (by decide) ?_
        exact hj145 v148 _ _ (by omega) hG hS _ (lv_sub hl [] rfl)
    · have hc128 : ¬ (v121.toInt = 0) := fun h9 => c9 ((fi_eq rfl (by decide)).mpr h9)
      refine lv_aload_n hx hb dX12_count_174 rfl (lv_at hl 0 rfl) ?_
      refine tk_get (ci := 12) (C := RX12) (T := TX12) (N := 17) (sp := (6, 20, 5, 0)) hx hb htl inX12 hown hK hG ht_a0 (by decide) tk_no rfl 12 (by decide) (htl _ mw_54) (fun _ h9 => h9) rfl dX12_count_175 (fun v9 hf150 hV9 => ?_)
      obtain ⟨b151, rfl, ht_b151⟩ := hV9
      have ht_b151 : t b151 = (20, 5, 0) := ht_b151
      refine lv_iload_n hx hb dX12_count_178 rfl (lv_at hl 1 rfl) ?_
      refine lv_bipush (v := 7) hx hb dX12_count_179 (by decide) ?_
      refine lv_isub hx hb dX12_count_181 ?_
      refine tk_sub rfl (by decide) (by omega) (by omega) (fun v152 h_v152 => ?_)
      refine tk_iald hx hb hK hG ht_b151 (by decide) (fun _ h => h) tk_no rfl (by omega) (by omega) dX12_count_182 (fun v153 _ _ => ?_)
      have hr_v153 := tk_rng v153
      exact tk_iret (v := v153) hx hb hr rfl hlocks trivial hG hS dX12_count_183
  · refine lv_tableIn (off := 162) (tgt := 163) hx hb dX12_count_1 (by omega) (by omega) (by rw [hsw]; rfl) (by decide) ?_
    refine lv_iload_n hx hb dX12_count_163 rfl (lv_at hl 1 rfl) ?_
    refine lv_bipush (v := 7) hx hb dX12_count_164 (by decide) ?_
    refine lv_bipush (v := 11) hx hb dX12_count_166 (by decide) ?_
    have hk_7 : (7 : Int32).toInt = 7 := by decide
    have hk_11 : (11 : Int32).toInt = 11 := by decide
    refine tk_Si (As := [.int p1, .int 7, .int 11]) (rest := []) ⟨hx, hb, hml, hown, hts⟩ hK hG hZ hS (k_X12_within l D cy ld t _ p1 7 11) trivial ⟨callB_of 3 hts (wl_in mw_262) rfl rfl rfl (htl _ mw_2) (htl _ mw_277) hd_yX12_within ⟨(Nat.le_of_ble_eq_true rfl), (Nat.le_of_ble_eq_true rfl)⟩, htl _ mw_261⟩ (tk_w.pick [] rfl) rfl hl.1 rfl (Nat.le_of_ble_eq_true rfl) dX12_count_168 ⟨(Nat.le_of_ble_eq_true rfl), (Nat.le_of_ble_eq_true rfl)⟩ (fun v154 H locs hpo hG hS hq9 => ?_)
    obtain ⟨hpo156, hpo157, hpo158, hpo159, hpo160⟩ := hpo
    refine lv_if_eq (tgt := 184) hx hb dX12_count_171 (by decide) (fun c9 => ?_) (fun c9 => ?_)
    · have hc161 : v154.toInt = 0 := (fi_eq rfl (by decide)).mp c9
      refine lv_iload_n hx hb dX12_count_184 rfl (lv_at hl 1 rfl) ?_
      refine lv_bipush (v := 15) hx hb dX12_count_185 (by decide) ?_
      refine lv_bipush (v := 18) hx hb dX12_count_187 (by decide) ?_
      have hk_15 : (15 : Int32).toInt = 15 := by decide
      have hk_18 : (18 : Int32).toInt = 18 := by decide
      refine tk_Si (As := [.int p1, .int 15, .int 18]) (rest := []) ⟨hx, hb, hml, hown, hts⟩ hK hG hZ hS (k_X12_within l D cy ld t _ p1 15 18) trivial ⟨callB_of 3 hts (wl_in mw_262) rfl rfl rfl (htl _ mw_2) (htl _ mw_277) hd_yX12_within ⟨(Nat.le_of_ble_eq_true rfl), (Nat.le_of_ble_eq_true rfl)⟩, htl _ mw_261⟩ (tk_w.pick [] rfl) rfl hl.1 rfl (Nat.le_of_ble_eq_true rfl) dX12_count_189 ⟨(Nat.le_of_ble_eq_true rfl), (Nat.le_of_ble_eq_true rfl)⟩ (fun v162 H locs hpo hG hS hq9 => ?_)
      obtain ⟨hpo164, hpo165, hpo166, hpo167, hpo168⟩ := hpo
      have hj178 : ∀ (v176 : Int32) (H : Heap) (locs : List Loc), 0 ≤ p1.toInt + (-1) * v176.toInt + (-1) → tk_G D cy ld t [] H → va_S (tk_w t []) s.heap H locs → ∀ ls : Array Slot, lv_has ls 2 [] → W p l e ({ frames := 4, cells := 0, slots := 0, locals := 210 }) s m args below meth c H locs 0 0 (MQ below (ti D cy ld t [] (fun r H => True) (tk_w t [])) args s 0 0 (tk_w t [])) (F0 m 210 ls [.int v176]) := by
        intro v176 H locs hq0_j178 hG hS ls hl
        exact tk_iret (v := v176) hx hb hr rfl hlocks trivial hG hS dX12_count_210
      refine lv_if_eq (tgt := 209) hx hb dX12_count_192 (by decide) (fun c9 => ?_) (fun c9 => ?_)
      · have hc169 : v162.toInt = 0 := (fi_eq rfl (by decide)).mp c9
        refine lv_iconst (v := (-1)) hx hb dX12_count_209 (by decide) ?_
        have hk_m1 : ((-1) : Int32).toInt = (-1) := by decide
        exact hj178 (-1) _ _ (by omega) hG hS _ (lv_sub hl [] rfl)
      · have hc169 : ¬ (v162.toInt = 0) := fun h9 => c9 ((fi_eq rfl (by decide)).mpr h9)
        refine lv_aload_n hx hb dX12_count_195 rfl (lv_at hl 0 rfl) ?_
        refine tk_get (ci := 12) (C := RX12) (T := TX12) (N := 17) (sp := (8, 20, 3, 0)) hx hb htl inX12 hown hK hG ht_a0 (by decide) tk_no rfl 0 (by decide) (htl _ mw_15) (fun _ h9 => h9) rfl dX12_count_196 (fun v9 hf179 hV9 => ?_)
        obtain ⟨rfl, ht_ld20⟩ := hV9
        have ht_ld20 : t (ld 20) = (3, 0, 0) := ht_ld20
        refine fx_top (v := .ref (ld 20)) rfl ?_
        refine lv_iload_n hx hb dX12_count_199 rfl (lv_at hl 1 rfl) ?_
        refine lv_bipush (v := 15) hx hb dX12_count_200 (by decide) ?_
        refine lv_isub hx hb dX12_count_202 ?_
        refine tk_sub rfl (by decide) (by omega) (by omega) (fun v180 h_v180 => ?_)
        refine tk_Vi (As := [.int v180]) (rest := []) (ci := 2) ⟨hx, hb, hml, hown, hts⟩ hK hG hZ hS (k_X2_termOf l D cy ld t (ld 20) v180 ht_ld20) trivial ⟨callB_of 1 hts (wl_in mw_407) rfl rfl rfl (htl _ mw_14) (htl _ mw_404) hd_yX2_termOf ⟨(Nat.le_of_ble_eq_true rfl), (Nat.le_of_ble_eq_true rfl)⟩, htl _ mw_405, htl _ mw_406⟩ ht_ld20 (by decide) tk_no rfl (tk_w.pick [] rfl) rfl hl.1 rfl (Nat.le_of_ble_eq_true rfl) dX12_count_203 ⟨(Nat.le_of_ble_eq_true rfl), (Nat.le_of_ble_eq_true rfl)⟩ (fun v181 H locs hpo hG hS hq9 => ?_)
        refine lv_goto (tgt := 210) hx hb dX12_count_206 (by decide) ?_
        exact hj178 v181 _ _ (by omega) hG hS _ (lv_sub hl [] rfl)
    · have hc161 : ¬ (v154.toInt = 0) := fun h9 => c9 ((fi_eq rfl (by decide)).mpr h9)
      refine lv_aload_n hx hb dX12_count_174 rfl (lv_at hl 0 rfl) ?_
      refine tk_get (ci := 12) (C := RX12) (T := TX12) (N := 17) (sp := (6, 20, 5, 0)) hx hb htl inX12 hown hK hG ht_a0 (by decide) tk_no rfl 12 (by decide) (htl _ mw_54) (fun _ h9 => h9) rfl dX12_count_175 (fun v9 hf183 hV9 => ?_)
      obtain ⟨b184, rfl, ht_b184⟩ := hV9
      have ht_b184 : t b184 = (20, 5, 0) := ht_b184
      refine lv_iload_n hx hb dX12_count_178 rfl (lv_at hl 1 rfl) ?_
      refine lv_bipush (v := 7) hx hb dX12_count_179 (by decide) ?_
      refine lv_isub hx hb dX12_count_181 ?_
      refine tk_sub rfl (by decide) (by omega) (by omega) (fun v185 h_v185 => ?_)
      refine tk_iald hx hb hK hG ht_b184 (by decide) (fun _ h => h) tk_no rfl (by omega) (by omega) dX12_count_182 (fun v186 _ _ => ?_)
      have hr_v186 := tk_rng v186
      exact tk_iret (v := v186) hx hb hr rfl hlocks trivial hG hS dX12_count_183
  · refine lv_tableIn (off := 128) (tgt := 129) hx hb dX12_count_1 (by omega) (by omega) (by rw [hsw]; rfl) (by decide) ?_
    refine lv_aload_n hx hb dX12_count_129 rfl (lv_at hl 0 rfl) ?_
    refine tk_get (ci := 12) (C := RX12) (T := TX12) (N := 17) (sp := (8, 20, 3, 0)) hx hb htl inX12 hown hK hG ht_a0 (by decide) tk_no rfl 0 (by decide) (htl _ mw_15) (fun _ h9 => h9) rfl dX12_count_130 (fun v9 hf187 hV9 => ?_)
    obtain ⟨rfl, ht_ld20⟩ := hV9
    have ht_ld20 : t (ld 20) = (3, 0, 0) := ht_ld20
    refine fx_top (v := .ref (ld 20)) rfl ?_
    refine tk_get (ci := 2) (C := RX2) (T := TX2) (N := 20) (sp := (0, (-2147483648), 2147483647, 0)) hx hb htl inX2 hown hK hG ht_ld20 (by decide) tk_no rfl 15 (by decide) (htl _ mw_1183) (fun _ h9 => h9) rfl dX12_count_133 (fun v9 hf188 hV9 => ?_)
    obtain ⟨v189, rfl, ha_v189, hb_v189⟩ := hV9
    exact tk_iret (v := v189) hx hb hr rfl hlocks trivial hG hS dX12_count_136
  · refine lv_tableIn (off := 136) (tgt := 137) hx hb dX12_count_1 (by omega) (by omega) (by rw [hsw]; rfl) (by decide) ?_
    refine lv_aload_n hx hb dX12_count_137 rfl (lv_at hl 0 rfl) ?_
    refine tk_get (ci := 12) (C := RX12) (T := TX12) (N := 17) (sp := (8, 20, 3, 0)) hx hb htl inX12 hown hK hG ht_a0 (by decide) tk_no rfl 0 (by decide) (htl _ mw_15) (fun _ h9 => h9) rfl dX12_count_138 (fun v9 hf190 hV9 => ?_)
    obtain ⟨rfl, ht_ld20⟩ := hV9
    have ht_ld20 : t (ld 20) = (3, 0, 0) := ht_ld20
    refine fx_top (v := .ref (ld 20)) rfl ?_
    refine tk_get (ci := 2) (C := RX2) (T := TX2) (N := 20) (sp := (9, 40, 10, 0)) hx hb htl inX2 hown hK hG ht_ld20 (by decide) tk_no rfl 19 (by decide) (htl _ mw_302) (fun _ h9 => h9) rfl dX12_count_141 (fun v9 hf191 hV9 => ?_)
    obtain ⟨rfl, ht_ld40⟩ := hV9
    have ht_ld40 : t (ld 40) = (10, 0, 0) := ht_ld40
    refine fx_top (v := .ref (ld 40)) rfl ?_
    refine tk_get (ci := 9) (C := RX9) (T := TX9) (N := 11) (sp := (1, 20, 2, 0)) hx hb htl inX9 hown hK hG ht_ld40 (by decide) tk_no rfl 3 (by decide) (htl _ mw_390) (fun _ h9 => h9) rfl dX12_count_144 (fun v9 hf192 hV9 => ?_)
    obtain ⟨b193, rfl, ht_b193⟩ := hV9
    have ht_b193 : t b193 = (20, 2, 0) := ht_b193
    refine lv_iconst (v := 0) hx hb dX12_count_147 (by decide) ?_
    refine tk_iald hx hb hK hG ht_b193 (by decide) (fun _ h => h) tk_no (I := 0) (by decide) (by decide) (by decide) dX12_count_148 (fun v194 _ _ => ?_)
    have hr_v194 := tk_rng v194
    exact tk_iret (v := v194) hx hb hr rfl hlocks trivial hG hS dX12_count_149
  · refine lv_tableIn (off := 149) (tgt := 150) hx hb dX12_count_1 (by omega) (by omega) (by rw [hsw]; rfl) (by decide) ?_
    refine lv_aload_n hx hb dX12_count_150 rfl (lv_at hl 0 rfl) ?_
    refine tk_get (ci := 12) (C := RX12) (T := TX12) (N := 17) (sp := (8, 20, 3, 0)) hx hb htl inX12 hown hK hG ht_a0 (by decide) tk_no rfl 0 (by decide) (htl _ mw_15) (fun _ h9 => h9) rfl dX12_count_151 (fun v9 hf195 hV9 => ?_)
    obtain ⟨rfl, ht_ld20⟩ := hV9
    have ht_ld20 : t (ld 20) = (3, 0, 0) := ht_ld20
    refine fx_top (v := .ref (ld 20)) rfl ?_
    refine tk_get (ci := 2) (C := RX2) (T := TX2) (N := 20) (sp := (9, 40, 10, 0)) hx hb htl inX2 hown hK hG ht_ld20 (by decide) tk_no rfl 19 (by decide) (htl _ mw_302) (fun _ h9 => h9) rfl dX12_count_154 (fun v9 hf196 hV9 => ?_)
    obtain ⟨rfl, ht_ld40⟩ := hV9
    have ht_ld40 : t (ld 40) = (10, 0, 0) := ht_ld40
    refine fx_top (v := .ref (ld 40)) rfl ?_
    refine tk_get (ci := 9) (C := RX9) (T := TX9) (N := 11) (sp := (1, 20, 2, 0)) hx hb htl inX9 hown hK hG ht_ld40 (by decide) tk_no rfl 3 (by decide) (htl _ mw_390) (fun _ h9 => h9) rfl dX12_count_157 (fun v9 hf197 hV9 => ?_)
    obtain ⟨b198, rfl, ht_b198⟩ := hV9
    have ht_b198 : t b198 = (20, 2, 0) := ht_b198
    refine lv_iconst (v := 1) hx hb dX12_count_160 (by decide) ?_
    refine tk_iald hx hb hK hG ht_b198 (by decide) (fun _ h => h) tk_no (I := 1) (by decide) (by decide) (by decide) dX12_count_161 (fun v199 _ _ => ?_)
    have hr_v199 := tk_rng v199
    exact tk_iret (v := v199) hx hb hr rfl hlocks trivial hG hS dX12_count_162
  · refine lv_tableOut (tgt := 163) hx hb dX12_count_1 (by omega) (by decide) ?_
    refine lv_iload_n hx hb dX12_count_163 rfl (lv_at hl 1 rfl) ?_
    refine lv_bipush (v := 7) hx hb dX12_count_164 (by decide) ?_
    refine lv_bipush (v := 11) hx hb dX12_count_166 (by decide) ?_
    have hk_7 : (7 : Int32).toInt = 7 := by decide
    have hk_11 : (11 : Int32).toInt = 11 := by decide
    refine tk_Si (As := [.int p1, .int 7, .int 11]) (rest := []) ⟨hx, hb, hml, hown, hts⟩ hK hG hZ hS (k_X12_within l D cy ld t _ p1 7 11) trivial ⟨callB_of 3 hts (wl_in mw_262) rfl rfl rfl (htl _ mw_2) (htl _ mw_277) hd_yX12_within ⟨(Nat.le_of_ble_eq_true rfl), (Nat.le_of_ble_eq_true rfl)⟩, htl _ mw_261⟩ (tk_w.pick [] rfl) rfl hl.1 rfl (Nat.le_of_ble_eq_true rfl) dX12_count_168 ⟨(Nat.le_of_ble_eq_true rfl), (Nat.le_of_ble_eq_true rfl)⟩ (fun v200 H locs hpo hG hS hq9 => ?_)
    obtain ⟨hpo202, hpo203, hpo204, hpo205, hpo206⟩ := hpo
    refine lv_if_eq (tgt := 184) hx hb dX12_count_171 (by decide) (fun c9 => ?_) (fun c9 => ?_)
    · have hc207 : v200.toInt = 0 := (fi_eq rfl (by decide)).mp c9
      refine lv_iload_n hx hb dX12_count_184 rfl (lv_at hl 1 rfl) ?_
      refine lv_bipush (v := 15) hx hb dX12_count_185 (by decide) ?_
      refine lv_bipush (v := 18) hx hb dX12_count_187 (by decide) ?_
      have hk_15 : (15 : Int32).toInt = 15 := by decide
      have hk_18 : (18 : Int32).toInt = 18 := by decide
      refine tk_Si (As := [.int p1, .int 15, .int 18]) (rest := []) ⟨hx, hb, hml, hown, hts⟩ hK hG hZ hS (k_X12_within l D cy ld t _ p1 15 18) trivial ⟨callB_of 3 hts (wl_in mw_262) rfl rfl rfl (htl _ mw_2) (htl _ mw_277) hd_yX12_within ⟨(Nat.le_of_ble_eq_true rfl), (Nat.le_of_ble_eq_true rfl)⟩, htl _ mw_261⟩ (tk_w.pick [] rfl) rfl hl.1 rfl (Nat.le_of_ble_eq_true rfl) dX12_count_189 ⟨(Nat.le_of_ble_eq_true rfl), (Nat.le_of_ble_eq_true rfl)⟩ (fun v208 H locs hpo hG hS hq9 => ?_)
      obtain ⟨hpo210, hpo211, hpo212, hpo213, hpo214⟩ := hpo
      have hj224 : ∀ (v222 : Int32) (H : Heap) (locs : List Loc), 0 ≤ (-1) * p1.toInt + v222.toInt → tk_G D cy ld t [] H → va_S (tk_w t []) s.heap H locs → ∀ ls : Array Slot, lv_has ls 2 [] → W p l e ({ frames := 4, cells := 0, slots := 0, locals := 210 }) s m args below meth c H locs 0 0 (MQ below (ti D cy ld t [] (fun r H => True) (tk_w t [])) args s 0 0 (tk_w t [])) (F0 m 210 ls [.int v222]) := by
        intro v222 H locs hq0_j224 hG hS ls hl
        exact tk_iret (v := v222) hx hb hr rfl hlocks trivial hG hS dX12_count_210
      refine lv_if_eq (tgt := 209) hx hb dX12_count_192 (by decide) (fun c9 => ?_) (fun c9 => ?_)
      · have hc215 : v208.toInt = 0 := (fi_eq rfl (by decide)).mp c9
        refine lv_iconst (v := (-1)) hx hb dX12_count_209 (by decide) ?_
        have hk_m1 : ((-1) : Int32).toInt = (-1) := by decide
        exact hj224 (-1) _ _ (by omega) hG hS _ (lv_sub hl [] rfl)
      · have hc215 : ¬ (v208.toInt = 0) := fun h9 => c9 ((fi_eq rfl (by decide)).mpr h9)
        refine lv_aload_n hx hb dX12_count_195 rfl (lv_at hl 0 rfl) ?_
        refine tk_get (ci := 12) (C := RX12) (T := TX12) (N := 17) (sp := (8, 20, 3, 0)) hx hb htl inX12 hown hK hG ht_a0 (by decide) tk_no rfl 0 (by decide) (htl _ mw_15) (fun _ h9 => h9) rfl dX12_count_196 (fun v9 hf225 hV9 => ?_)
        obtain ⟨rfl, ht_ld20⟩ := hV9
        have ht_ld20 : t (ld 20) = (3, 0, 0) := ht_ld20
        refine fx_top (v := .ref (ld 20)) rfl ?_
        refine lv_iload_n hx hb dX12_count_199 rfl (lv_at hl 1 rfl) ?_
        refine lv_bipush (v := 15) hx hb dX12_count_200 (by decide) ?_
        refine lv_isub hx hb dX12_count_202 ?_
        refine tk_sub rfl (by decide) (by omega) (by omega) (fun v226 h_v226 => ?_)
        refine tk_Vi (As := [.int v226]) (rest := []) (ci := 2) ⟨hx, hb, hml, hown, hts⟩ hK hG hZ hS (k_X2_termOf l D cy ld t (ld 20) v226 ht_ld20) trivial ⟨callB_of 1 hts (wl_in mw_407) rfl rfl rfl (htl _ mw_14) (htl _ mw_404) hd_yX2_termOf ⟨(Nat.le_of_ble_eq_true rfl), (Nat.le_of_ble_eq_true rfl)⟩, htl _ mw_405, htl _ mw_406⟩ ht_ld20 (by decide) tk_no rfl (tk_w.pick [] rfl) rfl hl.1 rfl (Nat.le_of_ble_eq_true rfl) dX12_count_203 ⟨(Nat.le_of_ble_eq_true rfl), (Nat.le_of_ble_eq_true rfl)⟩ (fun v227 H locs hpo hG hS hq9 => ?_)
        refine lv_goto (tgt := 210) hx hb dX12_count_206 (by decide) ?_
        exact hj224 v227 _ _ (by omega) hG hS _ (lv_sub hl [] rfl)
    · have hc207 : ¬ (v200.toInt = 0) := fun h9 => c9 ((fi_eq rfl (by decide)).mpr h9)
      refine lv_aload_n hx hb dX12_count_174 rfl (lv_at hl 0 rfl) ?_
      refine tk_get (ci := 12) (C := RX12) (T := TX12) (N := 17) (sp := (6, 20, 5, 0)) hx hb htl inX12 hown hK hG ht_a0 (by decide) tk_no rfl 12 (by decide) (htl _ mw_54) (fun _ h9 => h9) rfl dX12_count_175 (fun v9 hf229 hV9 => ?_)
      obtain ⟨b230, rfl, ht_b230⟩ := hV9
      have ht_b230 : t b230 = (20, 5, 0) := ht_b230
      refine lv_iload_n hx hb dX12_count_178 rfl (lv_at hl 1 rfl) ?_
      refine lv_bipush (v := 7) hx hb dX12_count_179 (by decide) ?_
      refine lv_isub hx hb dX12_count_181 ?_
      refine tk_sub rfl (by decide) (by omega) (by omega) (fun v231 h_v231 => ?_)
      refine tk_iald hx hb hK hG ht_b230 (by decide) (fun _ h => h) tk_no rfl (by omega) (by omega) dX12_count_182 (fun v232 _ _ => ?_)
      have hr_v232 := tk_rng v232
      exact tk_iret (v := v232) hx hb hr rfl hlocks trivial hG hS dX12_count_183
  · refine lv_tableOut (tgt := 163) hx hb dX12_count_1 (by omega) (by decide) ?_
    refine lv_iload_n hx hb dX12_count_163 rfl (lv_at hl 1 rfl) ?_
    refine lv_bipush (v := 7) hx hb dX12_count_164 (by decide) ?_
    refine lv_bipush (v := 11) hx hb dX12_count_166 (by decide) ?_
    have hk_7 : (7 : Int32).toInt = 7 := by decide
    have hk_11 : (11 : Int32).toInt = 11 := by decide
    refine tk_Si (As := [.int p1, .int 7, .int 11]) (rest := []) ⟨hx, hb, hml, hown, hts⟩ hK hG hZ hS (k_X12_within l D cy ld t _ p1 7 11) trivial ⟨callB_of 3 hts (wl_in mw_262) rfl rfl rfl (htl _ mw_2) (htl _ mw_277) hd_yX12_within ⟨(Nat.le_of_ble_eq_true rfl), (Nat.le_of_ble_eq_true rfl)⟩, htl _ mw_261⟩ (tk_w.pick [] rfl) rfl hl.1 rfl (Nat.le_of_ble_eq_true rfl) dX12_count_168 ⟨(Nat.le_of_ble_eq_true rfl), (Nat.le_of_ble_eq_true rfl)⟩ (fun v233 H locs hpo hG hS hq9 => ?_)
    obtain ⟨hpo235, hpo236, hpo237, hpo238, hpo239⟩ := hpo
    refine lv_if_eq (tgt := 184) hx hb dX12_count_171 (by decide) (fun c9 => ?_) (fun c9 => ?_)
    · have hc240 : v233.toInt = 0 := (fi_eq rfl (by decide)).mp c9
      refine lv_iload_n hx hb dX12_count_184 rfl (lv_at hl 1 rfl) ?_
      refine lv_bipush (v := 15) hx hb dX12_count_185 (by decide) ?_
      refine lv_bipush (v := 18) hx hb dX12_count_187 (by decide) ?_
      have hk_15 : (15 : Int32).toInt = 15 := by decide
      have hk_18 : (18 : Int32).toInt = 18 := by decide
      refine tk_Si (As := [.int p1, .int 15, .int 18]) (rest := []) ⟨hx, hb, hml, hown, hts⟩ hK hG hZ hS (k_X12_within l D cy ld t _ p1 15 18) trivial ⟨callB_of 3 hts (wl_in mw_262) rfl rfl rfl (htl _ mw_2) (htl _ mw_277) hd_yX12_within ⟨(Nat.le_of_ble_eq_true rfl), (Nat.le_of_ble_eq_true rfl)⟩, htl _ mw_261⟩ (tk_w.pick [] rfl) rfl hl.1 rfl (Nat.le_of_ble_eq_true rfl) dX12_count_189 ⟨(Nat.le_of_ble_eq_true rfl), (Nat.le_of_ble_eq_true rfl)⟩ (fun v241 H locs hpo hG hS hq9 => ?_)
      obtain ⟨hpo243, hpo244, hpo245, hpo246, hpo247⟩ := hpo
      have hj257 : ∀ (v255 : Int32) (H : Heap) (locs : List Loc), tk_G D cy ld t [] H → va_S (tk_w t []) s.heap H locs → ∀ ls : Array Slot, lv_has ls 2 [] → W p l e ({ frames := 4, cells := 0, slots := 0, locals := 210 }) s m args below meth c H locs 0 0 (MQ below (ti D cy ld t [] (fun r H => True) (tk_w t [])) args s 0 0 (tk_w t [])) (F0 m 210 ls [.int v255]) := by
        intro v255 H locs hG hS ls hl
        exact tk_iret (v := v255) hx hb hr rfl hlocks trivial hG hS dX12_count_210
      refine lv_if_eq (tgt := 209) hx hb dX12_count_192 (by decide) (fun c9 => ?_) (fun c9 => ?_)
      · have hc248 : v241.toInt = 0 := (fi_eq rfl (by decide)).mp c9
        refine lv_iconst (v := (-1)) hx hb dX12_count_209 (by decide) ?_
        have hk_m1 : ((-1) : Int32).toInt = (-1) := by decide
        exact hj257 (-1) _ _ hG hS _ (lv_sub hl [] rfl)
      · have hc248 : ¬ (v241.toInt = 0) := fun h9 => c9 ((fi_eq rfl (by decide)).mpr h9)
        refine lv_aload_n hx hb dX12_count_195 rfl (lv_at hl 0 rfl) ?_
        refine tk_get (ci := 12) (C := RX12) (T := TX12) (N := 17) (sp := (8, 20, 3, 0)) hx hb htl inX12 hown hK hG ht_a0 (by decide) tk_no rfl 0 (by decide) (htl _ mw_15) (fun _ h9 => h9) rfl dX12_count_196 (fun v9 hf258 hV9 => ?_)
        obtain ⟨rfl, ht_ld20⟩ := hV9
        have ht_ld20 : t (ld 20) = (3, 0, 0) := ht_ld20
        refine fx_top (v := .ref (ld 20)) rfl ?_
        refine lv_iload_n hx hb dX12_count_199 rfl (lv_at hl 1 rfl) ?_
        refine lv_bipush (v := 15) hx hb dX12_count_200 (by decide) ?_
        refine lv_isub hx hb dX12_count_202 ?_
        refine tk_sub rfl (by decide) (by omega) (by omega) (fun v259 h_v259 => ?_)
        refine tk_Vi (As := [.int v259]) (rest := []) (ci := 2) ⟨hx, hb, hml, hown, hts⟩ hK hG hZ hS (k_X2_termOf l D cy ld t (ld 20) v259 ht_ld20) trivial ⟨callB_of 1 hts (wl_in mw_407) rfl rfl rfl (htl _ mw_14) (htl _ mw_404) hd_yX2_termOf ⟨(Nat.le_of_ble_eq_true rfl), (Nat.le_of_ble_eq_true rfl)⟩, htl _ mw_405, htl _ mw_406⟩ ht_ld20 (by decide) tk_no rfl (tk_w.pick [] rfl) rfl hl.1 rfl (Nat.le_of_ble_eq_true rfl) dX12_count_203 ⟨(Nat.le_of_ble_eq_true rfl), (Nat.le_of_ble_eq_true rfl)⟩ (fun v260 H locs hpo hG hS hq9 => ?_)
        refine lv_goto (tgt := 210) hx hb dX12_count_206 (by decide) ?_
        exact hj257 v260 _ _ hG hS _ (lv_sub hl [] rfl)
    · have hc240 : ¬ (v233.toInt = 0) := fun h9 => c9 ((fi_eq rfl (by decide)).mpr h9)
      refine lv_aload_n hx hb dX12_count_174 rfl (lv_at hl 0 rfl) ?_
      refine tk_get (ci := 12) (C := RX12) (T := TX12) (N := 17) (sp := (6, 20, 5, 0)) hx hb htl inX12 hown hK hG ht_a0 (by decide) tk_no rfl 12 (by decide) (htl _ mw_54) (fun _ h9 => h9) rfl dX12_count_175 (fun v9 hf262 hV9 => ?_)
      obtain ⟨b263, rfl, ht_b263⟩ := hV9
      have ht_b263 : t b263 = (20, 5, 0) := ht_b263
      refine lv_iload_n hx hb dX12_count_178 rfl (lv_at hl 1 rfl) ?_
      refine lv_bipush (v := 7) hx hb dX12_count_179 (by decide) ?_
      refine lv_isub hx hb dX12_count_181 ?_
      refine tk_sub rfl (by decide) (by omega) (by omega) (fun v264 h_v264 => ?_)
      refine tk_iald hx hb hK hG ht_b263 (by decide) (fun _ h => h) tk_no rfl (by omega) (by omega) dX12_count_182 (fun v265 _ _ => ?_)
      have hr_v265 := tk_rng v265
      exact tk_iret (v := v265) hx hb hr rfl hlocks trivial hG hS dX12_count_183
theorem dX12_status_0 : decode cX12_status 0 = .ok (.aload_n 0, 1) := by decide +kernel
theorem dX12_status_1 : decode cX12_status 1 = .ok (.getfield 355, 3) := by decide +kernel
theorem dX12_status_4 : decode cX12_status 4 = .ok (.ireturn, 1) := by decide +kernel
set_option maxHeartbeats 4000000 in
set_option maxRecDepth 100000 in
theorem k_X12_status (l : Launch) (D : va_G) (cy : Nat → ClassId) (ld : Nat → Nat) (t : tk_T) (a0 : Nat) (ht_a0 : t a0 = (13, 0, 0)) : Met l yX12_status (wl yX12_status cX12_status 1 (some .int)) ({ frames := 3, cells := 0, slots := 0, locals := 140 }) (tp D cy ld t [] [.ref a0] (fun H => True)) (ti D cy ld t [] (fun r H => True) (tk_w t [])) 0 0 (tk_w t []) := by
  refine tk_met (y := yX12_status) (cc := cX12_status) (maxL := 1) (ret := (some .int)) (av := [.ref a0]) _ _ (by decide) (Nat.le_of_ble_eq_true rfl) ?_
  intro p e s m args below meth c hx hb hr hml hts htl hown hlocks hK H locs hH hG hS hB hZ ls hl
  have hown : s.vm.findClass RX12 = some m.cls := hown
  have hl : lv_has ls 1 [(0, .ref a0)] := hl
  refine lv_aload_n hx hb dX12_status_0 rfl (lv_at hl 0 rfl) ?_
  refine tk_get (ci := 12) (C := RX12) (T := TX12) (N := 17) (sp := (0, (-2147483648), 2147483647, 0)) hx hb htl inX12 hown hK hG ht_a0 (by decide) tk_no rfl 16 (by decide) (htl _ mw_276) (fun _ h9 => h9) rfl dX12_status_1 (fun v9 hf1 hV9 => ?_)
  obtain ⟨v2, rfl, ha_v2, hb_v2⟩ := hV9
  exact tk_iret (v := v2) hx hb hr rfl hlocks trivial hG hS dX12_status_4
