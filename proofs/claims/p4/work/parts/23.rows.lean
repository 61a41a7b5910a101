theorem dX12_of_0 : decode cX12_of 0 = .ok (.aload_n 0, 1) := by decide +kernel
theorem dX12_of_1 : decode cX12_of 1 = .ok (.getfield 10, 3) := by decide +kernel
theorem dX12_of_4 : decode cX12_of 4 = .ok (.iload_n 1, 1) := by decide +kernel
theorem dX12_of_5 : decode cX12_of 5 = .ok (.invokevirtual 114, 3) := by decide +kernel
theorem dX12_of_8 : decode cX12_of 8 = .ok (.ifCond .ne 5, 3) := by decide +kernel
theorem dX12_of_13 : decode cX12_of 13 = .ok (.iload_n 2, 1) := by decide +kernel
theorem dX12_of_14 : decode cX12_of 14 = .ok (.tableswitch 93 0 4 #[34, 47, 57, 67, 80], 34) := by decide +kernel
theorem dX12_of_48 : decode cX12_of 48 = .ok (.aload_n 0, 1) := by decide +kernel
theorem dX12_of_49 : decode cX12_of 49 = .ok (.getfield 10, 3) := by decide +kernel
theorem dX12_of_52 : decode cX12_of 52 = .ok (.getfield 118, 3) := by decide +kernel
theorem dX12_of_55 : decode cX12_of 55 = .ok (.getfield 122, 3) := by decide +kernel
theorem dX12_of_58 : decode cX12_of 58 = .ok (.iload_n 1, 1) := by decide +kernel
theorem dX12_of_59 : decode cX12_of 59 = .ok (.iaload, 1) := by decide +kernel
theorem dX12_of_60 : decode cX12_of 60 = .ok (.ireturn, 1) := by decide +kernel
theorem dX12_of_61 : decode cX12_of 61 = .ok (.aload_n 0, 1) := by decide +kernel
theorem dX12_of_62 : decode cX12_of 62 = .ok (.getfield 10, 3) := by decide +kernel
theorem dX12_of_65 : decode cX12_of 65 = .ok (.getfield 127, 3) := by decide +kernel
theorem dX12_of_68 : decode cX12_of 68 = .ok (.iload_n 1, 1) := by decide +kernel
theorem dX12_of_69 : decode cX12_of 69 = .ok (.iaload, 1) := by decide +kernel
theorem dX12_of_70 : decode cX12_of 70 = .ok (.ireturn, 1) := by decide +kernel
theorem dX12_of_71 : decode cX12_of 71 = .ok (.aload_n 0, 1) := by decide +kernel
theorem dX12_of_72 : decode cX12_of 72 = .ok (.getfield 10, 3) := by decide +kernel
theorem dX12_of_75 : decode cX12_of 75 = .ok (.getfield 130, 3) := by decide +kernel
theorem dX12_of_78 : decode cX12_of 78 = .ok (.iload_n 1, 1) := by decide +kernel
theorem dX12_of_79 : decode cX12_of 79 = .ok (.iaload, 1) := by decide +kernel
theorem dX12_of_80 : decode cX12_of 80 = .ok (.ireturn, 1) := by decide +kernel
theorem dX12_of_81 : decode cX12_of 81 = .ok (.aload_n 0, 1) := by decide +kernel
theorem dX12_of_82 : decode cX12_of 82 = .ok (.getfield 10, 3) := by decide +kernel
theorem dX12_of_85 : decode cX12_of 85 = .ok (.getfield 118, 3) := by decide +kernel
theorem dX12_of_88 : decode cX12_of 88 = .ok (.getfield 133, 3) := by decide +kernel
theorem dX12_of_91 : decode cX12_of 91 = .ok (.iload_n 1, 1) := by decide +kernel
theorem dX12_of_92 : decode cX12_of 92 = .ok (.iaload, 1) := by decide +kernel
theorem dX12_of_93 : decode cX12_of 93 = .ok (.ireturn, 1) := by decide +kernel
theorem dX12_of_94 : decode cX12_of 94 = .ok (.aload_n 0, 1) := by decide +kernel
theorem dX12_of_95 : decode cX12_of 95 = .ok (.getfield 10, 3) := by decide +kernel
theorem dX12_of_98 : decode cX12_of 98 = .ok (.getfield 118, 3) := by decide +kernel
theorem dX12_of_101 : decode cX12_of 101 = .ok (.getfield 136, 3) := by decide +kernel
theorem dX12_of_104 : decode cX12_of 104 = .ok (.iload_n 1, 1) := by decide +kernel
theorem dX12_of_105 : decode cX12_of 105 = .ok (.iaload, 1) := by decide +kernel
theorem dX12_of_106 : decode cX12_of 106 = .ok (.ireturn, 1) := by decide +kernel
theorem dX12_of_107 : decode cX12_of 107 = .ok (.iconst (-1), 1) := by decide +kernel
theorem dX12_of_108 : decode cX12_of 108 = .ok (.ireturn, 1) := by decide +kernel
theorem dX12_of_11 : decode cX12_of 11 = .ok (.iconst (-1), 1) := by decide +kernel
theorem dX12_of_12 : decode cX12_of 12 = .ok (.ireturn, 1) := by decide +kernel
set_option maxHeartbeats 4000000 in
set_option maxRecDepth 100000 in
theorem k_X12_of (l : Launch) (D : va_G) (cy : Nat → ClassId) (ld : Nat → Nat) (t : tk_T) (a0 : Nat) (p1 : Int32) (p2 : Int32) (ht_a0 : t a0 = (13, 0, 0)) : Met l yX12_of (wl yX12_of cX12_of 3 (some .int)) ({ frames := 4, cells := 0, slots := 0, locals := 210 }) (tp D cy ld t [] [.ref a0, .int p1, .int p2] (fun H => True)) (ti D cy ld t [] (fun r H => True) (tk_w t [])) 0 0 (tk_w t []) := by
  refine tk_met (y := yX12_of) (cc := cX12_of) (maxL := 3) (ret := (some .int)) (av := [.ref a0, .int p1, .int p2]) _ _ (by decide) (Nat.le_of_ble_eq_true rfl) ?_
  intro p e s m args below meth c hx hb hr hml hts htl hown hlocks hK H locs hH hG hS hB hZ ls hl
  have hown : s.vm.findClass RX12 = some m.cls := hown
  have hl : lv_has ls 3 [(0, .ref a0), (1, .int p1), (2, .int p2)] := hl
  have hr_p1 := tk_rng p1
  have hr_p2 := tk_rng p2
  refine lv_aload_n hx hb dX12_of_0 rfl (lv_at hl 0 rfl) ?_
  refine tk_get (ci := 12) (C := RX12) (T := TX12) (N := 17) (sp := (8, 20, 3, 0)) hx hb htl inX12 hown hK hG ht_a0 (by decide) tk_no rfl 0 (by decide) (htl _ mw_15) (fun _ h9 => h9) rfl dX12_of_1 (fun v9 hf1 hV9 => ?_)
  obtain ⟨rfl, ht_ld20⟩ := hV9
  have ht_ld20 : t (ld 20) = (3, 0, 0) := ht_ld20
  refine fx_top (v := .ref (ld 20)) rfl ?_
  refine lv_iload_n hx hb dX12_of_4 rfl (lv_at hl 1 rfl) ?_
  refine tk_Vi (As := [.int p1]) (rest := []) (ci := 2) ⟨hx, hb, hml, hown, hts⟩ hK hG hZ hS (k_X2_isSinger l D cy ld t (ld 20) p1 ht_ld20) trivial ⟨callB_of 1 hts (wl_in mw_311) rfl rfl rfl (htl _ mw_14) (htl _ mw_308) hd_yX2_isSinger ⟨(Nat.le_of_ble_eq_true rfl), (Nat.le_of_ble_eq_true rfl)⟩, htl _ mw_309, htl _ mw_310⟩ ht_ld20 (by decide) tk_no rfl (tk_w.pick [] rfl) rfl hl.1 rfl (Nat.le_of_ble_eq_true rfl) dX12_of_5 ⟨(Nat.le_of_ble_eq_true rfl), (Nat.le_of_ble_eq_true rfl)⟩ (fun v2 H locs hpo hG hS hq9 => ?_)
  obtain ⟨hpo4, hpo5, hpo6, hpo7, hpo8⟩ := hpo
  refine lv_if_ne (tgt := 13) hx hb dX12_of_8 (by decide) (fun c9 => ?_) (fun c9 => ?_)
  · have hc9 : ¬ (v2.toInt = 0) := fun h9 => c9 ((fi_eq rfl (show (0 : Int32).toInt = 0 by decide)).mpr h9)
    refine lv_iload_n hx hb dX12_of_13 rfl (lv_at hl 2 rfl) ?_
    rcases (show p2.toInt = 0 ∨ p2.toInt = 1 ∨ p2.toInt = 2 ∨ p2.toInt = 3 ∨ p2.toInt = 4 ∨ p2.toInt < 0 ∨ 4 < p2.toInt by omega) with hsw | hsw | hsw | hsw | hsw | hsw | hsw
    · refine lv_tableIn (off := 34) (tgt := 48) hx hb dX12_of_14 (by omega) (by omega) (by rw [hsw]; rfl) (by decide) ?_
      refine lv_aload_n hx hb dX12_of_48 rfl (lv_at hl 0 rfl) ?_
      refine tk_get (ci := 12) (C := RX12) (T := TX12) (N := 17) (sp := (8, 20, 3, 0)) hx hb htl inX12 hown hK hG ht_a0 (by decide) tk_no rfl 0 (by decide) (htl _ mw_15) (fun _ h9 => h9) rfl dX12_of_49 (fun v9 hf10 hV9 => ?_)
      obtain ⟨rfl, ht_ld20⟩ := hV9
      have ht_ld20 : t (ld 20) = (3, 0, 0) := ht_ld20
      refine fx_top (v := .ref (ld 20)) rfl ?_
      refine tk_get (ci := 2) (C := RX2) (T := TX2) (N := 20) (sp := (9, 40, 10, 0)) hx hb htl inX2 hown hK hG ht_ld20 (by decide) tk_no rfl 19 (by decide) (htl _ mw_302) (fun _ h9 => h9) rfl dX12_of_52 (fun v9 hf11 hV9 => ?_)
      obtain ⟨rfl, ht_ld40⟩ := hV9
      have ht_ld40 : t (ld 40) = (10, 0, 0) := ht_ld40
      refine fx_top (v := .ref (ld 40)) rfl ?_
      refine tk_get (ci := 9) (C := RX9) (T := TX9) (N := 11) (sp := (1, 20, 8, 0)) hx hb htl inX9 hown hK hG ht_ld40 (by decide) tk_no rfl 0 (by decide) (htl _ mw_303) (fun _ h9 => h9) rfl dX12_of_55 (fun v9 hf12 hV9 => ?_)
      obtain ⟨b13, rfl, ht_b13⟩ := hV9
      have ht_b13 : t b13 = (20, 8, 0) := ht_b13
      refine lv_iload_n hx hb dX12_of_58 rfl (lv_at hl 1 rfl) ?_
      refine tk_iald hx hb hK hG ht_b13 (by decide) (fun _ h => h) tk_no rfl (by omega) (by omega) dX12_of_59 (fun v14 _ _ => ?_)
      have hr_v14 := tk_rng v14
      exact tk_iret (v := v14) hx hb hr rfl hlocks trivial hG hS dX12_of_60
    · refine lv_tableIn (off := 47) (tgt := 61) hx hb dX12_of_14 (by omega) (by omega) (by rw [hsw]; rfl) (by decide) ?_
      refine lv_aload_n hx hb dX12_of_61 rfl (lv_at hl 0 rfl) ?_
      refine tk_get (ci := 12) (C := RX12) (T := TX12) (N := 17) (sp := (8, 20, 3, 0)) hx hb htl inX12 hown hK hG ht_a0 (by decide) tk_no rfl 0 (by decide) (htl _ mw_15) (fun _ h9 => h9) rfl dX12_of_62 (fun v9 hf15 hV9 => ?_)
      obtain ⟨rfl, ht_ld20⟩ := hV9
      have ht_ld20 : t (ld 20) = (3, 0, 0) := ht_ld20
      refine fx_top (v := .ref (ld 20)) rfl ?_
      refine tk_get (ci := 2) (C := RX2) (T := TX2) (N := 20) (sp := (1, 20, 8, 0)) hx hb htl inX2 hown hK hG ht_ld20 (by decide) tk_no rfl 1 (by decide) (htl _ mw_304) (fun _ h9 => h9) rfl dX12_of_65 (fun v9 hf16 hV9 => ?_)
      obtain ⟨b17, rfl, ht_b17⟩ := hV9
      have ht_b17 : t b17 = (20, 8, 0) := ht_b17
      refine lv_iload_n hx hb dX12_of_68 rfl (lv_at hl 1 rfl) ?_
      refine tk_iald hx hb hK hG ht_b17 (by decide) (fun _ h => h) tk_no rfl (by omega) (by omega) dX12_of_69 (fun v18 _ _ => ?_)
      have hr_v18 := tk_rng v18
      exact tk_iret (v := v18) hx hb hr rfl hlocks trivial hG hS dX12_of_70
    · refine lv_tableIn (off := 57) (tgt := 71) hx hb dX12_of_14 (by omega) (by omega) (by rw [hsw]; rfl) (by decide) ?_
      refine lv_aload_n hx hb dX12_of_71 rfl (lv_at hl 0 rfl) ?_
      refine tk_get (ci := 12) (C := RX12) (T := TX12) (N := 17) (sp := (8, 20, 3, 0)) hx hb htl inX12 hown hK hG ht_a0 (by decide) tk_no rfl 0 (by decide) (htl _ mw_15) (fun _ h9 => h9) rfl dX12_of_72 (fun v9 hf19 hV9 => ?_)
      obtain ⟨rfl, ht_ld20⟩ := hV9
      have ht_ld20 : t (ld 20) = (3, 0, 0) := ht_ld20
      refine fx_top (v := .ref (ld 20)) rfl ?_
      refine tk_get (ci := 2) (C := RX2) (T := TX2) (N := 20) (sp := (1, 21, 8, 0)) hx hb htl inX2 hown hK hG ht_ld20 (by decide) tk_no rfl 2 (by decide) (htl _ mw_305) (fun _ h9 => h9) rfl dX12_of_75 (fun v9 hf20 hV9 => ?_)
      obtain ⟨b21, rfl, ht_b21⟩ := hV9
      have ht_b21 : t b21 = (21, 8, 0) := ht_b21
      refine lv_iload_n hx hb dX12_of_78 rfl (lv_at hl 1 rfl) ?_
      refine tk_iald hx hb hK hG ht_b21 (by decide) (fun _ h => h) tk_no rfl (by omega) (by omega) dX12_of_79 (fun v22 hE9 _ => ?_)
      have he_v22 : 0 ≤ v22.toInt ∧ v22.toInt ≤ 1 := hE9
      exact tk_iret (v := v22) hx hb hr rfl hlocks trivial hG hS dX12_of_80
    · refine lv_tableIn (off := 67) (tgt := 81) hx hb dX12_of_14 (by omega) (by omega) (by rw [hsw]; rfl) (by decide) ?_
      refine lv_aload_n hx hb dX12_of_81 rfl (lv_at hl 0 rfl) ?_
      refine tk_get (ci := 12) (C := RX12) (T := TX12) (N := 17) (sp := (8, 20, 3, 0)) hx hb htl inX12 hown hK hG ht_a0 (by decide) tk_no rfl 0 (by decide) (htl _ mw_15) (fun _ h9 => h9) rfl dX12_of_82 (fun v9 hf23 hV9 => ?_)
      obtain ⟨rfl, ht_ld20⟩ := hV9
      have ht_ld20 : t (ld 20) = (3, 0, 0) := ht_ld20
      refine fx_top (v := .ref (ld 20)) rfl ?_
      refine tk_get (ci := 2) (C := RX2) (T := TX2) (N := 20) (sp := (9, 40, 10, 0)) hx hb htl inX2 hown hK hG ht_ld20 (by decide) tk_no rfl 19 (by decide) (htl _ mw_302) (fun _ h9 => h9) rfl dX12_of_85 (fun v9 hf24 hV9 => ?_)
      obtain ⟨rfl, ht_ld40⟩ := hV9
      have ht_ld40 : t (ld 40) = (10, 0, 0) := ht_ld40
      refine fx_top (v := .ref (ld 40)) rfl ?_
      refine tk_get (ci := 9) (C := RX9) (T := TX9) (N := 11) (sp := (1, 20, 8, 0)) hx hb htl inX9 hown hK hG ht_ld40 (by decide) tk_no rfl 1 (by decide) (htl _ mw_306) (fun _ h9 => h9) rfl dX12_of_88 (fun v9 hf25 hV9 => ?_)
      obtain ⟨b26, rfl, ht_b26⟩ := hV9
      have ht_b26 : t b26 = (20, 8, 0) := ht_b26
      refine lv_iload_n hx hb dX12_of_91 rfl (lv_at hl 1 rfl) ?_
      refine tk_iald hx hb hK hG ht_b26 (by decide) (fun _ h => h) tk_no rfl (by omega) (by omega) dX12_of_92 (fun v27 _ _ => ?_)
      have hr_v27 := tk_rng v27
      exact tk_iret (v := v27) hx hb hr rfl hlocks trivial hG hS dX12_of_93
    · refine lv_tableIn (off := 80) (tgt := 94) hx hb dX12_of_14 (by omega) (by omega) (by rw [hsw]; rfl) (by decide) ?_
      refine lv_aload_n hx hb dX12_of_94 rfl (lv_at hl 0 rfl) ?_
      refine tk_get (ci := 12) (C := RX12) (T := TX12) (N := 17) (sp := (8, 20, 3, 0)) hx hb htl inX12 hown hK hG ht_a0 (by decide) tk_no rfl 0 (by decide) (htl _ mw_15) (fun _ h9 => h9) rfl dX12_of_95 (fun v9 hf28 hV9 => ?_)
      obtain ⟨rfl, ht_ld20⟩ := hV9
      have ht_ld20 : t (ld 20) = (3, 0, 0) := ht_ld20
      refine fx_top (v := .ref (ld 20)) rfl ?_
      refine tk_get (ci := 2) (C := RX2) (T := TX2) (N := 20) (sp := (9, 40, 10, 0)) hx hb htl inX2 hown hK hG ht_ld20 (by decide) tk_no rfl 19 (by decide) (htl _ mw_302) (fun _ h9 => h9) rfl dX12_of_98 (fun v9 hf29 hV9 => ?_)
      obtain ⟨rfl, ht_ld40⟩ := hV9
      have ht_ld40 : t (ld 40) = (10, 0, 0) := ht_ld40
      refine fx_top (v := .ref (ld 40)) rfl ?_
      refine tk_get (ci := 9) (C := RX9) (T := TX9) (N := 11) (sp := (1, 20, 8, 0)) hx hb htl inX9 hown hK hG ht_ld40 (by decide) tk_no rfl 2 (by decide) (htl _ mw_307) (fun _ h9 => h9) rfl dX12_of_101 (fun v9 hf30 hV9 => ?_)
      obtain ⟨b31, rfl, ht_b31⟩ := hV9
      have ht_b31 : t b31 = (20, 8, 0) := ht_b31
      refine lv_iload_n hx hb dX12_of_104 rfl (lv_at hl 1 rfl) ?_
      refine tk_iald hx hb hK hG ht_b31 (by decide) (fun _ h => h) tk_no rfl (by omega) (by omega) dX12_of_105 (fun v32 _ _ => ?_)
      have hr_v32 := tk_rng v32
      exact tk_iret (v := v32) hx hb hr rfl hlocks trivial hG hS dX12_of_106
    · refine lv_tableOut (tgt := 107) hx hb dX12_of_14 (by omega) (by decide) ?_
      refine lv_iconst (v := (-1)) hx hb dX12_of_107 (by decide) ?_
      have hk_m1 : ((-1) : Int32).toInt = (-1) := by decide
      exact tk_iret (v := (-1)) hx hb hr rfl hlocks trivial hG hS dX12_of_108
    · refine lv_tableOut (tgt := 107) hx hb dX12_of_14 (by omega) (by decide) ?_
      refine lv_iconst (v := (-1)) hx hb dX12_of_107 (by decide) ?_
      have hk_m1 : ((-1) : Int32).toInt = (-1) := by decide
      exact tk_iret (v := (-1)) hx hb hr rfl hlocks trivial hG hS dX12_of_108
  · have hc9 : v2.toInt = 0 := (fi_eq rfl (show (0 : Int32).toInt = 0 by decide)).mp c9
    refine lv_iconst (v := (-1)) hx hb dX12_of_11 (by decide) ?_
    have hk_m1 : ((-1) : Int32).toInt = (-1) := by decide
    exact tk_iret (v := (-1)) hx hb hr rfl hlocks trivial hG hS dX12_of_12
theorem dX12_verse_0 : decode cX12_verse 0 = .ok (.aload_n 0, 1) := by decide +kernel
theorem dX12_verse_1 : decode cX12_verse 1 = .ok (.aload_n 0, 1) := by decide +kernel
theorem dX12_verse_2 : decode cX12_verse 2 = .ok (.getfield 10, 3) := by decide +kernel
theorem dX12_verse_5 : decode cX12_verse 5 = .ok (.iload_n 1, 1) := by decide +kernel
theorem dX12_verse_6 : decode cX12_verse 6 = .ok (.iload_n 2, 1) := by decide +kernel
theorem dX12_verse_7 : decode cX12_verse 7 = .ok (.invokevirtual 139, 3) := by decide +kernel
theorem dX12_verse_10 : decode cX12_verse 10 = .ok (.invokevirtual 110, 3) := by decide +kernel
theorem dX12_verse_13 : decode cX12_verse 13 = .ok (.ireturn, 1) := by decide +kernel
theorem dX12_at_0 : decode cX12_at 0 = .ok (.aload_n 0, 1) := by decide +kernel
theorem dX12_at_1 : decode cX12_at 1 = .ok (.getfield 10, 3) := by decide +kernel
theorem dX12_at_4 : decode cX12_at 4 = .ok (.iload_n 1, 1) := by decide +kernel
theorem dX12_at_5 : decode cX12_at 5 = .ok (.invokevirtual 143, 3) := by decide +kernel
theorem dX12_at_8 : decode cX12_at 8 = .ok (.ifCond .eq 12, 3) := by decide +kernel
theorem dX12_at_20 : decode cX12_at 20 = .ok (.iconst (-1), 1) := by decide +kernel
theorem dX12_at_21 : decode cX12_at 21 = .ok (.ireturn, 1) := by decide +kernel
theorem dX12_at_11 : decode cX12_at 11 = .ok (.iload_n 2, 1) := by decide +kernel
theorem dX12_at_12 : decode cX12_at 12 = .ok (.iconst 0, 1) := by decide +kernel
theorem dX12_at_13 : decode cX12_at 13 = .ok (.iconst 1, 1) := by decide +kernel
theorem dX12_at_14 : decode cX12_at 14 = .ok (.invokestatic 146, 3) := by decide +kernel
theorem dX12_at_17 : decode cX12_at 17 = .ok (.ifCond .ne 5, 3) := by decide +kernel
theorem dX12_at_22 : decode cX12_at 22 = .ok (.iload_n 2, 1) := by decide +kernel
theorem dX12_at_23 : decode cX12_at 23 = .ok (.ifCond .ne 15, 3) := by decide +kernel
theorem dX12_at_38 : decode cX12_at 38 = .ok (.aload_n 0, 1) := by decide +kernel
theorem dX12_at_39 : decode cX12_at 39 = .ok (.getfield 10, 3) := by decide +kernel
theorem dX12_at_42 : decode cX12_at 42 = .ok (.getfield 153, 3) := by decide +kernel
theorem dX12_at_45 : decode cX12_at 45 = .ok (.iload_n 1, 1) := by decide +kernel
theorem dX12_at_46 : decode cX12_at 46 = .ok (.iaload, 1) := by decide +kernel
theorem dX12_at_47 : decode cX12_at 47 = .ok (.ireturn, 1) := by decide +kernel
theorem dX12_at_26 : decode cX12_at 26 = .ok (.aload_n 0, 1) := by decide +kernel
theorem dX12_at_27 : decode cX12_at 27 = .ok (.getfield 10, 3) := by decide +kernel
theorem dX12_at_30 : decode cX12_at 30 = .ok (.getfield 150, 3) := by decide +kernel
theorem dX12_at_33 : decode cX12_at 33 = .ok (.iload_n 1, 1) := by decide +kernel
theorem dX12_at_34 : decode cX12_at 34 = .ok (.iaload, 1) := by decide +kernel
theorem dX12_at_35 : decode cX12_at 35 = .ok (.goto 12, 3) := by decide +kernel
theorem dX12_piece_0 : decode cX12_piece 0 = .ok (.aload_n 0, 1) := by decide +kernel
theorem dX12_piece_1 : decode cX12_piece 1 = .ok (.aload_n 0, 1) := by decide +kernel
theorem dX12_piece_2 : decode cX12_piece 2 = .ok (.getfield 10, 3) := by decide +kernel
theorem dX12_piece_5 : decode cX12_piece 5 = .ok (.iload_n 1, 1) := by decide +kernel
theorem dX12_piece_6 : decode cX12_piece 6 = .ok (.iload_n 2, 1) := by decide +kernel
theorem dX12_piece_7 : decode cX12_piece 7 = .ok (.iload_n 3, 1) := by decide +kernel
theorem dX12_piece_8 : decode cX12_piece 8 = .ok (.invokevirtual 156, 3) := by decide +kernel
theorem dX12_piece_11 : decode cX12_piece 11 = .ok (.invokevirtual 110, 3) := by decide +kernel
theorem dX12_piece_14 : decode cX12_piece 14 = .ok (.ireturn, 1) := by decide +kernel
theorem dX12_hears_0 : decode cX12_hears 0 = .ok (.iload_n 1, 1) := by decide +kernel
theorem dX12_hears_1 : decode cX12_hears 1 = .ok (.iload_n 2, 1) := by decide +kernel
theorem dX12_hears_2 : decode cX12_hears 2 = .ok (.if_icmp .eq 12, 3) := by decide +kernel
theorem dX12_hears_14 : decode cX12_hears 14 = .ok (.aload_n 0, 1) := by decide +kernel
theorem dX12_hears_15 : decode cX12_hears 15 = .ok (.iconst (-1), 1) := by decide +kernel
theorem dX12_hears_16 : decode cX12_hears 16 = .ok (.invokevirtual 159, 3) := by decide +kernel
theorem dX12_hears_19 : decode cX12_hears 19 = .ok (.ireturn, 1) := by decide +kernel
theorem dX12_hears_5 : decode cX12_hears 5 = .ok (.iload_n 3, 1) := by decide +kernel
theorem dX12_hears_6 : decode cX12_hears 6 = .ok (.iconst 0, 1) := by decide +kernel
theorem dX12_hears_7 : decode cX12_hears 7 = .ok (.iconst 1, 1) := by decide +kernel
theorem dX12_hears_8 : decode cX12_hears 8 = .ok (.invokestatic 146, 3) := by decide +kernel
theorem dX12_hears_11 : decode cX12_hears 11 = .ok (.ifCond .ne 9, 3) := by decide +kernel
theorem dX12_hears_20 : decode cX12_hears 20 = .ok (.aload_n 0, 1) := by decide +kernel
theorem dX12_hears_21 : decode cX12_hears 21 = .ok (.getfield 10, 3) := by decide +kernel
theorem dX12_hears_24 : decode cX12_hears 24 = .ok (.iload_n 1, 1) := by decide +kernel
theorem dX12_hears_25 : decode cX12_hears 25 = .ok (.invokevirtual 114, 3) := by decide +kernel
theorem dX12_hears_28 : decode cX12_hears 28 = .ok (.ifCond .eq 14, 3) := by decide +kernel
theorem dX12_hears_42 : decode cX12_hears 42 = .ok (.aload_n 0, 1) := by decide +kernel
theorem dX12_hears_43 : decode cX12_hears 43 = .ok (.bipush (-2), 2) := by decide +kernel
theorem dX12_hears_45 : decode cX12_hears 45 = .ok (.invokevirtual 159, 3) := by decide +kernel
theorem dX12_hears_48 : decode cX12_hears 48 = .ok (.ireturn, 1) := by decide +kernel
theorem dX12_hears_31 : decode cX12_hears 31 = .ok (.aload_n 0, 1) := by decide +kernel
theorem dX12_hears_32 : decode cX12_hears 32 = .ok (.getfield 10, 3) := by decide +kernel
theorem dX12_hears_35 : decode cX12_hears 35 = .ok (.iload_n 2, 1) := by decide +kernel
theorem dX12_hears_36 : decode cX12_hears 36 = .ok (.invokevirtual 114, 3) := by decide +kernel
theorem dX12_hears_39 : decode cX12_hears 39 = .ok (.ifCond .ne 10, 3) := by decide +kernel
theorem dX12_hears_49 : decode cX12_hears 49 = .ok (.aload_n 0, 1) := by decide +kernel
theorem dX12_hears_50 : decode cX12_hears 50 = .ok (.aload_n 0, 1) := by decide +kernel
theorem dX12_hears_51 : decode cX12_hears 51 = .ok (.getfield 10, 3) := by decide +kernel
theorem dX12_hears_54 : decode cX12_hears 54 = .ok (.iload_n 1, 1) := by decide +kernel
theorem dX12_hears_55 : decode cX12_hears 55 = .ok (.iload_n 2, 1) := by decide +kernel
theorem dX12_hears_56 : decode cX12_hears 56 = .ok (.iload_n 3, 1) := by decide +kernel
theorem dX12_hears_57 : decode cX12_hears 57 = .ok (.invokevirtual 162, 3) := by decide +kernel
theorem dX12_hears_60 : decode cX12_hears 60 = .ok (.invokevirtual 165, 3) := by decide +kernel
theorem dX12_hears_63 : decode cX12_hears 63 = .ok (.ireturn, 1) := by decide +kernel
theorem dX12_cows_0 : decode cX12_cows 0 = .ok (.iload_n 1, 1) := by decide +kernel
theorem dX12_cows_1 : decode cX12_cows 1 = .ok (.iconst 0, 1) := by decide +kernel
theorem dX12_cows_2 : decode cX12_cows 2 = .ok (.iconst 1, 1) := by decide +kernel
theorem dX12_cows_3 : decode cX12_cows 3 = .ok (.invokestatic 146, 3) := by decide +kernel
theorem dX12_cows_6 : decode cX12_cows 6 = .ok (.ifCond .eq 14, 3) := by decide +kernel
theorem dX12_cows_20 : decode cX12_cows 20 = .ok (.aload_n 0, 1) := by decide +kernel
theorem dX12_cows_21 : decode cX12_cows 21 = .ok (.iconst (-1), 1) := by decide +kernel
theorem dX12_cows_22 : decode cX12_cows 22 = .ok (.invokevirtual 159, 3) := by decide +kernel
theorem dX12_cows_25 : decode cX12_cows 25 = .ok (.ireturn, 1) := by decide +kernel
theorem dX12_cows_9 : decode cX12_cows 9 = .ok (.iload_n 2, 1) := by decide +kernel
theorem dX12_cows_10 : decode cX12_cows 10 = .ok (.iconst 0, 1) := by decide +kernel
theorem dX12_cows_11 : decode cX12_cows 11 = .ok (.sipush 9999, 3) := by decide +kernel
theorem dX12_cows_14 : decode cX12_cows 14 = .ok (.invokestatic 146, 3) := by decide +kernel
theorem dX12_cows_17 : decode cX12_cows 17 = .ok (.ifCond .ne 9, 3) := by decide +kernel
theorem dX12_cows_26 : decode cX12_cows 26 = .ok (.aload_n 0, 1) := by decide +kernel
theorem dX12_cows_27 : decode cX12_cows 27 = .ok (.getfield 10, 3) := by decide +kernel
theorem dX12_cows_30 : decode cX12_cows 30 = .ok (.getfield 118, 3) := by decide +kernel
theorem dX12_cows_33 : decode cX12_cows 33 = .ok (.getfield 168, 3) := by decide +kernel
theorem dX12_cows_36 : decode cX12_cows 36 = .ok (.iload_n 1, 1) := by decide +kernel
theorem dX12_cows_37 : decode cX12_cows 37 = .ok (.iaload, 1) := by decide +kernel
theorem dX12_cows_38 : decode cX12_cows 38 = .ok (.istore_n 3, 1) := by decide +kernel
theorem dX12_cows_39 : decode cX12_cows 39 = .ok (.aload_n 0, 1) := by decide +kernel
theorem dX12_cows_40 : decode cX12_cows 40 = .ok (.getfield 10, 3) := by decide +kernel
theorem dX12_cows_43 : decode cX12_cows 43 = .ok (.getfield 118, 3) := by decide +kernel
theorem dX12_cows_46 : decode cX12_cows 46 = .ok (.getfield 168, 3) := by decide +kernel
theorem dX12_cows_49 : decode cX12_cows 49 = .ok (.iload_n 1, 1) := by decide +kernel
theorem dX12_cows_50 : decode cX12_cows 50 = .ok (.iload_n 2, 1) := by decide +kernel
theorem dX12_cows_51 : decode cX12_cows 51 = .ok (.iastore, 1) := by decide +kernel
theorem dX12_cows_52 : decode cX12_cows 52 = .ok (.aload_n 0, 1) := by decide +kernel
theorem dX12_cows_53 : decode cX12_cows 53 = .ok (.getfield 38, 3) := by decide +kernel
theorem dX12_cows_56 : decode cX12_cows 56 = .ok (.invokevirtual 107, 3) := by decide +kernel
theorem dX12_cows_59 : decode cX12_cows 59 = .ok (.aload_n 0, 1) := by decide +kernel
theorem dX12_cows_60 : decode cX12_cows 60 = .ok (.iload_n 3, 1) := by decide +kernel
theorem dX12_cows_61 : decode cX12_cows 61 = .ok (.invokevirtual 165, 3) := by decide +kernel
theorem dX12_cows_64 : decode cX12_cows 64 = .ok (.ireturn, 1) := by decide +kernel
theorem dX12_terms_0 : decode cX12_terms 0 = .ok (.iload_n 1, 1) := by decide +kernel
theorem dX12_terms_1 : decode cX12_terms 1 = .ok (.iconst 1, 1) := by decide +kernel
theorem dX12_terms_10 : decode cX12_terms 10 = .ok (.istore_n 3, 1) := by decide +kernel
theorem dX12_terms_11 : decode cX12_terms 11 = .ok (.iload_n 1, 1) := by decide +kernel
theorem dX12_terms_12 : decode cX12_terms 12 = .ok (.iconst 3, 1) := by decide +kernel
theorem dX12_terms_24 : decode cX12_terms 24 = .ok (.istore 4, 2) := by decide +kernel
theorem dX12_terms_26 : decode cX12_terms 26 = .ok (.iload_n 1, 1) := by decide +kernel
theorem dX12_terms_27 : decode cX12_terms 27 = .ok (.iconst 0, 1) := by decide +kernel
theorem dX12_terms_28 : decode cX12_terms 28 = .ok (.iconst 3, 1) := by decide +kernel
theorem dX12_terms_29 : decode cX12_terms 29 = .ok (.invokestatic 146, 3) := by decide +kernel
theorem dX12_terms_32 : decode cX12_terms 32 = .ok (.ifCond .eq 13, 3) := by decide +kernel
theorem dX12_terms_45 : decode cX12_terms 45 = .ok (.aload_n 0, 1) := by decide +kernel
theorem dX12_terms_46 : decode cX12_terms 46 = .ok (.iconst (-1), 1) := by decide +kernel
theorem dX12_terms_47 : decode cX12_terms 47 = .ok (.invokevirtual 159, 3) := by decide +kernel
theorem dX12_terms_50 : decode cX12_terms 50 = .ok (.ireturn, 1) := by decide +kernel
theorem dX12_terms_35 : decode cX12_terms 35 = .ok (.iload_n 2, 1) := by decide +kernel
theorem dX12_terms_36 : decode cX12_terms 36 = .ok (.iload_n 3, 1) := by decide +kernel
theorem dX12_terms_37 : decode cX12_terms 37 = .ok (.iload 4, 2) := by decide +kernel
theorem dX12_terms_39 : decode cX12_terms 39 = .ok (.invokestatic 146, 3) := by decide +kernel
theorem dX12_terms_42 : decode cX12_terms 42 = .ok (.ifCond .ne 9, 3) := by decide +kernel
theorem dX12_terms_51 : decode cX12_terms 51 = .ok (.aload_n 0, 1) := by decide +kernel
theorem dX12_terms_52 : decode cX12_terms 52 = .ok (.getfield 10, 3) := by decide +kernel
theorem dX12_terms_55 : decode cX12_terms 55 = .ok (.iload_n 1, 1) := by decide +kernel
theorem dX12_terms_56 : decode cX12_terms 56 = .ok (.invokevirtual 171, 3) := by decide +kernel
theorem dX12_terms_59 : decode cX12_terms 59 = .ok (.istore 5, 2) := by decide +kernel
theorem dX12_terms_61 : decode cX12_terms 61 = .ok (.aload_n 0, 1) := by decide +kernel
theorem dX12_terms_62 : decode cX12_terms 62 = .ok (.getfield 10, 3) := by decide +kernel
theorem dX12_terms_65 : decode cX12_terms 65 = .ok (.iload_n 1, 1) := by decide +kernel
theorem dX12_terms_66 : decode cX12_terms 66 = .ok (.iload_n 2, 1) := by decide +kernel
theorem dX12_terms_67 : decode cX12_terms 67 = .ok (.invokevirtual 174, 3) := by decide +kernel
theorem dX12_terms_70 : decode cX12_terms 70 = .ok (.aload_n 0, 1) := by decide +kernel
theorem dX12_terms_71 : decode cX12_terms 71 = .ok (.getfield 38, 3) := by decide +kernel
theorem dX12_terms_74 : decode cX12_terms 74 = .ok (.invokevirtual 107, 3) := by decide +kernel
theorem dX12_terms_77 : decode cX12_terms 77 = .ok (.aload_n 0, 1) := by decide +kernel
theorem dX12_terms_78 : decode cX12_terms 78 = .ok (.iload 5, 2) := by decide +kernel
theorem dX12_terms_80 : decode cX12_terms 80 = .ok (.invokevirtual 165, 3) := by decide +kernel
theorem dX12_terms_83 : decode cX12_terms 83 = .ok (.ireturn, 1) := by decide +kernel
theorem dX12_terms_13 : decode cX12_terms 13 = .ok (.if_icmp .ne 8, 3) := by decide +kernel
theorem dX12_terms_21 : decode cX12_terms 21 = .ok (.sipush 999, 3) := by decide +kernel
theorem dX12_terms_16 : decode cX12_terms 16 = .ok (.bipush 9, 2) := by decide +kernel
theorem dX12_terms_18 : decode cX12_terms 18 = .ok (.goto 6, 3) := by decide +kernel
theorem dX12_terms_2 : decode cX12_terms 2 = .ok (.if_icmp .ne 7, 3) := by decide +kernel
theorem dX12_terms_9 : decode cX12_terms 9 = .ok (.iconst 0, 1) := by decide +kernel
theorem dX12_terms_5 : decode cX12_terms 5 = .ok (.iconst 1, 1) := by decide +kernel
theorem dX12_terms_6 : decode cX12_terms 6 = .ok (.goto 4, 3) := by decide +kernel
theorem dX12_pour_0 : decode cX12_pour 0 = .ok (.bipush 24, 2) := by decide +kernel
theorem dX12_pour_2 : decode cX12_pour 2 = .ok (.istore_n 2, 1) := by decide +kernel
theorem dX12_pour_3 : decode cX12_pour 3 = .ok (.iload_n 2, 1) := by decide +kernel
theorem dX12_pour_4 : decode cX12_pour 4 = .ok (.ifCond .lt 47, 3) := by decide +kernel
theorem dX12_pour_51 : decode cX12_pour 51 = .ok (.return_, 1) := by decide +kernel
theorem dX12_pour_7 : decode cX12_pour 7 = .ok (.aload_n 0, 1) := by decide +kernel
theorem dX12_pour_8 : decode cX12_pour 8 = .ok (.getfield 178, 3) := by decide +kernel
theorem dX12_pour_11 : decode cX12_pour 11 = .ok (.aload_n 0, 1) := by decide +kernel
theorem dX12_pour_12 : decode cX12_pour 12 = .ok (.getfield 55, 3) := by decide +kernel
theorem dX12_pour_15 : decode cX12_pour 15 = .ok (.arraylength, 1) := by decide +kernel
theorem dX12_pour_45 : decode cX12_pour 45 = .ok (.iinc 2 (-8), 3) := by decide +kernel
theorem dX12_pour_48 : decode cX12_pour 48 = .ok (.goto (-45), 3) := by decide +kernel
theorem dX12_pour_16 : decode cX12_pour 16 = .ok (.if_icmp .ge 29, 3) := by decide +kernel
theorem dX12_pour_19 : decode cX12_pour 19 = .ok (.aload_n 0, 1) := by decide +kernel
theorem dX12_pour_20 : decode cX12_pour 20 = .ok (.getfield 55, 3) := by decide +kernel
theorem dX12_pour_23 : decode cX12_pour 23 = .ok (.aload_n 0, 1) := by decide +kernel
theorem dX12_pour_24 : decode cX12_pour 24 = .ok (.getfield 178, 3) := by decide +kernel
theorem dX12_pour_27 : decode cX12_pour 27 = .ok (.iload_n 1, 1) := by decide +kernel
theorem dX12_pour_28 : decode cX12_pour 28 = .ok (.iload_n 2, 1) := by decide +kernel
theorem dX12_pour_29 : decode cX12_pour 29 = .ok (.iushr, 1) := by decide +kernel
theorem dX12_pour_30 : decode cX12_pour 30 = .ok (.sipush 255, 3) := by decide +kernel
theorem dX12_pour_33 : decode cX12_pour 33 = .ok (.iand, 1) := by decide +kernel
theorem dX12_pour_34 : decode cX12_pour 34 = .ok (.iastore, 1) := by decide +kernel
theorem dX12_pour_35 : decode cX12_pour 35 = .ok (.aload_n 0, 1) := by decide +kernel
theorem dX12_pour_36 : decode cX12_pour 36 = .ok (.dup, 1) := by decide +kernel
theorem dX12_pour_37 : decode cX12_pour 37 = .ok (.getfield 178, 3) := by decide +kernel
theorem dX12_pour_40 : decode cX12_pour 40 = .ok (.iconst 1, 1) := by decide +kernel
theorem dX12_pour_41 : decode cX12_pour 41 = .ok (.iadd, 1) := by decide +kernel
theorem dX12_pour_42 : decode cX12_pour 42 = .ok (.putfield 178, 3) := by decide +kernel
theorem dX12_feed_0 : decode cX12_feed 0 = .ok (.aload_n 0, 1) := by decide +kernel
theorem dX12_feed_1 : decode cX12_feed 1 = .ok (.getfield 178, 3) := by decide +kernel
theorem dX12_feed_4 : decode cX12_feed 4 = .ok (.bipush 20, 2) := by decide +kernel
theorem dX12_feed_6 : decode cX12_feed 6 = .ok (.iadd, 1) := by decide +kernel
theorem dX12_feed_7 : decode cX12_feed 7 = .ok (.sipush 400, 3) := by decide +kernel
theorem dX12_feed_10 : decode cX12_feed 10 = .ok (.if_icmp .le 5, 3) := by decide +kernel
theorem dX12_feed_15 : decode cX12_feed 15 = .ok (.aload_n 0, 1) := by decide +kernel
theorem dX12_feed_16 : decode cX12_feed 16 = .ok (.iload_n 1, 1) := by decide +kernel
theorem dX12_feed_17 : decode cX12_feed 17 = .ok (.invokevirtual 181, 3) := by decide +kernel
theorem dX12_feed_20 : decode cX12_feed 20 = .ok (.aload_n 0, 1) := by decide +kernel
theorem dX12_feed_21 : decode cX12_feed 21 = .ok (.iload_n 2, 1) := by decide +kernel
theorem dX12_feed_22 : decode cX12_feed 22 = .ok (.invokevirtual 181, 3) := by decide +kernel
theorem dX12_feed_25 : decode cX12_feed 25 = .ok (.aload_n 0, 1) := by decide +kernel
theorem dX12_feed_26 : decode cX12_feed 26 = .ok (.iload_n 3, 1) := by decide +kernel
theorem dX12_feed_27 : decode cX12_feed 27 = .ok (.invokevirtual 181, 3) := by decide +kernel
theorem dX12_feed_30 : decode cX12_feed 30 = .ok (.aload_n 0, 1) := by decide +kernel
theorem dX12_feed_31 : decode cX12_feed 31 = .ok (.iload 4, 2) := by decide +kernel
theorem dX12_feed_33 : decode cX12_feed 33 = .ok (.invokevirtual 181, 3) := by decide +kernel
theorem dX12_feed_36 : decode cX12_feed 36 = .ok (.aload_n 0, 1) := by decide +kernel
theorem dX12_feed_37 : decode cX12_feed 37 = .ok (.iload 5, 2) := by decide +kernel
theorem dX12_feed_39 : decode cX12_feed 39 = .ok (.invokevirtual 181, 3) := by decide +kernel
theorem dX12_feed_42 : decode cX12_feed 42 = .ok (.aload_n 0, 1) := by decide +kernel
theorem dX12_feed_43 : decode cX12_feed 43 = .ok (.getfield 178, 3) := by decide +kernel
theorem dX12_feed_46 : decode cX12_feed 46 = .ok (.ireturn, 1) := by decide +kernel
theorem dX12_feed_13 : decode cX12_feed 13 = .ok (.iconst (-1), 1) := by decide +kernel
theorem dX12_feed_14 : decode cX12_feed 14 = .ok (.ireturn, 1) := by decide +kernel
theorem dX12_end_0 : decode cX12_end 0 = .ok (.iload_n 1, 1) := by decide +kernel
theorem dX12_end_1 : decode cX12_end 1 = .ok (.iconst 0, 1) := by decide +kernel
theorem dX12_end_2 : decode cX12_end 2 = .ok (.aload_n 0, 1) := by decide +kernel
theorem dX12_end_3 : decode cX12_end 3 = .ok (.getfield 178, 3) := by decide +kernel
theorem dX12_end_6 : decode cX12_end 6 = .ok (.invokestatic 146, 3) := by decide +kernel
theorem dX12_end_9 : decode cX12_end 9 = .ok (.ifCond .ne 5, 3) := by decide +kernel
theorem dX12_end_14 : decode cX12_end 14 = .ok (.aload_n 0, 1) := by decide +kernel
theorem dX12_end_15 : decode cX12_end 15 = .ok (.iload_n 1, 1) := by decide +kernel
theorem dX12_end_16 : decode cX12_end 16 = .ok (.putfield 178, 3) := by decide +kernel
theorem dX12_end_19 : decode cX12_end 19 = .ok (.iload_n 1, 1) := by decide +kernel
theorem dX12_end_20 : decode cX12_end 20 = .ok (.ireturn, 1) := by decide +kernel
theorem dX12_end_12 : decode cX12_end 12 = .ok (.iconst (-1), 1) := by decide +kernel
theorem dX12_end_13 : decode cX12_end 13 = .ok (.ireturn, 1) := by decide +kernel
theorem dX12_row_0 : decode cX12_row 0 = .ok (.aload_n 0, 1) := by decide +kernel
theorem dX12_row_1 : decode cX12_row 1 = .ok (.getfield 178, 3) := by decide +kernel
theorem dX12_row_4 : decode cX12_row 4 = .ok (.ifCond .ne 10, 3) := by decide +kernel
theorem dX12_row_14 : decode cX12_row 14 = .ok (.iconst 0, 1) := by decide +kernel
theorem dX12_row_15 : decode cX12_row 15 = .ok (.istore_n 1, 1) := by decide +kernel
theorem dX12_row_16 : decode cX12_row 16 = .ok (.iconst 0, 1) := by decide +kernel
theorem dX12_row_17 : decode cX12_row 17 = .ok (.istore_n 2, 1) := by decide +kernel
theorem dX12_row_18 : decode cX12_row 18 = .ok (.iconst 0, 1) := by decide +kernel
theorem dX12_row_19 : decode cX12_row 19 = .ok (.istore_n 3, 1) := by decide +kernel
theorem dX12_row_20 : decode cX12_row 20 = .ok (.iload_n 3, 1) := by decide +kernel
theorem dX12_row_21 : decode cX12_row 21 = .ok (.aload_n 0, 1) := by decide +kernel
theorem dX12_row_22 : decode cX12_row 22 = .ok (.getfield 178, 3) := by decide +kernel
theorem dX12_row_25 : decode cX12_row 25 = .ok (.if_icmp .ge 52, 3) := by decide +kernel
theorem dX12_row_77 : decode cX12_row 77 = .ok (.aload_n 0, 1) := by decide +kernel
theorem dX12_row_78 : decode cX12_row 78 = .ok (.iconst 0, 1) := by decide +kernel
theorem dX12_row_79 : decode cX12_row 79 = .ok (.putfield 178, 3) := by decide +kernel
theorem dX12_row_82 : decode cX12_row 82 = .ok (.aload_n 0, 1) := by decide +kernel
theorem dX12_row_83 : decode cX12_row 83 = .ok (.iload_n 2, 1) := by decide +kernel
theorem dX12_row_84 : decode cX12_row 84 = .ok (.putfield 185, 3) := by decide +kernel
theorem dX12_row_87 : decode cX12_row 87 = .ok (.aload_n 0, 1) := by decide +kernel
theorem dX12_row_88 : decode cX12_row 88 = .ok (.iload_n 1, 1) := by decide +kernel
theorem dX12_row_89 : decode cX12_row 89 = .ok (.invokevirtual 165, 3) := by decide +kernel
theorem dX12_row_92 : decode cX12_row 92 = .ok (.ireturn, 1) := by decide +kernel
theorem dX12_row_28 : decode cX12_row 28 = .ok (.iload_n 3, 1) := by decide +kernel
theorem dX12_row_29 : decode cX12_row 29 = .ok (.iconst 1, 1) := by decide +kernel
theorem dX12_row_30 : decode cX12_row 30 = .ok (.iadd, 1) := by decide +kernel
theorem dX12_row_31 : decode cX12_row 31 = .ok (.aload_n 0, 1) := by decide +kernel
theorem dX12_row_32 : decode cX12_row 32 = .ok (.getfield 178, 3) := by decide +kernel
theorem dX12_row_71 : decode cX12_row 71 = .ok (.iinc 3 2, 3) := by decide +kernel
theorem dX12_row_74 : decode cX12_row 74 = .ok (.goto (-54), 3) := by decide +kernel
theorem dX12_row_35 : decode cX12_row 35 = .ok (.if_icmp .ge 33, 3) := by decide +kernel
theorem dX12_row_68 : decode cX12_row 68 = .ok (.iinc 2 1, 3) := by decide +kernel
theorem dX12_row_38 : decode cX12_row 38 = .ok (.aload_n 0, 1) := by decide +kernel
theorem dX12_row_39 : decode cX12_row 39 = .ok (.getfield 10, 3) := by decide +kernel
theorem dX12_row_42 : decode cX12_row 42 = .ok (.aload_n 0, 1) := by decide +kernel
theorem dX12_row_43 : decode cX12_row 43 = .ok (.getfield 55, 3) := by decide +kernel
theorem dX12_row_46 : decode cX12_row 46 = .ok (.iload_n 3, 1) := by decide +kernel
theorem dX12_row_47 : decode cX12_row 47 = .ok (.iaload, 1) := by decide +kernel
theorem dX12_row_48 : decode cX12_row 48 = .ok (.aload_n 0, 1) := by decide +kernel
theorem dX12_row_49 : decode cX12_row 49 = .ok (.getfield 55, 3) := by decide +kernel
theorem dX12_row_52 : decode cX12_row 52 = .ok (.iload_n 3, 1) := by decide +kernel
theorem dX12_row_53 : decode cX12_row 53 = .ok (.iconst 1, 1) := by decide +kernel
theorem dX12_row_54 : decode cX12_row 54 = .ok (.iadd, 1) := by decide +kernel
theorem dX12_row_55 : decode cX12_row 55 = .ok (.iaload, 1) := by decide +kernel
theorem dX12_row_56 : decode cX12_row 56 = .ok (.invokevirtual 139, 3) := by decide +kernel
theorem dX12_row_59 : decode cX12_row 59 = .ok (.ifCond .lt 9, 3) := by decide +kernel
theorem dX12_row_62 : decode cX12_row 62 = .ok (.iinc 1 1, 3) := by decide +kernel
theorem dX12_row_65 : decode cX12_row 65 = .ok (.goto 6, 3) := by decide +kernel
theorem dX12_row_7 : decode cX12_row 7 = .ok (.aload_n 0, 1) := by decide +kernel
theorem dX12_row_8 : decode cX12_row 8 = .ok (.bipush (-6), 2) := by decide +kernel
theorem dX12_row_10 : decode cX12_row 10 = .ok (.invokevirtual 159, 3) := by decide +kernel
theorem dX12_row_13 : decode cX12_row 13 = .ok (.ireturn, 1) := by decide +kernel
theorem dX12_coughs_0 : decode cX12_coughs 0 = .ok (.aload_n 0, 1) := by decide +kernel
theorem dX12_coughs_1 : decode cX12_coughs 1 = .ok (.getfield 185, 3) := by decide +kernel
theorem dX12_coughs_4 : decode cX12_coughs 4 = .ok (.ireturn, 1) := by decide +kernel
theorem dX12_orders_0 : decode cX12_orders 0 = .ok (.aload_n 0, 1) := by decide +kernel
theorem dX12_orders_1 : decode cX12_orders 1 = .ok (.getfield 178, 3) := by decide +kernel
theorem dX12_orders_4 : decode cX12_orders 4 = .ok (.istore_n 1, 1) := by decide +kernel
theorem dX12_orders_5 : decode cX12_orders 5 = .ok (.aload_n 0, 1) := by decide +kernel
theorem dX12_orders_6 : decode cX12_orders 6 = .ok (.iconst 0, 1) := by decide +kernel
theorem dX12_orders_7 : decode cX12_orders 7 = .ok (.putfield 178, 3) := by decide +kernel
theorem dX12_orders_10 : decode cX12_orders 10 = .ok (.aload_n 0, 1) := by decide +kernel
theorem dX12_orders_11 : decode cX12_orders 11 = .ok (.getfield 51, 3) := by decide +kernel
theorem dX12_orders_14 : decode cX12_orders 14 = .ok (.iconst (-1), 1) := by decide +kernel
theorem dX12_orders_15 : decode cX12_orders 15 = .ok (.putfield 209, 3) := by decide +kernel
theorem dX12_orders_18 : decode cX12_orders 18 = .ok (.aload_n 0, 1) := by decide +kernel
theorem dX12_orders_19 : decode cX12_orders 19 = .ok (.aload_n 0, 1) := by decide +kernel
theorem dX12_orders_20 : decode cX12_orders 20 = .ok (.getfield 64, 3) := by decide +kernel
theorem dX12_orders_23 : decode cX12_orders 23 = .ok (.iload_n 1, 1) := by decide +kernel
theorem dX12_orders_24 : decode cX12_orders 24 = .ok (.iconst 0, 1) := by decide +kernel
theorem dX12_orders_25 : decode cX12_orders 25 = .ok (.invokevirtual 191, 3) := by decide +kernel
theorem dX12_orders_28 : decode cX12_orders 28 = .ok (.putfield 99, 3) := by decide +kernel
theorem dX12_orders_31 : decode cX12_orders 31 = .ok (.aload_n 0, 1) := by decide +kernel
theorem dX12_orders_32 : decode cX12_orders 32 = .ok (.getfield 99, 3) := by decide +kernel
theorem dX12_orders_35 : decode cX12_orders 35 = .ok (.iconst (-1), 1) := by decide +kernel
theorem dX12_orders_36 : decode cX12_orders 36 = .ok (.if_icmp .eq 10, 3) := by decide +kernel
theorem dX12_orders_46 : decode cX12_orders 46 = .ok (.aload_n 0, 1) := by decide +kernel
theorem dX12_orders_47 : decode cX12_orders 47 = .ok (.aload_n 0, 1) := by decide +kernel
theorem dX12_orders_48 : decode cX12_orders 48 = .ok (.getfield 51, 3) := by decide +kernel
theorem dX12_orders_51 : decode cX12_orders 51 = .ok (.aload_n 0, 1) := by decide +kernel
theorem dX12_orders_52 : decode cX12_orders 52 = .ok (.getfield 64, 3) := by decide +kernel
theorem dX12_orders_55 : decode cX12_orders 55 = .ok (.getfield 195, 3) := by decide +kernel
theorem dX12_orders_58 : decode cX12_orders 58 = .ok (.invokevirtual 212, 3) := by decide +kernel
theorem dX12_orders_61 : decode cX12_orders 61 = .ok (.invokevirtual 110, 3) := by decide +kernel
theorem dX12_orders_64 : decode cX12_orders 64 = .ok (.ireturn, 1) := by decide +kernel
theorem dX12_orders_39 : decode cX12_orders 39 = .ok (.aload_n 0, 1) := by decide +kernel
theorem dX12_orders_40 : decode cX12_orders 40 = .ok (.bipush (-6), 2) := by decide +kernel
theorem dX12_orders_42 : decode cX12_orders 42 = .ok (.invokevirtual 159, 3) := by decide +kernel
theorem dX12_orders_45 : decode cX12_orders 45 = .ok (.ireturn, 1) := by decide +kernel
theorem dX12_fault_0 : decode cX12_fault 0 = .ok (.aload_n 0, 1) := by decide +kernel
theorem dX12_fault_1 : decode cX12_fault 1 = .ok (.getfield 99, 3) := by decide +kernel
theorem dX12_fault_4 : decode cX12_fault 4 = .ok (.ireturn, 1) := by decide +kernel
set_option maxHeartbeats 4000000 in
set_option maxRecDepth 100000 in
theorem k_X12_fault (l : Launch) (D : va_G) (cy : Nat → ClassId) (ld : Nat → Nat) (t : tk_T) (a0 : Nat) (ht_a0 : t a0 = (13, 0, 0)) : Met l yX12_fault (wl yX12_fault cX12_fault 1 (some .int)) ({ frames := 3, cells := 0, slots := 0, locals := 140 }) (tp D cy ld t [] [.ref a0] (fun H => True)) (ti D cy ld t [] (fun r H => True) (tk_w t [])) 0 0 (tk_w t []) := by
  refine tk_met (y := yX12_fault) (cc := cX12_fault) (maxL := 1) (ret := (some .int)) (av := [.ref a0]) _ _ (by decide) (Nat.le_of_ble_eq_true rfl) ?_
  intro p e s m args below meth c hx hb hr hml hts htl hown hlocks hK H locs hH hG hS hB hZ ls hl
  have hown : s.vm.findClass RX12 = some m.cls := hown
  have hl : lv_has ls 1 [(0, .ref a0)] := hl
  refine lv_aload_n hx hb dX12_fault_0 rfl (lv_at hl 0 rfl) ?_
  refine tk_get (ci := 12) (C := RX12) (T := TX12) (N := 17) (sp := (0, (-2147483648), 2147483647, 0)) hx hb htl inX12 hown hK hG ht_a0 (by decide) tk_no rfl 14 (by decide) (htl _ mw_55) (fun _ h9 => h9) rfl dX12_fault_1 (fun v9 hf1 hV9 => ?_)
  obtain ⟨v2, rfl, (ha_v2 : (-2147483648) ≤ v2.toInt), (hb_v2 : v2.toInt ≤ 2147483647)⟩ := hV9
  exact tk_iret (v := v2) hx hb hr rfl hlocks trivial hG hS dX12_fault_4
theorem dX12_stopped_0 : decode cX12_stopped 0 = .ok (.aload_n 0, 1) := by decide +kernel
theorem dX12_stopped_1 : decode cX12_stopped 1 = .ok (.getfield 51, 3) := by decide +kernel
theorem dX12_stopped_4 : decode cX12_stopped 4 = .ok (.getfield 209, 3) := by decide +kernel
theorem dX12_stopped_7 : decode cX12_stopped 7 = .ok (.ireturn, 1) := by decide +kernel
set_option maxHeartbeats 4000000 in
set_option maxRecDepth 100000 in
theorem k_X12_stopped (l : Launch) (D : va_G) (cy : Nat → ClassId) (ld : Nat → Nat) (t : tk_T) (a0 : Nat) (ht_a0 : t a0 = (13, 0, 0)) : Met l yX12_stopped (wl yX12_stopped cX12_stopped 1 (some .int)) ({ frames := 3, cells := 0, slots := 0, locals := 140 }) (tp D cy ld t [] [.ref a0] (fun H => True)) (ti D cy ld t [] (fun r H => True) (tk_w t [])) 0 0 (tk_w t []) := by
  refine tk_met (y := yX12_stopped) (cc := cX12_stopped) (maxL := 1) (ret := (some .int)) (av := [.ref a0]) _ _ (by decide) (Nat.le_of_ble_eq_true rfl) ?_
  intro p e s m args below meth c hx hb hr hml hts htl hown hlocks hK H locs hH hG hS hB hZ ls hl
  have hown : s.vm.findClass RX12 = some m.cls := hown
  have hl : lv_has ls 1 [(0, .ref a0)] := hl
  refine lv_aload_n hx hb dX12_stopped_0 rfl (lv_at hl 0 rfl) ?_
  refine tk_get (ci := 12) (C := RX12) (T := TX12) (N := 17) (sp := (6, 5, 0, 0)) hx hb htl inX12 hown hK hG ht_a0 (by decide) tk_no rfl 5 (by decide) (htl _ mw_31) (fun _ h9 => h9) rfl dX12_stopped_1 (fun v9 hf1 hV9 => ?_)
  obtain ⟨b2, rfl, ht_b2⟩ := hV9
  have ht_b2 : t b2 = (5, 0, 0) := ht_b2
  refine tk_get (ci := 4) (C := RX4) (T := TX4) (N := 6) (sp := (0, (-2147483648), 2147483647, 0)) hx hb htl inX4 hown hK hG ht_b2 (by decide) tk_no rfl 0 (by decide) (htl _ mw_800) (fun _ h9 => h9) rfl dX12_stopped_4 (fun v9 hf3 hV9 => ?_)
  obtain ⟨v4, rfl, (ha_v4 : (-2147483648) ≤ v4.toInt), (hb_v4 : v4.toInt ≤ 2147483647)⟩ := hV9
  exact tk_iret (v := v4) hx hb hr rfl hlocks trivial hG hS dX12_stopped_7
theorem dX12_force_0 : decode cX12_force 0 = .ok (.iload_n 1, 1) := by decide +kernel
theorem dX12_force_1 : decode cX12_force 1 = .ok (.iconst (-1), 1) := by decide +kernel
theorem dX12_force_2 : decode cX12_force 2 = .ok (.if_icmp .eq 27, 3) := by decide +kernel
theorem dX12_force_29 : decode cX12_force 29 = .ok (.aload_n 0, 1) := by decide +kernel
theorem dX12_force_30 : decode cX12_force 30 = .ok (.getfield 10, 3) := by decide +kernel
theorem dX12_force_33 : decode cX12_force 33 = .ok (.getfield 215, 3) := by decide +kernel
theorem dX12_force_36 : decode cX12_force 36 = .ok (.istore_n 2, 1) := by decide +kernel
theorem dX12_force_37 : decode cX12_force 37 = .ok (.aload_n 0, 1) := by decide +kernel
theorem dX12_force_38 : decode cX12_force 38 = .ok (.getfield 10, 3) := by decide +kernel
theorem dX12_force_41 : decode cX12_force 41 = .ok (.iload_n 1, 1) := by decide +kernel
theorem dX12_force_42 : decode cX12_force 42 = .ok (.putfield 215, 3) := by decide +kernel
theorem dX12_force_45 : decode cX12_force 45 = .ok (.aload_n 0, 1) := by decide +kernel
theorem dX12_force_46 : decode cX12_force 46 = .ok (.iload_n 2, 1) := by decide +kernel
theorem dX12_force_47 : decode cX12_force 47 = .ok (.invokevirtual 165, 3) := by decide +kernel
theorem dX12_force_50 : decode cX12_force 50 = .ok (.ireturn, 1) := by decide +kernel
theorem dX12_force_5 : decode cX12_force 5 = .ok (.iload_n 1, 1) := by decide +kernel
theorem dX12_force_6 : decode cX12_force 6 = .ok (.iconst 0, 1) := by decide +kernel
theorem dX12_force_7 : decode cX12_force 7 = .ok (.aload_n 0, 1) := by decide +kernel
theorem dX12_force_8 : decode cX12_force 8 = .ok (.getfield 10, 3) := by decide +kernel
theorem dX12_force_11 : decode cX12_force 11 = .ok (.getfield 188, 3) := by decide +kernel
theorem dX12_force_14 : decode cX12_force 14 = .ok (.iconst 1, 1) := by decide +kernel
theorem dX12_force_15 : decode cX12_force 15 = .ok (.isub, 1) := by decide +kernel
theorem dX12_force_16 : decode cX12_force 16 = .ok (.invokestatic 146, 3) := by decide +kernel
theorem dX12_force_19 : decode cX12_force 19 = .ok (.ifCond .ne 10, 3) := by decide +kernel
theorem dX12_force_22 : decode cX12_force 22 = .ok (.aload_n 0, 1) := by decide +kernel
theorem dX12_force_23 : decode cX12_force 23 = .ok (.bipush (-2), 2) := by decide +kernel
theorem dX12_force_25 : decode cX12_force 25 = .ok (.invokevirtual 159, 3) := by decide +kernel
theorem dX12_force_28 : decode cX12_force 28 = .ok (.ireturn, 1) := by decide +kernel
theorem dX12_asks_0 : decode cX12_asks 0 = .ok (.aload_n 0, 1) := by decide +kernel
theorem dX12_asks_1 : decode cX12_asks 1 = .ok (.getfield 10, 3) := by decide +kernel
theorem dX12_asks_4 : decode cX12_asks 4 = .ok (.getfield 118, 3) := by decide +kernel
theorem dX12_asks_7 : decode cX12_asks 7 = .ok (.invokevirtual 218, 3) := by decide +kernel
theorem dX12_asks_10 : decode cX12_asks 10 = .ok (.ifCond .eq 14, 3) := by decide +kernel
theorem dX12_asks_24 : decode cX12_asks 24 = .ok (.iconst (-1), 1) := by decide +kernel
theorem dX12_asks_25 : decode cX12_asks 25 = .ok (.ireturn, 1) := by decide +kernel
theorem dX12_asks_13 : decode cX12_asks 13 = .ok (.aload_n 0, 1) := by decide +kernel
theorem dX12_asks_14 : decode cX12_asks 14 = .ok (.getfield 10, 3) := by decide +kernel
theorem dX12_asks_17 : decode cX12_asks 17 = .ok (.iload_n 1, 1) := by decide +kernel
theorem dX12_asks_18 : decode cX12_asks 18 = .ok (.invokevirtual 143, 3) := by decide +kernel
theorem dX12_asks_21 : decode cX12_asks 21 = .ok (.ifCond .ne 5, 3) := by decide +kernel
theorem dX12_asks_26 : decode cX12_asks 26 = .ok (.iload_n 2, 1) := by decide +kernel
theorem dX12_asks_27 : decode cX12_asks 27 = .ok (.tableswitch 81 0 2 #[25, 41, 57], 25) := by decide +kernel
theorem dX12_asks_52 : decode cX12_asks 52 = .ok (.aload_n 0, 1) := by decide +kernel
theorem dX12_asks_53 : decode cX12_asks 53 = .ok (.getfield 29, 3) := by decide +kernel
theorem dX12_asks_56 : decode cX12_asks 56 = .ok (.aload_n 0, 1) := by decide +kernel
theorem dX12_asks_57 : decode cX12_asks 57 = .ok (.getfield 10, 3) := by decide +kernel
theorem dX12_asks_60 : decode cX12_asks 60 = .ok (.getfield 118, 3) := by decide +kernel
theorem dX12_asks_63 : decode cX12_asks 63 = .ok (.iload_n 1, 1) := by decide +kernel
theorem dX12_asks_64 : decode cX12_asks 64 = .ok (.invokevirtual 222, 3) := by decide +kernel
theorem dX12_asks_67 : decode cX12_asks 67 = .ok (.ireturn, 1) := by decide +kernel
theorem dX12_asks_68 : decode cX12_asks 68 = .ok (.aload_n 0, 1) := by decide +kernel
theorem dX12_asks_69 : decode cX12_asks 69 = .ok (.getfield 29, 3) := by decide +kernel
theorem dX12_asks_72 : decode cX12_asks 72 = .ok (.aload_n 0, 1) := by decide +kernel
theorem dX12_asks_73 : decode cX12_asks 73 = .ok (.getfield 10, 3) := by decide +kernel
theorem dX12_asks_76 : decode cX12_asks 76 = .ok (.getfield 118, 3) := by decide +kernel
theorem dX12_asks_79 : decode cX12_asks 79 = .ok (.iload_n 1, 1) := by decide +kernel
theorem dX12_asks_80 : decode cX12_asks 80 = .ok (.invokevirtual 226, 3) := by decide +kernel
theorem dX12_asks_83 : decode cX12_asks 83 = .ok (.ireturn, 1) := by decide +kernel
theorem dX12_asks_84 : decode cX12_asks 84 = .ok (.aload_n 0, 1) := by decide +kernel
theorem dX12_asks_85 : decode cX12_asks 85 = .ok (.getfield 29, 3) := by decide +kernel
theorem dX12_asks_88 : decode cX12_asks 88 = .ok (.aload_n 0, 1) := by decide +kernel
theorem dX12_asks_89 : decode cX12_asks 89 = .ok (.getfield 10, 3) := by decide +kernel
theorem dX12_asks_92 : decode cX12_asks 92 = .ok (.getfield 118, 3) := by decide +kernel
theorem dX12_asks_95 : decode cX12_asks 95 = .ok (.iload_n 1, 1) := by decide +kernel
theorem dX12_asks_96 : decode cX12_asks 96 = .ok (.invokevirtual 229, 3) := by decide +kernel
theorem dX12_asks_99 : decode cX12_asks 99 = .ok (.ifCond .eq 7, 3) := by decide +kernel
theorem dX12_asks_106 : decode cX12_asks 106 = .ok (.iconst 0, 1) := by decide +kernel
theorem dX12_asks_107 : decode cX12_asks 107 = .ok (.ireturn, 1) := by decide +kernel
theorem dX12_asks_102 : decode cX12_asks 102 = .ok (.iconst 1, 1) := by decide +kernel
theorem dX12_asks_103 : decode cX12_asks 103 = .ok (.goto 4, 3) := by decide +kernel
theorem dX12_asks_108 : decode cX12_asks 108 = .ok (.iconst (-1), 1) := by decide +kernel
theorem dX12_asks_109 : decode cX12_asks 109 = .ok (.ireturn, 1) := by decide +kernel
set_option maxHeartbeats 4000000 in
set_option maxRecDepth 100000 in
theorem k_X12_asks (l : Launch) (D : va_G) (cy : Nat → ClassId) (ld : Nat → Nat) (t : tk_T) (a0 : Nat) (p1 : Int32) (p2 : Int32) (ht_a0 : t a0 = (13, 0, 0)) : Met l yX12_asks (wl yX12_asks cX12_asks 3 (some .int)) ({ frames := 7, cells := 0, slots := 0, locals := 420 }) (tp D cy ld t [] [.ref a0, .int p1, .int p2] (fun H => True)) (ti D cy ld t [] (fun r H => True) (tk_w t [(20, 0, 0), (12, 0, 0), (9, 0, 0)])) 0 0 (tk_w t [(20, 0, 0), (12, 0, 0), (9, 0, 0)]) := by
  refine tk_met (y := yX12_asks) (cc := cX12_asks) (maxL := 3) (ret := (some .int)) (av := [.ref a0, .int p1, .int p2]) _ _ (by decide) (Nat.le_of_ble_eq_true rfl) ?_
  intro p e s m args below meth c hx hb hr hml hts htl hown hlocks hK H locs hH hG hS hB hZ ls hl
  have hown : s.vm.findClass RX12 = some m.cls := hown
  have hl : lv_has ls 3 [(0, .ref a0), (1, .int p1), (2, .int p2)] := hl
  have hr_p1 := tk_rng p1
  have hr_p2 := tk_rng p2
  refine lv_aload_n hx hb dX12_asks_0 rfl (lv_at hl 0 rfl) ?_
  refine tk_get (ci := 12) (C := RX12) (T := TX12) (N := 17) (sp := (8, 20, 3, 0)) hx hb htl inX12 hown hK hG ht_a0 (by decide) tk_no rfl 0 (by decide) (htl _ mw_15) (fun _ h9 => h9) rfl dX12_asks_1 (fun v9 hf1 hV9 => ?_)
  obtain ⟨rfl, ht_ld20⟩ := hV9
  have ht_ld20 : t (ld 20) = (3, 0, 0) := ht_ld20
  refine fx_top (v := .ref (ld 20)) rfl ?_
  refine tk_get (ci := 2) (C := RX2) (T := TX2) (N := 20) (sp := (9, 40, 10, 0)) hx hb htl inX2 hown hK hG ht_ld20 (by decide) tk_no rfl 19 (by decide) (htl _ mw_302) (fun _ h9 => h9) rfl dX12_asks_4 (fun v9 hf2 hV9 => ?_)
  obtain ⟨rfl, ht_ld40⟩ := hV9
  have ht_ld40 : t (ld 40) = (10, 0, 0) := ht_ld40
  refine fx_top (v := .ref (ld 40)) rfl ?_
  obtain ⟨v9, hf3, hV9⟩ := tk_peek (ci := 9) (C := RX9) (T := TX9) (N := 11) (sp := (0, (-1), 7, 0)) hG ht_ld40 (by decide) tk_no rfl 5 (by decide) rfl
  obtain ⟨v4, rfl, (ha_v4 : (-1) ≤ v4.toInt), (hb_v4 : v4.toInt ≤ 7)⟩ := hV9
  refine tk_Vi (As := []) (rest := []) (ci := 9) ⟨hx, hb, hml, hown, hts⟩ hK hG hZ hS (k_X9_isDuel l D cy ld t 0 (ld 40) v4 ht_ld40 (by omega) (by omega)) hf3 ⟨callB_of 0 hts (wl_in mw_840) rfl rfl rfl (htl _ mw_76) (htl _ mw_1192) hd_yX9_isDuel ⟨(Nat.le_of_ble_eq_true rfl), (Nat.le_of_ble_eq_true rfl)⟩, htl _ mw_838, htl _ mw_839⟩ ht_ld40 (by decide) tk_no rfl (tk_w.pick [] rfl) rfl hl.1 rfl (Nat.le_of_ble_eq_true rfl) dX12_asks_7 ⟨(Nat.le_of_ble_eq_true rfl), (Nat.le_of_ble_eq_true rfl)⟩ (fun v5 H locs hpo hG hS hq9 => ?_)
  have hf3 := hf3.call hq9 tk_w.nil
  obtain ⟨hpo7, hpo8, hpo9, hpo10, hpo11⟩ := hpo
  refine lv_if_eq (tgt := 24) hx hb dX12_asks_10 (by decide) (fun c9 => ?_) (fun c9 => ?_)
  · have hc12 : v5.toInt = 0 := (fi_eq rfl (show (0 : Int32).toInt = 0 by decide)).mp c9
    refine lv_iconst (v := (-1)) hx hb dX12_asks_24 (by decide) ?_
    have hk_m1 : ((-1) : Int32).toInt = (-1) := by decide
    exact tk_iret (v := (-1)) hx hb hr rfl hlocks trivial hG hS dX12_asks_25
  · have hc12 : ¬ (v5.toInt = 0) := fun h9 => c9 ((fi_eq rfl (show (0 : Int32).toInt = 0 by decide)).mpr h9)
    refine lv_aload_n hx hb dX12_asks_13 rfl (lv_at hl 0 rfl) ?_
    refine tk_get (ci := 12) (C := RX12) (T := TX12) (N := 17) (sp := (8, 20, 3, 0)) hx hb htl inX12 hown hK hG ht_a0 (by decide) tk_no rfl 0 (by decide) (htl _ mw_15) (fun _ h9 => h9) rfl dX12_asks_14 (fun v9 hf13 hV9 => ?_)
    obtain ⟨rfl, ht_ld20⟩ := hV9
    have ht_ld20 : t (ld 20) = (3, 0, 0) := ht_ld20
    refine fx_top (v := .ref (ld 20)) rfl ?_
    refine lv_iload_n hx hb dX12_asks_17 rfl (lv_at hl 1 rfl) ?_
    refine tk_Vi (As := [.int p1]) (rest := []) (ci := 2) ⟨hx, hb, hml, hown, hts⟩ hK hG hZ hS (k_X2_isVerse l D cy ld t (ld 20) p1 ht_ld20) trivial ⟨callB_of 1 hts (wl_in mw_352) rfl rfl rfl (htl _ mw_14) (htl _ mw_349) hd_yX2_isVerse ⟨(Nat.le_of_ble_eq_true rfl), (Nat.le_of_ble_eq_true rfl)⟩, htl _ mw_350, htl _ mw_351⟩ ht_ld20 (by decide) tk_no rfl (tk_w.pick [] rfl) rfl hl.1 rfl (Nat.le_of_ble_eq_true rfl) dX12_asks_18 ⟨(Nat.le_of_ble_eq_true rfl), (Nat.le_of_ble_eq_true rfl)⟩ (fun v14 H locs hpo hG hS hq9 => ?_)
    have hf3 := hf3.call hq9 tk_w.nil
    obtain ⟨hpo16, hpo17, hpo18, hpo19, hpo20⟩ := hpo
    refine lv_if_ne (tgt := 26) hx hb dX12_asks_21 (by decide) (fun c9 => ?_) (fun c9 => ?_)
    · have hc21 : ¬ (v14.toInt = 0) := fun h9 => c9 ((fi_eq rfl (show (0 : Int32).toInt = 0 by decide)).mpr h9)
      refine lv_iload_n hx hb dX12_asks_26 rfl (lv_at hl 2 rfl) ?_
      rcases (show p2.toInt = 0 ∨ p2.toInt = 1 ∨ p2.toInt = 2 ∨ p2.toInt < 0 ∨ 2 < p2.toInt by omega) with hsw | hsw | hsw | hsw | hsw
      · refine lv_tableIn (off := 25) (tgt := 52) hx hb dX12_asks_27 (by omega) (by omega) (by rw [hsw]; rfl) (by decide) ?_
        refine lv_aload_n hx hb dX12_asks_52 rfl (lv_at hl 0 rfl) ?_
        refine tk_get (ci := 12) (C := RX12) (T := TX12) (N := 17) (sp := (6, 9, 0, 0)) hx hb htl inX12 hown hK hG ht_a0 (by decide) tk_no rfl 3 (by decide) (htl _ mw_22) (fun _ h9 => h9) rfl dX12_asks_53 (fun v9 hf22 hV9 => ?_)
        obtain ⟨b23, rfl, ht_b23⟩ := hV9
        have ht_b23 : t b23 = (9, 0, 0) := ht_b23
        refine lv_aload_n hx hb dX12_asks_56 rfl (lv_at hl 0 rfl) ?_
        refine tk_get (ci := 12) (C := RX12) (T := TX12) (N := 17) (sp := (8, 20, 3, 0)) hx hb htl inX12 hown hK hG ht_a0 (by decide) tk_no rfl 0 (by decide) (htl _ mw_15) (fun _ h9 => h9) rfl dX12_asks_57 (fun v9 hf24 hV9 => ?_)
        obtain ⟨rfl, ht_ld20⟩ := hV9
        have ht_ld20 : t (ld 20) = (3, 0, 0) := ht_ld20
        refine fx_top (v := .ref (ld 20)) rfl ?_
        refine tk_get (ci := 2) (C := RX2) (T := TX2) (N := 20) (sp := (9, 40, 10, 0)) hx hb htl inX2 hown hK hG ht_ld20 (by decide) tk_no rfl 19 (by decide) (htl _ mw_302) (fun _ h9 => h9) rfl dX12_asks_60 (fun v9 hf25 hV9 => ?_)
        obtain ⟨rfl, ht_ld40⟩ := hV9
        have ht_ld40 : t (ld 40) = (10, 0, 0) := ht_ld40
        refine fx_top (v := .ref (ld 40)) rfl ?_
        refine lv_iload_n hx hb dX12_asks_63 rfl (lv_at hl 1 rfl) ?_
        refine tk_Vi (As := [.ref (ld 40), .int p1]) (rest := []) (ci := 8) ⟨hx, hb, hml, hown, hts⟩ hK hG hZ hS (k_X8_howLulls l D cy ld t 0 b23 (ld 40) p1 v4 ht_b23 ht_ld40 (by omega) (by omega) (by omega) (by omega)) hf3 ⟨callB_of 2 hts (wl_in mw_1196) rfl rfl rfl (htl _ mw_21) (htl _ mw_1193) hd_yX8_howLulls ⟨(Nat.le_of_ble_eq_true rfl), (Nat.le_of_ble_eq_true rfl)⟩, htl _ mw_1194, htl _ mw_1195⟩ ht_b23 (by decide) tk_no rfl (tk_w.pick [0, 1, 2] rfl) rfl hl.1 rfl (Nat.le_of_ble_eq_true rfl) dX12_asks_64 ⟨(Nat.le_of_ble_eq_true rfl), (Nat.le_of_ble_eq_true rfl)⟩ (fun v26 H locs hpo hG hS hq9 => ?_)
        have hf3 := hf3.call hq9 (tk_w.no ht_ld40 (by decide))
        exact tk_iret (v := v26) hx hb hr rfl hlocks trivial hG hS dX12_asks_67
      · refine lv_tableIn (off := 41) (tgt := 68) hx hb dX12_asks_27 (by omega) (by omega) (by rw [hsw]; rfl) (by decide) ?_
        refine lv_aload_n hx hb dX12_asks_68 rfl (lv_at hl 0 rfl) ?_
        refine tk_get (ci := 12) (C := RX12) (T := TX12) (N := 17) (sp := (6, 9, 0, 0)) hx hb htl inX12 hown hK hG ht_a0 (by decide) tk_no rfl 3 (by decide) (htl _ mw_22) (fun _ h9 => h9) rfl dX12_asks_69 (fun v9 hf28 hV9 => ?_)
        obtain ⟨b29, rfl, ht_b29⟩ := hV9
        have ht_b29 : t b29 = (9, 0, 0) := ht_b29
        refine lv_aload_n hx hb dX12_asks_72 rfl (lv_at hl 0 rfl) ?_
        refine tk_get (ci := 12) (C := RX12) (T := TX12) (N := 17) (sp := (8, 20, 3, 0)) hx hb htl inX12 hown hK hG ht_a0 (by decide) tk_no rfl 0 (by decide) (htl _ mw_15) (fun _ h9 => h9) rfl dX12_asks_73 (fun v9 hf30 hV9 => ?_)
        obtain ⟨rfl, ht_ld20⟩ := hV9
        have ht_ld20 : t (ld 20) = (3, 0, 0) := ht_ld20
        refine fx_top (v := .ref (ld 20)) rfl ?_
        refine tk_get (ci := 2) (C := RX2) (T := TX2) (N := 20) (sp := (9, 40, 10, 0)) hx hb htl inX2 hown hK hG ht_ld20 (by decide) tk_no rfl 19 (by decide) (htl _ mw_302) (fun _ h9 => h9) rfl dX12_asks_76 (fun v9 hf31 hV9 => ?_)
        obtain ⟨rfl, ht_ld40⟩ := hV9
        have ht_ld40 : t (ld 40) = (10, 0, 0) := ht_ld40
        refine fx_top (v := .ref (ld 40)) rfl ?_
        refine lv_iload_n hx hb dX12_asks_79 rfl (lv_at hl 1 rfl) ?_
        refine tk_Vi (As := [.ref (ld 40), .int p1]) (rest := []) (ci := 8) ⟨hx, hb, hml, hown, hts⟩ hK hG hZ hS (k_X8_howTires l D cy ld t 0 b29 (ld 40) p1 v4 ht_b29 ht_ld40 (by omega) (by omega) (by omega) (by omega)) hf3 ⟨callB_of 2 hts (wl_in mw_1200) rfl rfl rfl (htl _ mw_21) (htl _ mw_1197) hd_yX8_howTires ⟨(Nat.le_of_ble_eq_true rfl), (Nat.le_of_ble_eq_true rfl)⟩, htl _ mw_1198, htl _ mw_1199⟩ ht_b29 (by decide) tk_no rfl (tk_w.pick [0, 1, 2] rfl) rfl hl.1 rfl (Nat.le_of_ble_eq_true rfl) dX12_asks_80 ⟨(Nat.le_of_ble_eq_true rfl), (Nat.le_of_ble_eq_true rfl)⟩ (fun v32 H locs hpo hG hS hq9 => ?_)
        have hf3 := hf3.call hq9 (tk_w.no ht_ld40 (by decide))
        exact tk_iret (v := v32) hx hb hr rfl hlocks trivial hG hS dX12_asks_83
      · refine lv_tableIn (off := 57) (tgt := 84) hx hb dX12_asks_27 (by omega) (by omega) (by rw [hsw]; rfl) (by decide) ?_
        refine lv_aload_n hx hb dX12_asks_84 rfl (lv_at hl 0 rfl) ?_
        refine tk_get (ci := 12) (C := RX12) (T := TX12) (N := 17) (sp := (6, 9, 0, 0)) hx hb htl inX12 hown hK hG ht_a0 (by decide) tk_no rfl 3 (by decide) (htl _ mw_22) (fun _ h9 => h9) rfl dX12_asks_85 (fun v9 hf34 hV9 => ?_)
        obtain ⟨b35, rfl, ht_b35⟩ := hV9
        have ht_b35 : t b35 = (9, 0, 0) := ht_b35
        refine lv_aload_n hx hb dX12_asks_88 rfl (lv_at hl 0 rfl) ?_
        refine tk_get (ci := 12) (C := RX12) (T := TX12) (N := 17) (sp := (8, 20, 3, 0)) hx hb htl inX12 hown hK hG ht_a0 (by decide) tk_no rfl 0 (by decide) (htl _ mw_15) (fun _ h9 => h9) rfl dX12_asks_89 (fun v9 hf36 hV9 => ?_)
        obtain ⟨rfl, ht_ld20⟩ := hV9
        have ht_ld20 : t (ld 20) = (3, 0, 0) := ht_ld20
        refine fx_top (v := .ref (ld 20)) rfl ?_
        refine tk_get (ci := 2) (C := RX2) (T := TX2) (N := 20) (sp := (9, 40, 10, 0)) hx hb htl inX2 hown hK hG ht_ld20 (by decide) tk_no rfl 19 (by decide) (htl _ mw_302) (fun _ h9 => h9) rfl dX12_asks_92 (fun v9 hf37 hV9 => ?_)
        obtain ⟨rfl, ht_ld40⟩ := hV9
        have ht_ld40 : t (ld 40) = (10, 0, 0) := ht_ld40
        refine fx_top (v := .ref (ld 40)) rfl ?_
        refine lv_iload_n hx hb dX12_asks_95 rfl (lv_at hl 1 rfl) ?_
        refine tk_Vi (As := [.ref (ld 40), .int p1]) (rest := []) (ci := 8) ⟨hx, hb, hml, hown, hts⟩ hK hG hZ hS (k_X8_isBarred l D cy ld t 0 b35 (ld 40) p1 v4 ht_b35 ht_ld40 (by omega) (by omega) (by omega) (by omega)) hf3 ⟨callB_of 2 hts (wl_in mw_901) rfl rfl rfl (htl _ mw_21) (htl _ mw_1201) hd_yX8_isBarred ⟨(Nat.le_of_ble_eq_true rfl), (Nat.le_of_ble_eq_true rfl)⟩, htl _ mw_899, htl _ mw_900⟩ ht_b35 (by decide) tk_no rfl (tk_w.pick [0, 1, 2] rfl) rfl hl.1 rfl (Nat.le_of_ble_eq_true rfl) dX12_asks_96 ⟨(Nat.le_of_ble_eq_true rfl), (Nat.le_of_ble_eq_true rfl)⟩ (fun v38 H locs hpo hG hS hq9 => ?_)
        have hf3 := hf3.call hq9 (tk_w.no ht_ld40 (by decide))
        obtain ⟨hpo40, hpo41, hpo42, hpo43⟩ := hpo
        refine lv_if_eq (tgt := 106) hx hb dX12_asks_99 (by decide) (fun c9 => ?_) (fun c9 => ?_)
        · have hc44 : v38.toInt = 0 := (fi_eq rfl (show (0 : Int32).toInt = 0 by decide)).mp c9
          refine lv_iconst (v := 0) hx hb dX12_asks_106 (by decide) ?_
          have hk_0 : (0 : Int32).toInt = 0 := by decide
          exact tk_iret (v := 0) hx hb hr rfl hlocks trivial hG hS dX12_asks_107
        · have hc44 : ¬ (v38.toInt = 0) := fun h9 => c9 ((fi_eq rfl (show (0 : Int32).toInt = 0 by decide)).mpr h9)
          refine lv_iconst (v := 1) hx hb dX12_asks_102 (by decide) ?_
          refine lv_goto (tgt := 107) hx hb dX12_asks_103 (by decide) ?_
          have hk_1 : (1 : Int32).toInt = 1 := by decide
          exact tk_iret (v := 1) hx hb hr rfl hlocks trivial hG hS dX12_asks_107
      · refine lv_tableOut (tgt := 108) hx hb dX12_asks_27 (by omega) (by decide) ?_
        refine lv_iconst (v := (-1)) hx hb dX12_asks_108 (by decide) ?_
        have hk_m1 : ((-1) : Int32).toInt = (-1) := by decide
        exact tk_iret (v := (-1)) hx hb hr rfl hlocks trivial hG hS dX12_asks_109
      · refine lv_tableOut (tgt := 108) hx hb dX12_asks_27 (by omega) (by decide) ?_
        refine lv_iconst (v := (-1)) hx hb dX12_asks_108 (by decide) ?_
        have hk_m1 : ((-1) : Int32).toInt = (-1) := by decide
        exact tk_iret (v := (-1)) hx hb hr rfl hlocks trivial hG hS dX12_asks_109
    · have hc21 : v14.toInt = 0 := (fi_eq rfl (show (0 : Int32).toInt = 0 by decide)).mp c9
      refine lv_iconst (v := (-1)) hx hb dX12_asks_24 (by decide) ?_
      have hk_m1 : ((-1) : Int32).toInt = (-1) := by decide
      exact tk_iret (v := (-1)) hx hb hr rfl hlocks trivial hG hS dX12_asks_25
theorem dX12_wakes_0 : decode cX12_wakes 0 = .ok (.aload_n 0, 1) := by decide +kernel
theorem dX12_wakes_1 : decode cX12_wakes 1 = .ok (.getfield 10, 3) := by decide +kernel
theorem dX12_wakes_4 : decode cX12_wakes 4 = .ok (.iload_n 1, 1) := by decide +kernel
theorem dX12_wakes_5 : decode cX12_wakes 5 = .ok (.invokevirtual 114, 3) := by decide +kernel
theorem dX12_wakes_8 : decode cX12_wakes 8 = .ok (.ifCond .eq 21, 3) := by decide +kernel
theorem dX12_wakes_29 : decode cX12_wakes 29 = .ok (.iconst (-1), 1) := by decide +kernel
theorem dX12_wakes_30 : decode cX12_wakes 30 = .ok (.ireturn, 1) := by decide +kernel
theorem dX12_wakes_11 : decode cX12_wakes 11 = .ok (.aload_n 0, 1) := by decide +kernel
theorem dX12_wakes_12 : decode cX12_wakes 12 = .ok (.getfield 29, 3) := by decide +kernel
theorem dX12_wakes_15 : decode cX12_wakes 15 = .ok (.aload_n 0, 1) := by decide +kernel
theorem dX12_wakes_16 : decode cX12_wakes 16 = .ok (.getfield 10, 3) := by decide +kernel
theorem dX12_wakes_19 : decode cX12_wakes 19 = .ok (.getfield 118, 3) := by decide +kernel
theorem dX12_wakes_22 : decode cX12_wakes 22 = .ok (.iload_n 1, 1) := by decide +kernel
theorem dX12_wakes_23 : decode cX12_wakes 23 = .ok (.invokevirtual 233, 3) := by decide +kernel
theorem dX12_wakes_26 : decode cX12_wakes 26 = .ok (.goto 4, 3) := by decide +kernel
set_option maxHeartbeats 4000000 in
set_option maxRecDepth 100000 in
theorem k_X12_wakes (l : Launch) (D : va_G) (cy : Nat → ClassId) (ld : Nat → Nat) (t : tk_T) (a0 : Nat) (p1 : Int32) (ht_a0 : t a0 = (13, 0, 0)) : Met l yX12_wakes (wl yX12_wakes cX12_wakes 2 (some .int)) ({ frames := 6, cells := 0, slots := 0, locals := 350 }) (tp D cy ld t [] [.ref a0, .int p1] (fun H => True)) (ti D cy ld t [] (fun r H => (-1) ≤ r.toInt) (tk_w t [(20, 0, 0), (12, 0, 0), (9, 0, 0)])) 0 0 (tk_w t [(20, 0, 0), (12, 0, 0), (9, 0, 0)]) := by
  refine tk_met (y := yX12_wakes) (cc := cX12_wakes) (maxL := 2) (ret := (some .int)) (av := [.ref a0, .int p1]) _ _ (by decide) (Nat.le_of_ble_eq_true rfl) ?_
  intro p e s m args below meth c hx hb hr hml hts htl hown hlocks hK H locs hH hG hS hB hZ ls hl
  have hown : s.vm.findClass RX12 = some m.cls := hown
  have hl : lv_has ls 2 [(0, .ref a0), (1, .int p1)] := hl
  have hr_p1 := tk_rng p1
  refine lv_aload_n hx hb dX12_wakes_0 rfl (lv_at hl 0 rfl) ?_
  refine tk_get (ci := 12) (C := RX12) (T := TX12) (N := 17) (sp := (8, 20, 3, 0)) hx hb htl inX12 hown hK hG ht_a0 (by decide) tk_no rfl 0 (by decide) (htl _ mw_15) (fun _ h9 => h9) rfl dX12_wakes_1 (fun v9 hf1 hV9 => ?_)
  obtain ⟨rfl, ht_ld20⟩ := hV9
  have ht_ld20 : t (ld 20) = (3, 0, 0) := ht_ld20
  refine fx_top (v := .ref (ld 20)) rfl ?_
  refine lv_iload_n hx hb dX12_wakes_4 rfl (lv_at hl 1 rfl) ?_
  refine tk_Vi (As := [.int p1]) (rest := []) (ci := 2) ⟨hx, hb, hml, hown, hts⟩ hK hG hZ hS (k_X2_isSinger l D cy ld t (ld 20) p1 ht_ld20) trivial ⟨callB_of 1 hts (wl_in mw_311) rfl rfl rfl (htl _ mw_14) (htl _ mw_308) hd_yX2_isSinger ⟨(Nat.le_of_ble_eq_true rfl), (Nat.le_of_ble_eq_true rfl)⟩, htl _ mw_309, htl _ mw_310⟩ ht_ld20 (by decide) tk_no rfl (tk_w.pick [] rfl) rfl hl.1 rfl (Nat.le_of_ble_eq_true rfl) dX12_wakes_5 ⟨(Nat.le_of_ble_eq_true rfl), (Nat.le_of_ble_eq_true rfl)⟩ (fun v2 H locs hpo hG hS hq9 => ?_)
  obtain ⟨hpo4, hpo5, hpo6, hpo7, hpo8⟩ := hpo
  refine lv_if_eq (tgt := 29) hx hb dX12_wakes_8 (by decide) (fun c9 => ?_) (fun c9 => ?_)
  · have hc9 : v2.toInt = 0 := (fi_eq rfl (show (0 : Int32).toInt = 0 by decide)).mp c9
    refine lv_iconst (v := (-1)) hx hb dX12_wakes_29 (by decide) ?_
    have hk_m1 : ((-1) : Int32).toInt = (-1) := by decide
    exact tk_iret (v := (-1)) hx hb hr rfl hlocks (show (-1) ≤ ((-1) : Int32).toInt from (by omega)) hG hS dX12_wakes_30
  · have hc9 : ¬ (v2.toInt = 0) := fun h9 => c9 ((fi_eq rfl (show (0 : Int32).toInt = 0 by decide)).mpr h9)
    refine lv_aload_n hx hb dX12_wakes_11 rfl (lv_at hl 0 rfl) ?_
    refine tk_get (ci := 12) (C := RX12) (T := TX12) (N := 17) (sp := (6, 9, 0, 0)) hx hb htl inX12 hown hK hG ht_a0 (by decide) tk_no rfl 3 (by decide) (htl _ mw_22) (fun _ h9 => h9) rfl dX12_wakes_12 (fun v9 hf10 hV9 => ?_)
    obtain ⟨b11, rfl, ht_b11⟩ := hV9
    have ht_b11 : t b11 = (9, 0, 0) := ht_b11
    refine lv_aload_n hx hb dX12_wakes_15 rfl (lv_at hl 0 rfl) ?_
    refine tk_get (ci := 12) (C := RX12) (T := TX12) (N := 17) (sp := (8, 20, 3, 0)) hx hb htl inX12 hown hK hG ht_a0 (by decide) tk_no rfl 0 (by decide) (htl _ mw_15) (fun _ h9 => h9) rfl dX12_wakes_16 (fun v9 hf12 hV9 => ?_)
    obtain ⟨rfl, ht_ld20⟩ := hV9
    have ht_ld20 : t (ld 20) = (3, 0, 0) := ht_ld20
    refine fx_top (v := .ref (ld 20)) rfl ?_
    refine tk_get (ci := 2) (C := RX2) (T := TX2) (N := 20) (sp := (9, 40, 10, 0)) hx hb htl inX2 hown hK hG ht_ld20 (by decide) tk_no rfl 19 (by decide) (htl _ mw_302) (fun _ h9 => h9) rfl dX12_wakes_19 (fun v9 hf13 hV9 => ?_)
    obtain ⟨rfl, ht_ld40⟩ := hV9
    have ht_ld40 : t (ld 40) = (10, 0, 0) := ht_ld40
    refine fx_top (v := .ref (ld 40)) rfl ?_
    refine lv_iload_n hx hb dX12_wakes_22 rfl (lv_at hl 1 rfl) ?_
    refine tk_Vi (As := [.ref (ld 40), .int p1]) (rest := []) (ci := 8) ⟨hx, hb, hml, hown, hts⟩ hK hG hZ hS (k_X8_howWakes l D cy ld t 0 b11 (ld 40) p1 ht_b11 ht_ld40 (by omega) (by omega)) trivial ⟨callB_of 2 hts (wl_in mw_1000) rfl rfl rfl (htl _ mw_21) (htl _ mw_1210) hd_yX8_howWakes ⟨(Nat.le_of_ble_eq_true rfl), (Nat.le_of_ble_eq_true rfl)⟩, htl _ mw_998, htl _ mw_999⟩ ht_b11 (by decide) tk_no rfl (tk_w.pick [0, 1, 2] rfl) rfl hl.1 rfl (Nat.le_of_ble_eq_true rfl) dX12_wakes_23 ⟨(Nat.le_of_ble_eq_true rfl), (Nat.le_of_ble_eq_true rfl)⟩ (fun v14 H locs hpo hG hS hq9 => ?_)
    have hpo16 := hpo
    refine lv_goto (tgt := 30) hx hb dX12_wakes_26 (by decide) ?_
    exact tk_iret (v := v14) hx hb hr rfl hlocks (show (-1) ≤ v14.toInt from (by omega)) hG hS dX12_wakes_30
theorem dX12_begin_0 : decode cX12_begin 0 = .ok (.aload_n 0, 1) := by decide +kernel
theorem dX12_begin_1 : decode cX12_begin 1 = .ok (.aload_n 0, 1) := by decide +kernel
theorem dX12_begin_2 : decode cX12_begin 2 = .ok (.getfield 38, 3) := by decide +kernel
theorem dX12_begin_5 : decode cX12_begin 5 = .ok (.iload_n 1, 1) := by decide +kernel
theorem dX12_begin_6 : decode cX12_begin 6 = .ok (.iload_n 2, 1) := by decide +kernel
theorem dX12_begin_7 : decode cX12_begin 7 = .ok (.iload_n 3, 1) := by decide +kernel
theorem dX12_begin_8 : decode cX12_begin 8 = .ok (.invokevirtual 236, 3) := by decide +kernel
theorem dX12_begin_11 : decode cX12_begin 11 = .ok (.invokevirtual 110, 3) := by decide +kernel
theorem dX12_begin_14 : decode cX12_begin 14 = .ok (.ireturn, 1) := by decide +kernel
