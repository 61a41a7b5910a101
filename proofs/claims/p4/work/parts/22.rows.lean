theorem dX7_clear_0 : decode cX7_clear 0 = .ok (.aload_n 0, 1) := by decide +kernel
theorem dX7_clear_1 : decode cX7_clear 1 = .ok (.iconst 0, 1) := by decide +kernel
theorem dX7_clear_2 : decode cX7_clear 2 = .ok (.putfield 30, 3) := by decide +kernel
theorem dX7_clear_5 : decode cX7_clear 5 = .ok (.aload_n 0, 1) := by decide +kernel
theorem dX7_clear_6 : decode cX7_clear 6 = .ok (.iconst 0, 1) := by decide +kernel
theorem dX7_clear_7 : decode cX7_clear 7 = .ok (.putfield 34, 3) := by decide +kernel
theorem dX7_clear_10 : decode cX7_clear 10 = .ok (.aload_n 0, 1) := by decide +kernel
theorem dX7_clear_11 : decode cX7_clear 11 = .ok (.iconst 0, 1) := by decide +kernel
theorem dX7_clear_12 : decode cX7_clear 12 = .ok (.putfield 37, 3) := by decide +kernel
theorem dX7_clear_15 : decode cX7_clear 15 = .ok (.aload_n 0, 1) := by decide +kernel
theorem dX7_clear_16 : decode cX7_clear 16 = .ok (.iconst 0, 1) := by decide +kernel
theorem dX7_clear_17 : decode cX7_clear 17 = .ok (.putfield 40, 3) := by decide +kernel
theorem dX7_clear_20 : decode cX7_clear 20 = .ok (.return_, 1) := by decide +kernel
set_option maxHeartbeats 4000000 in
set_option maxRecDepth 100000 in
theorem k_X7_clear (l : Launch) (D : va_G) (cy : Nat → ClassId) (ld : Nat → Nat) (t : tk_T) (a0 : Nat) (ht_a0 : t a0 = (8, 512, 12)) : Met l yX7_clear (wl yX7_clear cX7_clear 1 none) ({ frames := 3, cells := 0, slots := 0, locals := 140 }) (tp D cy ld t [] [.ref a0] (fun H => True)) (tv D cy ld t [] (fun H => True) (tk_w t [(8, 12, 12)])) 0 0 (tk_w t [(8, 12, 12)]) := by
  refine tk_met (y := yX7_clear) (cc := cX7_clear) (maxL := 1) (ret := none) (av := [.ref a0]) _ _ (by decide) (Nat.le_of_ble_eq_true rfl) ?_
  intro p e s m args below meth c hx hb hr hml hts htl hown hlocks hK H locs hH hG hS hB hZ ls hl
  have hown : s.vm.findClass RX7 = some m.cls := hown
  have hl : lv_has ls 1 [(0, .ref a0)] := hl
  refine lv_aload_n hx hb dX7_clear_0 rfl (lv_at hl 0 rfl) ?_
  refine lv_iconst (v := 0) hx hb dX7_clear_1 (by decide) ?_
  have hk_0 : (0 : Int32).toInt = 0 := by decide
  refine tk_put (ci := 7) (v := .int 0) (ty := .int) (C := RX7) (T := TX7) (N := 10) (sp := (4, 0, 0, 0)) hx hb htl inX7 tyX7 tyX7_ok nmX7 hown hK hG hS ht_a0 (by decide) tk_no rfl 6 (by decide) (htl _ mw_487) (fun _ h9 => h9) rfl (tyX7_ok 6 (by decide)) rfl rfl rfl (tk_V4 (by omega) (by omega)) (fun _ h => h) (tk_w.of ht_a0 (by decide) (List.mem_of_getElem? (i := 0) rfl) (Nat.le_refl _) (Nat.le_refl _)) dX7_clear_2 (fun H locs hG hS hf1 hq9 hj9 => ?_)
  refine lv_aload_n hx hb dX7_clear_5 rfl (lv_at hl 0 rfl) ?_
  refine lv_iconst (v := 0) hx hb dX7_clear_6 (by decide) ?_
  have hk_0 : (0 : Int32).toInt = 0 := by decide
  refine tk_put (ci := 7) (v := .int 0) (ty := .int) (C := RX7) (T := TX7) (N := 10) (sp := (5, 0, 0, 0)) hx hb htl inX7 tyX7 tyX7_ok nmX7 hown hK hG hS ht_a0 (by decide) tk_no rfl 7 (by decide) (htl _ mw_488) (fun _ h9 => h9) rfl (tyX7_ok 7 (by decide)) rfl rfl rfl (tk_V5 (by omega) (by omega)) (fun _ h => h) (tk_w.of ht_a0 (by decide) (List.mem_of_getElem? (i := 0) rfl) (Nat.le_refl _) (Nat.le_refl _)) dX7_clear_7 (fun H locs hG hS hf3 hq9 hj9 => ?_)
  have hf1 := hj9 6 _ (by decide) (by decide) hf1
  refine lv_aload_n hx hb dX7_clear_10 rfl (lv_at hl 0 rfl) ?_
  refine lv_iconst (v := 0) hx hb dX7_clear_11 (by decide) ?_
  refine tk_put (ci := 7) (v := .int 0) (ty := .int) (C := RX7) (T := TX7) (N := 10) (sp := (0, (-2147483648), 2147483647, 0)) hx hb htl inX7 tyX7 tyX7_ok nmX7 hown hK hG hS ht_a0 (by decide) tk_no rfl 8 (by decide) (htl _ mw_489) (fun _ h9 => h9) rfl (tyX7_ok 8 (by decide)) rfl rfl rfl (tk_V0 (tk_rng _).1 (tk_rng _).2) (fun _ h => h) (tk_w.of ht_a0 (by decide) (List.mem_of_getElem? (i := 0) rfl) (Nat.le_refl _) (Nat.le_refl _)) dX7_clear_12 (fun H locs hG hS hf5 hq9 hj9 => ?_)
  have hf1 := hj9 6 _ (by decide) (by decide) hf1
  have hf3 := hj9 7 _ (by decide) (by decide) hf3
  refine lv_aload_n hx hb dX7_clear_15 rfl (lv_at hl 0 rfl) ?_
  refine lv_iconst (v := 0) hx hb dX7_clear_16 (by decide) ?_
  refine tk_put (ci := 7) (v := .int 0) (ty := .boolean) (C := RX7) (T := TX7) (N := 10) (sp := (0, 0, 1, 0)) hx hb htl inX7 tyX7 tyX7_ok nmX7 hown hK hG hS ht_a0 (by decide) tk_no rfl 9 (by decide) (htl _ mw_490) (fun _ h9 => h9) rfl (tyX7_ok 9 (by decide)) rfl rfl rfl (tk_V0 (by decide) (by decide)) (fun _ h => h) (tk_w.of ht_a0 (by decide) (List.mem_of_getElem? (i := 0) rfl) (Nat.le_refl _) (Nat.le_refl _)) dX7_clear_17 (fun H locs hG hS hf7 hq9 hj9 => ?_)
  have hf1 := hj9 6 _ (by decide) (by decide) hf1
  have hf3 := hj9 7 _ (by decide) (by decide) hf3
  exact tk_vret hx hb hr hlocks trivial hG hS dX7_clear_20
theorem dX6_read_0 : decode cX6_read 0 = .ok (.aload_n 0, 1) := by decide +kernel
theorem dX6_read_1 : decode cX6_read 1 = .ok (.getfield 16, 3) := by decide +kernel
theorem dX6_read_4 : decode cX6_read 4 = .ok (.invokevirtual 24, 3) := by decide +kernel
theorem dX6_read_7 : decode cX6_read 7 = .ok (.aload_n 0, 1) := by decide +kernel
theorem dX6_read_8 : decode cX6_read 8 = .ok (.iload_n 1, 1) := by decide +kernel
theorem dX6_read_9 : decode cX6_read 9 = .ok (.aload_n 0, 1) := by decide +kernel
theorem dX6_read_10 : decode cX6_read 10 = .ok (.getfield 20, 3) := by decide +kernel
theorem dX6_read_13 : decode cX6_read 13 = .ok (.arraylength, 1) := by decide +kernel
theorem dX6_read_14 : decode cX6_read 14 = .ok (.invokestatic 27, 3) := by decide +kernel
theorem dX6_read_17 : decode cX6_read 17 = .ok (.putfield 33, 3) := by decide +kernel
theorem dX6_read_20 : decode cX6_read 20 = .ok (.aload_n 0, 1) := by decide +kernel
theorem dX6_read_21 : decode cX6_read 21 = .ok (.iload_n 2, 1) := by decide +kernel
theorem dX6_read_22 : decode cX6_read 22 = .ok (.putfield 37, 3) := by decide +kernel
theorem dX6_read_25 : decode cX6_read 25 = .ok (.aload_n 0, 1) := by decide +kernel
theorem dX6_read_26 : decode cX6_read 26 = .ok (.iconst 0, 1) := by decide +kernel
theorem dX6_read_27 : decode cX6_read 27 = .ok (.putfield 41, 3) := by decide +kernel
theorem dX6_read_30 : decode cX6_read 30 = .ok (.aload_n 0, 1) := by decide +kernel
theorem dX6_read_31 : decode cX6_read 31 = .ok (.iconst 0, 1) := by decide +kernel
theorem dX6_read_32 : decode cX6_read 32 = .ok (.putfield 44, 3) := by decide +kernel
theorem dX6_read_35 : decode cX6_read 35 = .ok (.aload_n 0, 1) := by decide +kernel
theorem dX6_read_36 : decode cX6_read 36 = .ok (.iconst 0, 1) := by decide +kernel
theorem dX6_read_37 : decode cX6_read 37 = .ok (.putfield 47, 3) := by decide +kernel
theorem dX6_read_40 : decode cX6_read 40 = .ok (.aload_n 0, 1) := by decide +kernel
theorem dX6_read_41 : decode cX6_read 41 = .ok (.iconst (-1), 1) := by decide +kernel
theorem dX6_read_42 : decode cX6_read 42 = .ok (.putfield 50, 3) := by decide +kernel
theorem dX6_read_45 : decode cX6_read 45 = .ok (.aload_n 0, 1) := by decide +kernel
theorem dX6_read_46 : decode cX6_read 46 = .ok (.invokevirtual 53, 3) := by decide +kernel
theorem dX6_read_49 : decode cX6_read 49 = .ok (.iconst 0, 1) := by decide +kernel
theorem dX6_read_50 : decode cX6_read 50 = .ok (.istore_n 3, 1) := by decide +kernel
theorem dX6_read_51 : decode cX6_read 51 = .ok (.iload_n 3, 1) := by decide +kernel
theorem dX6_read_52 : decode cX6_read 52 = .ok (.bipush 12, 2) := by decide +kernel
theorem dX6_read_54 : decode cX6_read 54 = .ok (.if_icmp .gt 57, 3) := by decide +kernel
theorem dX6_read_57 : decode cX6_read 57 = .ok (.aload_n 0, 1) := by decide +kernel
theorem dX6_read_58 : decode cX6_read 58 = .ok (.invokevirtual 56, 3) := by decide +kernel
theorem dX6_read_111 : decode cX6_read 111 = .ok (.aload_n 0, 1) := by decide +kernel
theorem dX6_read_112 : decode cX6_read 112 = .ok (.getfield 50, 3) := by decide +kernel
theorem dX6_read_115 : decode cX6_read 115 = .ok (.ireturn, 1) := by decide +kernel
theorem dX6_read_61 : decode cX6_read 61 = .ok (.ifCond .eq 50, 3) := by decide +kernel
theorem dX6_read_64 : decode cX6_read 64 = .ok (.iload_n 3, 1) := by decide +kernel
theorem dX6_read_65 : decode cX6_read 65 = .ok (.bipush 12, 2) := by decide +kernel
theorem dX6_read_67 : decode cX6_read 67 = .ok (.if_icmp .ne 10, 3) := by decide +kernel
theorem dX6_read_77 : decode cX6_read 77 = .ok (.aload_n 0, 1) := by decide +kernel
theorem dX6_read_78 : decode cX6_read 78 = .ok (.iload_n 3, 1) := by decide +kernel
theorem dX6_read_79 : decode cX6_read 79 = .ok (.invokevirtual 63, 3) := by decide +kernel
theorem dX6_read_82 : decode cX6_read 82 = .ok (.aload_n 0, 1) := by decide +kernel
theorem dX6_read_83 : decode cX6_read 83 = .ok (.invokevirtual 56, 3) := by decide +kernel
theorem dX6_read_86 : decode cX6_read 86 = .ok (.ifCond .eq 13, 3) := by decide +kernel
theorem dX6_read_99 : decode cX6_read 99 = .ok (.aload_n 0, 1) := by decide +kernel
theorem dX6_read_100 : decode cX6_read 100 = .ok (.bipush 59, 2) := by decide +kernel
theorem dX6_read_102 : decode cX6_read 102 = .ok (.invokevirtual 70, 3) := by decide +kernel
theorem dX6_read_105 : decode cX6_read 105 = .ok (.iinc 3 1, 3) := by decide +kernel
theorem dX6_read_108 : decode cX6_read 108 = .ok (.goto (-57), 3) := by decide +kernel
theorem dX6_read_89 : decode cX6_read 89 = .ok (.aload_n 0, 1) := by decide +kernel
theorem dX6_read_90 : decode cX6_read 90 = .ok (.getfield 67, 3) := by decide +kernel
theorem dX6_read_93 : decode cX6_read 93 = .ok (.ifCond .ne 6, 3) := by decide +kernel
theorem dX6_read_96 : decode cX6_read 96 = .ok (.goto 15, 3) := by decide +kernel
theorem dX6_read_70 : decode cX6_read 70 = .ok (.aload_n 0, 1) := by decide +kernel
theorem dX6_read_71 : decode cX6_read 71 = .ok (.invokevirtual 60, 3) := by decide +kernel
theorem dX6_read_74 : decode cX6_read 74 = .ok (.goto 37, 3) := by decide +kernel
set_option maxHeartbeats 4000000 in
set_option maxRecDepth 100000 in
theorem k_X6_read (l : Launch) (D : va_G) (cy : Nat → ClassId) (ld : Nat → Nat) (t : tk_T) (a0 : Nat) (p1 : Int32) (p2 : Int32) (ht_a0 : t a0 = (7, 0, 0)) (hp_0 : 0 ≤ p1.toInt) (hp_1 : p1.toInt ≤ 400) (hp_2 : 0 ≤ p2.toInt) (hp_3 : p2.toInt ≤ 1) : Met l yX6_read (wl yX6_read cX6_read 4 (some .int)) ({ frames := 40, cells := 0, slots := 0, locals := 2730 }) (tp D cy ld t [] [.ref a0, .int p1, .int p2] (fun H => True)) (ti D cy ld t [] (fun r H => True) (tk_w t [(8, 12, 12), (7, 0, 0), (20, 0, 0), (23, 0, 0)])) 0 0 (tk_w t [(8, 12, 12), (7, 0, 0), (20, 0, 0), (23, 0, 0)]) := by
  refine tk_met (y := yX6_read) (cc := cX6_read) (maxL := 4) (ret := (some .int)) (av := [.ref a0, .int p1, .int p2]) _ _ (by decide) (Nat.le_of_ble_eq_true rfl) ?_
  intro p e s m args below meth c hx hb hr hml hts htl hown hlocks hK H locs hH hG hS hB hZ ls hl
  have hown : s.vm.findClass RX6 = some m.cls := hown
  have hl : lv_has ls 4 [(0, .ref a0), (1, .int p1), (2, .int p2)] := hl
  have hr_p1 := tk_rng p1
  have hr_p2 := tk_rng p2
  refine lv_aload_n hx hb dX6_read_0 rfl (lv_at hl 0 rfl) ?_
  refine tk_get (ci := 6) (C := RX6) (T := TX6) (N := 11) (sp := (6, 8, 512, 12)) hx hb htl inX6 hown hK hG ht_a0 (by decide) tk_no rfl 0 (by decide) (htl _ mw_132) (fun _ h9 => h9) rfl dX6_read_1 (fun v9 hf1 hV9 => ?_)
  obtain ⟨b2, rfl, ht_b2⟩ := hV9
  have ht_b2 : t b2 = (8, 512, 12) := ht_b2
  refine tk_Vv (As := []) (rest := []) (ci := 7) ⟨hx, hb, hml, hown, hts⟩ hK hG hZ hS (k_X7_clear l D cy ld t b2 ht_b2) trivial ⟨callB_of 0 hts (wl_in mw_486) rfl rfl rfl (htl _ mw_131) (htl _ mw_483) hd_yX7_clear ⟨(Nat.le_of_ble_eq_true rfl), (Nat.le_of_ble_eq_true rfl)⟩, htl _ mw_484, htl _ mw_485⟩ ht_b2 (by decide) tk_no rfl (tk_w.pick [0] rfl) rfl hl.1 rfl (Nat.le_of_ble_eq_true rfl) dX6_read_4 ⟨(Nat.le_of_ble_eq_true rfl), (Nat.le_of_ble_eq_true rfl)⟩ (fun H locs hpo hG hS hq9 => ?_)
  refine lv_aload_n hx hb dX6_read_7 rfl (lv_at hl 0 rfl) ?_
  refine lv_iload_n hx hb dX6_read_8 rfl (lv_at hl 1 rfl) ?_
  refine lv_aload_n hx hb dX6_read_9 rfl (lv_at hl 0 rfl) ?_
  refine tk_get (ci := 6) (C := RX6) (T := TX6) (N := 11) (sp := (6, 20, 400, 9)) hx hb htl inX6 hown hK hG ht_a0 (by decide) tk_no rfl 1 (by decide) (htl _ mw_133) (fun _ h9 => h9) rfl dX6_read_10 (fun v9 hf4 hV9 => ?_)
  obtain ⟨b5, rfl, ht_b5⟩ := hV9
  have ht_b5 : t b5 = (20, 400, 9) := ht_b5
  refine tk_alen hx hb hK hG 0 rfl ht_b5 (by decide) (fun _ h => by obtain ⟨f, h, _⟩ := h; exact ⟨_, h⟩) tk_no (by decide) dX6_read_13 (fun z hz => ?_)
  obtain rfl : z = 400 := (fi_eq hz (by decide)).mpr rfl
  refine va_mmin hx hb (by rw [hml]; exact hl.1.symm) hown (htl _ mw_472) (htl _ mw_473) (htl _ mw_474) (htl _ mw_475) (Nat.le_of_ble_eq_true rfl) (Nat.le_of_ble_eq_true rfl) (Nat.le_of_ble_eq_true rfl) (Nat.le_of_ble_eq_true rfl) dX6_read_14 ?_
  refine tk_say (P := fun z => z.toInt ≤ p1.toInt ∧ z.toInt ≤ 400 ∧ (z.toInt = p1.toInt ∨ z.toInt = 400)) (tk_min rfl (show (400 : Int32).toInt = 400 by decide)) (fun v6 h_v6 => ?_)
  refine tk_put (ci := 6) (v := .int v6) (ty := .int) (C := RX6) (T := TX6) (N := 11) (sp := (0, 0, 400, 0)) hx hb htl inX6 tyX6 tyX6_ok nmX6 hown hK hG hS ht_a0 (by decide) tk_no rfl 2 (by decide) (htl _ mw_476) (fun _ h9 => h9) rfl (tyX6_ok 2 (by decide)) rfl rfl rfl (tk_V0 (by omega) (by omega)) (fun _ h => tk_X7 h (by decide) (by decide)) (tk_w.of ht_a0 (by decide) (List.mem_of_getElem? (i := 1) rfl) (Nat.le_refl _) (Nat.le_refl _)) dX6_read_17 (fun H locs hG hS hf7 hq9 hj9 => ?_)
  refine lv_aload_n hx hb dX6_read_20 rfl (lv_at hl 0 rfl) ?_
  refine lv_iload_n hx hb dX6_read_21 rfl (lv_at hl 2 rfl) ?_
  refine tk_put (ci := 6) (v := .int p2) (ty := .boolean) (C := RX6) (T := TX6) (N := 11) (sp := (0, 0, 1, 0)) hx hb htl inX6 tyX6 tyX6_ok nmX6 hown hK hG hS ht_a0 (by decide) tk_no rfl 3 (by decide) (htl _ mw_477) (fun _ h9 => h9) rfl (tyX6_ok 3 (by decide)) (tk_nz (by omega) (by omega)) (tk_fz (by omega) (by omega)) rfl (tk_V0 (by omega) (by omega)) (fun _ h => tk_X7 h (by decide) (by decide)) (tk_w.of ht_a0 (by decide) (List.mem_of_getElem? (i := 1) rfl) (Nat.le_refl _) (Nat.le_refl _)) dX6_read_22 (fun H locs hG hS hf9 hq9 hj9 => ?_)
  have hf7 := hj9 2 _ (by decide) (by decide) hf7
  refine lv_aload_n hx hb dX6_read_25 rfl (lv_at hl 0 rfl) ?_
  refine lv_iconst (v := 0) hx hb dX6_read_26 (by decide) ?_
  refine tk_put (ci := 6) (v := .int 0) (ty := .int) (C := RX6) (T := TX6) (N := 11) (sp := (0, 0, 400, 0)) hx hb htl inX6 tyX6 tyX6_ok nmX6 hown hK hG hS ht_a0 (by decide) tk_no rfl 5 (by decide) (htl _ mw_478) (fun _ h9 => h9) rfl (tyX6_ok 5 (by decide)) rfl rfl rfl (tk_V0 (by decide) (by decide)) (fun _ h => tk_X7 h (by decide) (by decide)) (tk_w.of ht_a0 (by decide) (List.mem_of_getElem? (i := 1) rfl) (Nat.le_refl _) (Nat.le_refl _)) dX6_read_27 (fun H locs hG hS hf11 hq9 hj9 => ?_)
  have hf7 := hj9 2 _ (by decide) (by decide) hf7
  refine lv_aload_n hx hb dX6_read_30 rfl (lv_at hl 0 rfl) ?_
  refine lv_iconst (v := 0) hx hb dX6_read_31 (by decide) ?_
  refine tk_put (ci := 6) (v := .int 0) (ty := .int) (C := RX6) (T := TX6) (N := 11) (sp := (0, (-2147483648), 2147483647, 0)) hx hb htl inX6 tyX6 tyX6_ok nmX6 hown hK hG hS ht_a0 (by decide) tk_no rfl 8 (by decide) (htl _ mw_479) (fun _ h9 => h9) rfl (tyX6_ok 8 (by decide)) rfl rfl rfl (tk_V0 (tk_rng _).1 (tk_rng _).2) (fun _ h => tk_X7 h (by decide) (by decide)) (tk_w.of ht_a0 (by decide) (List.mem_of_getElem? (i := 1) rfl) (Nat.le_refl _) (Nat.le_refl _)) dX6_read_32 (fun H locs hG hS hf13 hq9 hj9 => ?_)
  have hf7 := hj9 2 _ (by decide) (by decide) hf7
  have hf11 := hj9 5 _ (by decide) (by decide) hf11
  refine lv_aload_n hx hb dX6_read_35 rfl (lv_at hl 0 rfl) ?_
  refine lv_iconst (v := 0) hx hb dX6_read_36 (by decide) ?_
  refine tk_put (ci := 6) (v := .int 0) (ty := .int) (C := RX6) (T := TX6) (N := 11) (sp := (0, 0, 8, 0)) hx hb htl inX6 tyX6 tyX6_ok nmX6 hown hK hG hS ht_a0 (by decide) tk_no rfl 9 (by decide) (htl _ mw_480) (fun _ h9 => h9) rfl (tyX6_ok 9 (by decide)) rfl rfl rfl (tk_V0 (by decide) (by decide)) (fun _ h => tk_X7 h (by decide) (by decide)) (tk_w.of ht_a0 (by decide) (List.mem_of_getElem? (i := 1) rfl) (Nat.le_refl _) (Nat.le_refl _)) dX6_read_37 (fun H locs hG hS hf15 hq9 hj9 => ?_)
  have hf7 := hj9 2 _ (by decide) (by decide) hf7
  have hf11 := hj9 5 _ (by decide) (by decide) hf11
  refine lv_aload_n hx hb dX6_read_40 rfl (lv_at hl 0 rfl) ?_
  refine lv_iconst (v := (-1)) hx hb dX6_read_41 (by decide) ?_
  refine tk_put (ci := 6) (v := .int (-1)) (ty := .int) (C := RX6) (T := TX6) (N := 11) (sp := (0, (-2147483648), 2147483647, 0)) hx hb htl inX6 tyX6 tyX6_ok nmX6 hown hK hG hS ht_a0 (by decide) tk_no rfl 10 (by decide) (htl _ mw_481) (fun _ h9 => h9) rfl (tyX6_ok 10 (by decide)) rfl rfl rfl (tk_V0 (tk_rng _).1 (tk_rng _).2) (fun _ h => tk_X7 h (by decide) (by decide)) (tk_w.of ht_a0 (by decide) (List.mem_of_getElem? (i := 1) rfl) (Nat.le_refl _) (Nat.le_refl _)) dX6_read_42 (fun H locs hG hS hf17 hq9 hj9 => ?_)
  have hf7 := hj9 2 _ (by decide) (by decide) hf7
  have hf11 := hj9 5 _ (by decide) (by decide) hf11
  have hf15 := hj9 9 _ (by decide) (by decide) hf15
  refine lv_aload_n hx hb dX6_read_45 rfl (lv_at hl 0 rfl) ?_
  have hk_0 : (0 : Int32).toInt = 0 := by decide
  refine tk_Vv (As := []) (rest := []) (ci := 6) ⟨hx, hb, hml, hown, hts⟩ hK hG hZ hS (k_X6_step l D cy ld t a0 0 ht_a0 (by omega) (by omega)) hf15 ⟨callB_of 0 hts (wl_in mw_494) rfl rfl rfl (htl _ mw_36) (htl _ mw_491) hd_yX6_step ⟨(Nat.le_of_ble_eq_true rfl), (Nat.le_of_ble_eq_true rfl)⟩, htl _ mw_492, htl _ mw_493⟩ ht_a0 (by decide) tk_no rfl (tk_w.pick [1] rfl) rfl hl.1 rfl (Nat.le_of_ble_eq_true rfl) dX6_read_46 ⟨(Nat.le_of_ble_eq_true rfl), (Nat.le_of_ble_eq_true rfl)⟩ (fun H locs hpo hG hS hq9 => ?_)
  have hf20 := hpo
  refine lv_iconst (v := 0) hx hb dX6_read_49 (by decide) ?_
  refine lv_istore_n (lv' := [(3, .int 0), (0, .ref a0), (1, .int p1), (2, .int p2)]) hx hb dX6_read_50 rfl hl (by decide) rfl (fun ls hl => ?_)
  have hl419 : ∀ (N_l419 : Nat) (v21 : Int32) (H : Heap) (locs : List Loc), v21.toInt ≤ 12 → 0 ≤ v21.toInt → (-1) * v21.toInt + 12 < (N_l419 : Int) → tk_G D cy ld t [] H → va_S (tk_w t [(8, 12, 12), (7, 0, 0), (20, 0, 0), (23, 0, 0)]) s.heap H locs → tk_f D H a0 6 9 (.int 0) → ∀ ls : Array Slot, lv_has ls 4 [(3, .int v21), (0, .ref a0)] → W p l e ({ frames := 40, cells := 0, slots := 0, locals := 2730 }) s m args below meth c H locs 0 0 (MQ below (ti D cy ld t [] (fun r H => True) (tk_w t [(8, 12, 12), (7, 0, 0), (20, 0, 0), (23, 0, 0)])) args s 0 0 (tk_w t [(8, 12, 12), (7, 0, 0), (20, 0, 0), (23, 0, 0)])) (F0 m 51 ls []) := by
    intro N_l419
    induction N_l419 with
    | zero => intro v21 H locs hq0_l419 hq1_l419 hm_l419 hG hS hf20 ls hl; exfalso; omega
    | succ N_l419 ih_l419 =>
      intro v21 H locs hq0_l419 hq1_l419 hm_l419 hG hS hf20 ls hl
      refine lv_iload_n hx hb dX6_read_51 rfl (lv_at hl 0 rfl) ?_
      refine lv_bipush (v := 12) hx hb dX6_read_52 (by decide) ?_
      refine lv_icmp_gt (tgt := 111) hx hb dX6_read_54 (by decide) (fun c9 => absurd (show 12 < v21.toInt from (fi_lt (show (12 : Int32).toInt = 12 by decide) rfl).mp c9) (by omega)) (fun _ => ?_)
      refine lv_aload_n hx hb dX6_read_57 rfl (lv_at hl 1 rfl) ?_
      refine tk_Vi (As := []) (rest := []) (ci := 6) ⟨hx, hb, hml, hown, hts⟩ hK hG hZ hS (k_X6_isGood l D cy ld t a0 ht_a0) trivial ⟨callB_of 0 hts (wl_in mw_503) rfl rfl rfl (htl _ mw_36) (htl _ mw_500) hd_yX6_isGood ⟨(Nat.le_of_ble_eq_true rfl), (Nat.le_of_ble_eq_true rfl)⟩, htl _ mw_501, htl _ mw_502⟩ ht_a0 (by decide) tk_no rfl (tk_w.pick [] rfl) rfl hl.1 rfl (Nat.le_of_ble_eq_true rfl) dX6_read_58 ⟨(Nat.le_of_ble_eq_true rfl), (Nat.le_of_ble_eq_true rfl)⟩ (fun v420 H locs hpo hG hS hq9 => ?_)
      have hf20 := hf20.call hq9 tk_w.nil
      obtain ⟨hpo422, hpo423, hpo424, hpo425⟩ := hpo
      have hj450 : ∀ (H : Heap) (locs : List Loc), tk_G D cy ld t [] H → va_S (tk_w t [(8, 12, 12), (7, 0, 0), (20, 0, 0), (23, 0, 0)]) s.heap H locs → tk_f D H a0 6 9 (.int 0) → ∀ ls : Array Slot, lv_has ls 4 [(0, .ref a0)] → W p l e ({ frames := 40, cells := 0, slots := 0, locals := 2730 }) s m args below meth c H locs 0 0 (MQ below (ti D cy ld t [] (fun r H => True) (tk_w t [(8, 12, 12), (7, 0, 0), (20, 0, 0), (23, 0, 0)])) args s 0 0 (tk_w t [(8, 12, 12), (7, 0, 0), (20, 0, 0), (23, 0, 0)])) (F0 m 111 ls []) := by
        intro H locs hG hS hf20 ls hl
        refine lv_aload_n hx hb dX6_read_111 rfl (lv_at hl 0 rfl) ?_
        refine tk_get (ci := 6) (C := RX6) (T := TX6) (N := 11) (sp := (0, (-2147483648), 2147483647, 0)) hx hb htl inX6 hown hK hG ht_a0 (by decide) tk_no rfl 10 (by decide) (htl _ mw_481) (fun _ h9 => h9) rfl dX6_read_112 (fun v9 hf451 hV9 => ?_)
        obtain ⟨v452, rfl, (ha_v452 : (-2147483648) ≤ v452.toInt), (hb_v452 : v452.toInt ≤ 2147483647)⟩ := hV9
        exact tk_iret (v := v452) hx hb hr rfl hlocks trivial hG hS dX6_read_115
      refine lv_if_eq (tgt := 111) hx hb dX6_read_61 (by decide) (fun c9 => ?_) (fun c9 => ?_)
      · have hc426 : v420.toInt = 0 := (fi_eq rfl (show (0 : Int32).toInt = 0 by decide)).mp c9
        exact hj450 _ _ hG hS hf20 _ (lv_sub hl [1] rfl)
      · have hc426 : ¬ (v420.toInt = 0) := fun h9 => c9 ((fi_eq rfl (show (0 : Int32).toInt = 0 by decide)).mpr h9)
        refine lv_iload_n hx hb dX6_read_64 rfl (lv_at hl 0 rfl) ?_
        refine lv_bipush (v := 12) hx hb dX6_read_65 (by decide) ?_
        refine lv_icmp_ne (tgt := 77) hx hb dX6_read_67 (by decide) (fun c9 => ?_) (fun c9 => ?_)
        · have hc453 : ¬ (v21.toInt = 12) := fun h9 => c9 ((fi_eq rfl (show (12 : Int32).toInt = 12 by decide)).mpr h9)
          refine lv_aload_n hx hb dX6_read_77 rfl (lv_at hl 1 rfl) ?_
          refine lv_iload_n hx hb dX6_read_78 rfl (lv_at hl 0 rfl) ?_
          refine tk_Vv (As := [.int v21]) (rest := []) (ci := 6) ⟨hx, hb, hml, hown, hts⟩ hK hG hZ hS (k_X6_readClause_0 l D cy ld t a0 v21 ht_a0 (by omega) (by omega)) hf20 ⟨callB_of 1 hts (wl_in mw_511) rfl rfl rfl (htl _ mw_36) (htl _ mw_508) hd_yX6_readClause ⟨(Nat.le_of_ble_eq_true rfl), (Nat.le_of_ble_eq_true rfl)⟩, htl _ mw_509, htl _ mw_510⟩ ht_a0 (by decide) tk_no rfl (tk_w.pick [2, 0, 3, 1] rfl) rfl hl.1 rfl (Nat.le_of_ble_eq_true rfl) dX6_read_79 ⟨(Nat.le_of_ble_eq_true rfl), (Nat.le_of_ble_eq_true rfl)⟩ (fun H locs hpo hG hS hq9 => ?_)
          have hf455 := hpo
          refine lv_aload_n hx hb dX6_read_82 rfl (lv_at hl 1 rfl) ?_
          refine tk_Vi (As := []) (rest := []) (ci := 6) ⟨hx, hb, hml, hown, hts⟩ hK hG hZ hS (k_X6_isGood l D cy ld t a0 ht_a0) trivial ⟨callB_of 0 hts (wl_in mw_503) rfl rfl rfl (htl _ mw_36) (htl _ mw_500) hd_yX6_isGood ⟨(Nat.le_of_ble_eq_true rfl), (Nat.le_of_ble_eq_true rfl)⟩, htl _ mw_501, htl _ mw_502⟩ ht_a0 (by decide) tk_no rfl (tk_w.pick [] rfl) rfl hl.1 rfl (Nat.le_of_ble_eq_true rfl) dX6_read_83 ⟨(Nat.le_of_ble_eq_true rfl), (Nat.le_of_ble_eq_true rfl)⟩ (fun v456 H locs hpo hG hS hq9 => ?_)
          have hf455 := hf455.call hq9 tk_w.nil
          obtain ⟨hpo458, hpo459, hpo460, hpo461⟩ := hpo
          refine lv_if_eq (tgt := 99) hx hb dX6_read_86 (by decide) (fun c9 => ?_) (fun c9 => ?_)
          · have hc462 : v456.toInt = 0 := (fi_eq rfl (show (0 : Int32).toInt = 0 by decide)).mp c9
            refine lv_aload_n hx hb dX6_read_99 rfl (lv_at hl 1 rfl) ?_
            refine lv_bipush (v := 59) hx hb dX6_read_100 (by decide) ?_
            have hk_59 : (59 : Int32).toInt = 59 := by decide
            have hk_0 : (0 : Int32).toInt = 0 := by decide
            refine tk_Vv (As := [.int 59]) (rest := []) (ci := 6) ⟨hx, hb, hml, hown, hts⟩ hK hG hZ hS (k_X6_take l D cy ld t a0 59 0 ht_a0 (by omega) (by omega)) hf455 ⟨callB_of 1 hts (wl_in mw_603) rfl rfl rfl (htl _ mw_36) (htl _ mw_600) hd_yX6_take ⟨(Nat.le_of_ble_eq_true rfl), (Nat.le_of_ble_eq_true rfl)⟩, htl _ mw_601, htl _ mw_602⟩ ht_a0 (by decide) tk_no rfl (tk_w.pick [1] rfl) rfl hl.1 rfl (Nat.le_of_ble_eq_true rfl) dX6_read_102 ⟨(Nat.le_of_ble_eq_true rfl), (Nat.le_of_ble_eq_true rfl)⟩ (fun H locs hpo hG hS hq9 => ?_)
            have hf464 := hpo
            obtain ⟨v465, h_v465, e_v465⟩ := tk_inc v21 1 (by decide) (by omega) (by omega)
            refine lv_iinc (v := v465) (lv' := [(3, .int v465), (0, .ref a0)]) hx hb dX6_read_105 hl (k := 0) rfl e_v465 (by decide) rfl (fun ls hl => ?_)
            refine lv_goto (tgt := 51) hx hb dX6_read_108 (by decide) ?_
            exact ih_l419 v465 _ _ (by omega) (by omega) (by omega) hG hS hf464 _ (lv_sub hl [0, 1] rfl)
          · have hc462 : ¬ (v456.toInt = 0) := fun h9 => c9 ((fi_eq rfl (show (0 : Int32).toInt = 0 by decide)).mpr h9)
            refine lv_aload_n hx hb dX6_read_89 rfl (lv_at hl 1 rfl) ?_
            refine tk_get (ci := 6) (C := RX6) (T := TX6) (N := 11) (sp := (0, (-2147483648), 2147483647, 0)) hx hb htl inX6 hown hK hG ht_a0 (by decide) tk_no rfl 6 (by decide) (htl _ mw_482) (fun _ h9 => h9) rfl dX6_read_90 (fun v9 hf466 hV9 => ?_)
            obtain ⟨v467, rfl, (ha_v467 : (-2147483648) ≤ v467.toInt), (hb_v467 : v467.toInt ≤ 2147483647)⟩ := hV9
            refine lv_if_ne (tgt := 99) hx hb dX6_read_93 (by decide) (fun c9 => ?_) (fun c9 => ?_)
            · have hc468 : ¬ (v467.toInt = 0) := fun h9 => c9 ((fi_eq rfl (show (0 : Int32).toInt = 0 by decide)).mpr h9)
              refine lv_aload_n hx hb dX6_read_99 rfl (lv_at hl 1 rfl) ?_
              refine lv_bipush (v := 59) hx hb dX6_read_100 (by decide) ?_
              have hk_59 : (59 : Int32).toInt = 59 := by decide
              have hk_0 : (0 : Int32).toInt = 0 := by decide
              refine tk_Vv (As := [.int 59]) (rest := []) (ci := 6) ⟨hx, hb, hml, hown, hts⟩ hK hG hZ hS (k_X6_take l D cy ld t a0 59 0 ht_a0 (by omega) (by omega)) hf455 ⟨callB_of 1 hts (wl_in mw_603) rfl rfl rfl (htl _ mw_36) (htl _ mw_600) hd_yX6_take ⟨(Nat.le_of_ble_eq_true rfl), (Nat.le_of_ble_eq_true rfl)⟩, htl _ mw_601, htl _ mw_602⟩ ht_a0 (by decide) tk_no rfl (tk_w.pick [1] rfl) rfl hl.1 rfl (Nat.le_of_ble_eq_true rfl) dX6_read_102 ⟨(Nat.le_of_ble_eq_true rfl), (Nat.le_of_ble_eq_true rfl)⟩ (fun H locs hpo hG hS hq9 => ?_)
              have hf470 := hpo
              obtain ⟨v471, h_v471, e_v471⟩ := tk_inc v21 1 (by decide) (by omega) (by omega)
              refine lv_iinc (v := v471) (lv' := [(3, .int v471), (0, .ref a0)]) hx hb dX6_read_105 hl (k := 0) rfl e_v471 (by decide) rfl (fun ls hl => ?_)
              refine lv_goto (tgt := 51) hx hb dX6_read_108 (by decide) ?_
              exact ih_l419 v471 _ _ (by omega) (by omega) (by omega) hG hS hf470 _ (lv_sub hl [0, 1] rfl)
            · have hc468 : v467.toInt = 0 := (fi_eq rfl (show (0 : Int32).toInt = 0 by decide)).mp c9
              refine lv_goto (tgt := 111) hx hb dX6_read_96 (by decide) ?_
              exact hj450 _ _ hG hS hf455 _ (lv_sub hl [1] rfl)
        · have hc453 : v21.toInt = 12 := (fi_eq rfl (show (12 : Int32).toInt = 12 by decide)).mp c9
          refine lv_aload_n hx hb dX6_read_70 rfl (lv_at hl 1 rfl) ?_
          have hk_0 : (0 : Int32).toInt = 0 := by decide
          refine tk_Vv (As := []) (rest := []) (ci := 6) ⟨hx, hb, hml, hown, hts⟩ hK hG hZ hS (k_X6_fail l D cy ld t a0 0 ht_a0 (by omega) (by omega)) hf20 ⟨callB_of 0 hts (wl_in mw_507) rfl rfl rfl (htl _ mw_36) (htl _ mw_504) hd_yX6_fail ⟨(Nat.le_of_ble_eq_true rfl), (Nat.le_of_ble_eq_true rfl)⟩, htl _ mw_505, htl _ mw_506⟩ ht_a0 (by decide) tk_no rfl (tk_w.pick [1] rfl) rfl hl.1 rfl (Nat.le_of_ble_eq_true rfl) dX6_read_71 ⟨(Nat.le_of_ble_eq_true rfl), (Nat.le_of_ble_eq_true rfl)⟩ (fun H locs hpo hG hS hq9 => ?_)
          have hf473 := hpo
          refine lv_goto (tgt := 111) hx hb dX6_read_74 (by decide) ?_
          exact hj450 _ _ hG hS hf473 _ (lv_sub hl [1] rfl)
  have hk_0 : (0 : Int32).toInt = 0 := by decide
  exact hl419 13 0 _ _ (by omega) (by omega) (by omega) hG hS hf20 _ (lv_sub hl [0, 1] rfl)
theorem dX8_howTires_0 : decode cX8_howTires 0 = .ok (.aload_n 0, 1) := by decide +kernel
theorem dX8_howTires_1 : decode cX8_howTires 1 = .ok (.aload_n 1, 1) := by decide +kernel
theorem dX8_howTires_2 : decode cX8_howTires 2 = .ok (.iload_n 2, 1) := by decide +kernel
theorem dX8_howTires_3 : decode cX8_howTires 3 = .ok (.invokevirtual 22, 3) := by decide +kernel
theorem dX8_howTires_6 : decode cX8_howTires 6 = .ok (.aload_n 0, 1) := by decide +kernel
theorem dX8_howTires_7 : decode cX8_howTires 7 = .ok (.invokevirtual 30, 3) := by decide +kernel
theorem dX8_howTires_10 : decode cX8_howTires 10 = .ok (.ireturn, 1) := by decide +kernel
set_option maxHeartbeats 4000000 in
set_option maxRecDepth 100000 in
theorem k_X8_howTires (l : Launch) (D : va_G) (cy : Nat → ClassId) (ld : Nat → Nat) (t : tk_T) (rg1 : Nat) (a0 : Nat) (a1 : Nat) (p2 : Int32) (g0 : Int32) (ht_a0 : t a0 = (9, 0, 0)) (ht_a1 : t a1 = (10, 0, rg1)) (hp_0 : 0 ≤ p2.toInt) (hp_1 : p2.toInt ≤ 9) (hp_2 : 0 ≤ g0.toInt) (hp_3 : g0.toInt ≤ 7) : Met l yX8_howTires (wl yX8_howTires cX8_howTires 3 (some .int)) ({ frames := 6, cells := 0, slots := 0, locals := 350 }) (tp D cy ld t [] [.ref a0, .ref a1, .int p2] (fun H => tk_f D H a1 9 5 (.int g0))) (ti D cy ld t [] (fun r H => True) (tk_w t [(20, 0, 0), (12, 0, 0), (9, 0, 0)])) 0 0 (tk_w t [(20, 0, 0), (12, 0, 0), (9, 0, 0)]) := by
  refine tk_met (y := yX8_howTires) (cc := cX8_howTires) (maxL := 3) (ret := (some .int)) (av := [.ref a0, .ref a1, .int p2]) _ _ (by decide) (Nat.le_of_ble_eq_true rfl) ?_
  intro p e s m args below meth c hx hb hr hml hts htl hown hlocks hK H locs hH hG hS hB hZ ls hl
  have hown : s.vm.findClass RX8 = some m.cls := hown
  have hl : lv_has ls 3 [(0, .ref a0), (1, .ref a1), (2, .int p2)] := hl
  have hg_0 := hB
  have hr_p2 := tk_rng p2
  refine lv_aload_n hx hb dX8_howTires_0 rfl (lv_at hl 0 rfl) ?_
  refine lv_aload_n hx hb dX8_howTires_1 rfl (lv_at hl 1 rfl) ?_
  refine lv_iload_n hx hb dX8_howTires_2 rfl (lv_at hl 2 rfl) ?_
  refine tk_Vv (As := [.ref a1, .int p2]) (rest := []) (ci := 8) ⟨hx, hb, hml, hown, hts⟩ hK hG hZ hS (k_X8_setWords l D cy ld t rg1 a0 a1 p2 g0 ht_a0 ht_a1 (by omega) (by omega) (by omega) (by omega)) hg_0 ⟨callB_of 2 hts (wl_in mw_913) rfl rfl rfl (htl _ mw_21) (htl _ mw_910) hd_yX8_setWords ⟨(Nat.le_of_ble_eq_true rfl), (Nat.le_of_ble_eq_true rfl)⟩, htl _ mw_911, htl _ mw_912⟩ ht_a0 (by decide) tk_no rfl (tk_w.pick [0] rfl) rfl hl.1 rfl (Nat.le_of_ble_eq_true rfl) dX8_howTires_3 ⟨(Nat.le_of_ble_eq_true rfl), (Nat.le_of_ble_eq_true rfl)⟩ (fun H locs hpo hG hS hq9 => ?_)
  have hg_0 := hg_0.call hq9 (tk_w.no ht_a1 (by intro q hq h1 h2 h3; simp only [List.mem_cons, List.not_mem_nil, or_false] at hq; rcases hq with rfl <;> (dsimp only at h1 h2 h3; omega)))
  refine lv_aload_n hx hb dX8_howTires_6 rfl (lv_at hl 0 rfl) ?_
  refine tk_Vi (As := []) (rest := []) (ci := 8) ⟨hx, hb, hml, hown, hts⟩ hK hG hZ hS (k_X8_tireByWords l D cy ld t a0 ht_a0) trivial ⟨callB_of 0 hts (wl_in mw_965) rfl rfl rfl (htl _ mw_21) (htl _ mw_962) hd_yX8_tireByWords ⟨(Nat.le_of_ble_eq_true rfl), (Nat.le_of_ble_eq_true rfl)⟩, htl _ mw_963, htl _ mw_964⟩ ht_a0 (by decide) tk_no rfl (tk_w.pick [1, 0, 2] rfl) rfl hl.1 rfl (Nat.le_of_ble_eq_true rfl) dX8_howTires_7 ⟨(Nat.le_of_ble_eq_true rfl), (Nat.le_of_ble_eq_true rfl)⟩ (fun v2 H locs hpo hG hS hq9 => ?_)
  have hg_0 := hg_0.call hq9 (tk_w.no ht_a1 (by intro q hq h1 h2 h3; simp only [List.mem_cons, List.not_mem_nil, or_false] at hq; rcases hq with rfl | rfl | rfl <;> (dsimp only at h1 h2 h3; omega)))
  exact tk_iret (v := v2) hx hb hr rfl hlocks trivial hG hS dX8_howTires_10
theorem dX8_setStranger_0 : decode cX8_setStranger 0 = .ok (.aload_n 0, 1) := by decide +kernel
theorem dX8_setStranger_1 : decode cX8_setStranger 1 = .ok (.iload_n 1, 1) := by decide +kernel
theorem dX8_setStranger_2 : decode cX8_setStranger 2 = .ok (.iload_n 2, 1) := by decide +kernel
theorem dX8_setStranger_3 : decode cX8_setStranger 3 = .ok (.iload_n 3, 1) := by decide +kernel
theorem dX8_setStranger_4 : decode cX8_setStranger 4 = .ok (.iload 4, 2) := by decide +kernel
theorem dX8_setStranger_6 : decode cX8_setStranger 6 = .ok (.invokevirtual 74, 3) := by decide +kernel
theorem dX8_setStranger_9 : decode cX8_setStranger 9 = .ok (.aload_n 0, 1) := by decide +kernel
theorem dX8_setStranger_10 : decode cX8_setStranger 10 = .ok (.getfield 12, 3) := by decide +kernel
theorem dX8_setStranger_13 : decode cX8_setStranger 13 = .ok (.getfield 48, 3) := by decide +kernel
theorem dX8_setStranger_16 : decode cX8_setStranger 16 = .ok (.bipush 6, 2) := by decide +kernel
theorem dX8_setStranger_18 : decode cX8_setStranger 18 = .ok (.iload 5, 2) := by decide +kernel
theorem dX8_setStranger_20 : decode cX8_setStranger 20 = .ok (.iastore, 1) := by decide +kernel
theorem dX8_setStranger_21 : decode cX8_setStranger 21 = .ok (.aload_n 0, 1) := by decide +kernel
theorem dX8_setStranger_22 : decode cX8_setStranger 22 = .ok (.getfield 12, 3) := by decide +kernel
theorem dX8_setStranger_25 : decode cX8_setStranger 25 = .ok (.getfield 48, 3) := by decide +kernel
theorem dX8_setStranger_28 : decode cX8_setStranger 28 = .ok (.bipush 7, 2) := by decide +kernel
theorem dX8_setStranger_30 : decode cX8_setStranger 30 = .ok (.aload_n 0, 1) := by decide +kernel
theorem dX8_setStranger_31 : decode cX8_setStranger 31 = .ok (.getfield 18, 3) := by decide +kernel
theorem dX8_setStranger_34 : decode cX8_setStranger 34 = .ok (.getfield 78, 3) := by decide +kernel
theorem dX8_setStranger_37 : decode cX8_setStranger 37 = .ok (.getfield 60, 3) := by decide +kernel
theorem dX8_setStranger_40 : decode cX8_setStranger 40 = .ok (.iastore, 1) := by decide +kernel
theorem dX8_setStranger_41 : decode cX8_setStranger 41 = .ok (.return_, 1) := by decide +kernel
set_option maxHeartbeats 4000000 in
set_option maxRecDepth 100000 in
theorem k_X8_setStranger (l : Launch) (D : va_G) (cy : Nat → ClassId) (ld : Nat → Nat) (t : tk_T) (a0 : Nat) (p1 : Int32) (p2 : Int32) (p3 : Int32) (p4 : Int32) (p5 : Int32) (ht_a0 : t a0 = (9, 0, 0)) (hp_0 : 0 ≤ p1.toInt) (hp_1 : p1.toInt ≤ 9) (hp_2 : 0 ≤ p2.toInt) (hp_3 : p2.toInt ≤ 7) : Met l yX8_setStranger (wl yX8_setStranger cX8_setStranger 6 none) ({ frames := 4, cells := 0, slots := 0, locals := 210 }) (tp D cy ld t [] [.ref a0, .int p1, .int p2, .int p3, .int p4, .int p5] (fun H => True)) (tv D cy ld t [] (fun H => True) (tk_w t [(20, 0, 0)])) 0 0 (tk_w t [(20, 0, 0)]) := by
  refine tk_met (y := yX8_setStranger) (cc := cX8_setStranger) (maxL := 6) (ret := none) (av := [.ref a0, .int p1, .int p2, .int p3, .int p4, .int p5]) _ _ (by decide) (Nat.le_of_ble_eq_true rfl) ?_
  intro p e s m args below meth c hx hb hr hml hts htl hown hlocks hK H locs hH hG hS hB hZ ls hl
  have hown : s.vm.findClass RX8 = some m.cls := hown
  have hl : lv_has ls 6 [(0, .ref a0), (1, .int p1), (2, .int p2), (3, .int p3), (4, .int p4), (5, .int p5)] := hl
  have hr_p1 := tk_rng p1
  have hr_p2 := tk_rng p2
  have hr_p3 := tk_rng p3
  have hr_p4 := tk_rng p4
  have hr_p5 := tk_rng p5
  refine lv_aload_n hx hb dX8_setStranger_0 rfl (lv_at hl 0 rfl) ?_
  refine lv_iload_n hx hb dX8_setStranger_1 rfl (lv_at hl 1 rfl) ?_
  refine lv_iload_n hx hb dX8_setStranger_2 rfl (lv_at hl 2 rfl) ?_
  refine lv_iload_n hx hb dX8_setStranger_3 rfl (lv_at hl 3 rfl) ?_
  refine lv_iload hx hb dX8_setStranger_4 (lv_at hl 4 rfl) ?_
  refine tk_Vv (As := [.int p1, .int p2, .int p3, .int p4]) (rest := []) (ci := 8) ⟨hx, hb, hml, hown, hts⟩ hK hG hZ hS (k_X8_setVerse l D cy ld t a0 p1 p2 p3 p4 ht_a0 (by omega) (by omega) (by omega) (by omega)) trivial ⟨callB_of 4 hts (wl_in mw_929) rfl rfl rfl (htl _ mw_21) (htl _ mw_926) hd_yX8_setVerse ⟨(Nat.le_of_ble_eq_true rfl), (Nat.le_of_ble_eq_true rfl)⟩, htl _ mw_927, htl _ mw_928⟩ ht_a0 (by decide) tk_no rfl (tk_w.pick [0] rfl) rfl hl.1 rfl (Nat.le_of_ble_eq_true rfl) dX8_setStranger_6 ⟨(Nat.le_of_ble_eq_true rfl), (Nat.le_of_ble_eq_true rfl)⟩ (fun H locs hpo hG hS hq9 => ?_)
  refine lv_aload_n hx hb dX8_setStranger_9 rfl (lv_at hl 0 rfl) ?_
  refine tk_get (ci := 8) (C := RX8) (T := TX8) (N := 3) (sp := (6, 12, 0, 0)) hx hb htl inX8 hown hK hG ht_a0 (by decide) tk_no rfl 0 (by decide) (htl _ mw_96) (fun _ h9 => h9) rfl dX8_setStranger_10 (fun v9 hf2 hV9 => ?_)
  obtain ⟨b3, rfl, ht_b3⟩ := hV9
  have ht_b3 : t b3 = (12, 0, 0) := ht_b3
  refine tk_get (ci := 11) (C := RX11) (T := TX11) (N := 3) (sp := (6, 20, 15, 0)) hx hb htl inX11 hown hK hG ht_b3 (by decide) tk_no rfl 0 (by decide) (htl _ mw_917) (fun _ h9 => h9) rfl dX8_setStranger_13 (fun v9 hf4 hV9 => ?_)
  obtain ⟨b5, rfl, ht_b5⟩ := hV9
  have ht_b5 : t b5 = (20, 15, 0) := ht_b5
  refine lv_bipush (v := 6) hx hb dX8_setStranger_16 (by decide) ?_
  refine lv_iload hx hb dX8_setStranger_18 (lv_at hl 5 rfl) ?_
  refine tk_iast hx hb hK hG hS ht_b5 (by decide) (fun _ => Iff.rfl) tk_no (I := 6) (by decide) (by decide) (by decide) trivial (tk_w.of ht_b5 (by decide) (List.mem_of_getElem? (i := 0) rfl) (Nat.le_refl _) (Nat.le_refl _)) dX8_setStranger_20 (fun H locs hG hS hq9 => ?_)
  refine lv_aload_n hx hb dX8_setStranger_21 rfl (lv_at hl 0 rfl) ?_
  refine tk_get (ci := 8) (C := RX8) (T := TX8) (N := 3) (sp := (6, 12, 0, 0)) hx hb htl inX8 hown hK hG ht_a0 (by decide) tk_no rfl 0 (by decide) (htl _ mw_96) (fun _ h9 => h9) rfl dX8_setStranger_22 (fun v9 hf7 hV9 => ?_)
  obtain ⟨b8, rfl, ht_b8⟩ := hV9
  have ht_b8 : t b8 = (12, 0, 0) := ht_b8
  refine tk_get (ci := 11) (C := RX11) (T := TX11) (N := 3) (sp := (6, 20, 15, 0)) hx hb htl inX11 hown hK hG ht_b8 (by decide) tk_no rfl 0 (by decide) (htl _ mw_917) (fun _ h9 => h9) rfl dX8_setStranger_25 (fun v9 hf9 hV9 => ?_)
  obtain ⟨b10, rfl, ht_b10⟩ := hV9
  have ht_b10 : t b10 = (20, 15, 0) := ht_b10
  refine lv_bipush (v := 7) hx hb dX8_setStranger_28 (by decide) ?_
  refine lv_aload_n hx hb dX8_setStranger_30 rfl (lv_at hl 0 rfl) ?_
  refine tk_get (ci := 8) (C := RX8) (T := TX8) (N := 3) (sp := (8, 20, 3, 0)) hx hb htl inX8 hown hK hG ht_a0 (by decide) tk_no rfl 1 (by decide) (htl _ mw_97) (fun _ h9 => h9) rfl dX8_setStranger_31 (fun v9 hf11 hV9 => ?_)
  obtain ⟨rfl, ht_ld20⟩ := hV9
  have ht_ld20 : t (ld 20) = (3, 0, 0) := ht_ld20
  refine fx_top (v := .ref (ld 20)) rfl ?_
  refine tk_get (ci := 2) (C := RX2) (T := TX2) (N := 20) (sp := (9, 40, 10, 0)) hx hb htl inX2 hown hK hG ht_ld20 (by decide) tk_no rfl 19 (by decide) (htl _ mw_1522) (fun _ h9 => h9) rfl dX8_setStranger_34 (fun v9 hf12 hV9 => ?_)
  obtain ⟨rfl, ht_ld40⟩ := hV9
  have ht_ld40 : t (ld 40) = (10, 0, 0) := ht_ld40
  refine fx_top (v := .ref (ld 40)) rfl ?_
  refine tk_get (ci := 9) (C := RX9) (T := TX9) (N := 11) (sp := (0, (-2147483648), 2147483647, 0)) hx hb htl inX9 hown hK hG ht_ld40 (by decide) tk_no rfl 4 (by decide) (htl _ mw_920) (fun _ h9 => h9) rfl dX8_setStranger_37 (fun v9 hf13 hV9 => ?_)
  obtain ⟨v14, rfl, (ha_v14 : (-2147483648) ≤ v14.toInt), (hb_v14 : v14.toInt ≤ 2147483647)⟩ := hV9
  refine tk_iast hx hb hK hG hS ht_b10 (by decide) (fun _ => Iff.rfl) tk_no (I := 7) (by decide) (by decide) (by decide) trivial (tk_w.of ht_b10 (by decide) (List.mem_of_getElem? (i := 0) rfl) (Nat.le_refl _) (Nat.le_refl _)) dX8_setStranger_40 (fun H locs hG hS hq9 => ?_)
  exact tk_vret hx hb hr hlocks trivial hG hS dX8_setStranger_41
theorem dX8_lullsAt_0 : decode cX8_lullsAt 0 = .ok (.aload_n 0, 1) := by decide +kernel
theorem dX8_lullsAt_1 : decode cX8_lullsAt 1 = .ok (.getfield 12, 3) := by decide +kernel
theorem dX8_lullsAt_4 : decode cX8_lullsAt 4 = .ok (.getfield 48, 3) := by decide +kernel
theorem dX8_lullsAt_7 : decode cX8_lullsAt 7 = .ok (.iconst 5, 1) := by decide +kernel
theorem dX8_lullsAt_8 : decode cX8_lullsAt 8 = .ok (.iload_n 1, 1) := by decide +kernel
theorem dX8_lullsAt_9 : decode cX8_lullsAt 9 = .ok (.iastore, 1) := by decide +kernel
theorem dX8_lullsAt_10 : decode cX8_lullsAt 10 = .ok (.aload_n 0, 1) := by decide +kernel
theorem dX8_lullsAt_11 : decode cX8_lullsAt 11 = .ok (.invokevirtual 26, 3) := by decide +kernel
theorem dX8_lullsAt_14 : decode cX8_lullsAt 14 = .ok (.ireturn, 1) := by decide +kernel
set_option maxHeartbeats 4000000 in
set_option maxRecDepth 100000 in
theorem k_X8_lullsAt (l : Launch) (D : va_G) (cy : Nat → ClassId) (ld : Nat → Nat) (t : tk_T) (a0 : Nat) (p1 : Int32) (ht_a0 : t a0 = (9, 0, 0)) : Met l yX8_lullsAt (wl yX8_lullsAt cX8_lullsAt 2 (some .int)) ({ frames := 6, cells := 0, slots := 0, locals := 350 }) (tp D cy ld t [] [.ref a0, .int p1] (fun H => True)) (ti D cy ld t [] (fun r H => True) (tk_w t [(20, 0, 0), (12, 0, 0), (9, 0, 0)])) 0 0 (tk_w t [(20, 0, 0), (12, 0, 0), (9, 0, 0)]) := by
  refine tk_met (y := yX8_lullsAt) (cc := cX8_lullsAt) (maxL := 2) (ret := (some .int)) (av := [.ref a0, .int p1]) _ _ (by decide) (Nat.le_of_ble_eq_true rfl) ?_
  intro p e s m args below meth c hx hb hr hml hts htl hown hlocks hK H locs hH hG hS hB hZ ls hl
  have hown : s.vm.findClass RX8 = some m.cls := hown
  have hl : lv_has ls 2 [(0, .ref a0), (1, .int p1)] := hl
  have hr_p1 := tk_rng p1
  refine lv_aload_n hx hb dX8_lullsAt_0 rfl (lv_at hl 0 rfl) ?_
  refine tk_get (ci := 8) (C := RX8) (T := TX8) (N := 3) (sp := (6, 12, 0, 0)) hx hb htl inX8 hown hK hG ht_a0 (by decide) tk_no rfl 0 (by decide) (htl _ mw_96) (fun _ h9 => h9) rfl dX8_lullsAt_1 (fun v9 hf1 hV9 => ?_)
  obtain ⟨b2, rfl, ht_b2⟩ := hV9
  have ht_b2 : t b2 = (12, 0, 0) := ht_b2
  refine tk_get (ci := 11) (C := RX11) (T := TX11) (N := 3) (sp := (6, 20, 15, 0)) hx hb htl inX11 hown hK hG ht_b2 (by decide) tk_no rfl 0 (by decide) (htl _ mw_917) (fun _ h9 => h9) rfl dX8_lullsAt_4 (fun v9 hf3 hV9 => ?_)
  obtain ⟨b4, rfl, ht_b4⟩ := hV9
  have ht_b4 : t b4 = (20, 15, 0) := ht_b4
  refine lv_iconst (v := 5) hx hb dX8_lullsAt_7 (by decide) ?_
  refine lv_iload_n hx hb dX8_lullsAt_8 rfl (lv_at hl 1 rfl) ?_
  refine tk_iast hx hb hK hG hS ht_b4 (by decide) (fun _ => Iff.rfl) tk_no (I := 5) (by decide) (by decide) (by decide) trivial (tk_w.of ht_b4 (by decide) (List.mem_of_getElem? (i := 0) rfl) (Nat.le_refl _) (Nat.le_refl _)) dX8_lullsAt_9 (fun H locs hG hS hq9 => ?_)
  refine lv_aload_n hx hb dX8_lullsAt_10 rfl (lv_at hl 0 rfl) ?_
  refine tk_Vi (As := []) (rest := []) (ci := 8) ⟨hx, hb, hml, hown, hts⟩ hK hG hZ hS (k_X8_lullByWords l D cy ld t a0 ht_a0) trivial ⟨callB_of 0 hts (wl_in mw_957) rfl rfl rfl (htl _ mw_21) (htl _ mw_954) hd_yX8_lullByWords ⟨(Nat.le_of_ble_eq_true rfl), (Nat.le_of_ble_eq_true rfl)⟩, htl _ mw_955, htl _ mw_956⟩ ht_a0 (by decide) tk_no rfl (tk_w.pick [1, 0, 2] rfl) rfl hl.1 rfl (Nat.le_of_ble_eq_true rfl) dX8_lullsAt_11 ⟨(Nat.le_of_ble_eq_true rfl), (Nat.le_of_ble_eq_true rfl)⟩ (fun v6 H locs hpo hG hS hq9 => ?_)
  exact tk_iret (v := v6) hx hb hr rfl hlocks trivial hG hS dX8_lullsAt_14
theorem dX8_isLullByWake_0 : decode cX8_isLullByWake 0 = .ok (.aload_n 0, 1) := by decide +kernel
theorem dX8_isLullByWake_1 : decode cX8_isLullByWake 1 = .ok (.getfield 18, 3) := by decide +kernel
theorem dX8_isLullByWake_4 : decode cX8_isLullByWake 4 = .ok (.invokevirtual 33, 3) := by decide +kernel
theorem dX8_isLullByWake_7 : decode cX8_isLullByWake 7 = .ok (.astore_n 1, 1) := by decide +kernel
theorem dX8_isLullByWake_8 : decode cX8_isLullByWake 8 = .ok (.aload_n 1, 1) := by decide +kernel
theorem dX8_isLullByWake_9 : decode cX8_isLullByWake 9 = .ok (.ifnull 14, 3) := by decide +kernel
theorem dX8_isLullByWake_23 : decode cX8_isLullByWake 23 = .ok (.iconst 0, 1) := by decide +kernel
theorem dX8_isLullByWake_24 : decode cX8_isLullByWake 24 = .ok (.ireturn, 1) := by decide +kernel
theorem dX8_isLullByWake_12 : decode cX8_isLullByWake 12 = .ok (.aload_n 1, 1) := by decide +kernel
theorem dX8_isLullByWake_13 : decode cX8_isLullByWake 13 = .ok (.getfield 82, 3) := by decide +kernel
theorem dX8_isLullByWake_16 : decode cX8_isLullByWake 16 = .ok (.ifCond .eq 7, 3) := by decide +kernel
theorem dX8_isLullByWake_19 : decode cX8_isLullByWake 19 = .ok (.iconst 1, 1) := by decide +kernel
theorem dX8_isLullByWake_20 : decode cX8_isLullByWake 20 = .ok (.goto 4, 3) := by decide +kernel
set_option maxHeartbeats 4000000 in
set_option maxRecDepth 100000 in
theorem k_X8_isLullByWake (l : Launch) (D : va_G) (cy : Nat → ClassId) (ld : Nat → Nat) (t : tk_T) (a0 : Nat) (ht_a0 : t a0 = (9, 0, 0)) : Met l yX8_isLullByWake (wl yX8_isLullByWake cX8_isLullByWake 2 (some .boolean)) ({ frames := 4, cells := 0, slots := 0, locals := 210 }) (tp D cy ld t [] [.ref a0] (fun H => True)) (ti D cy ld t [] (fun r H => 0 ≤ r.toInt ∧ r.toInt ≤ 1 ∧ 0 ≤ r.toInt ∧ r.toInt ≤ 1) (tk_w t [])) 0 0 (tk_w t []) := by
  refine tk_met (y := yX8_isLullByWake) (cc := cX8_isLullByWake) (maxL := 2) (ret := (some .boolean)) (av := [.ref a0]) _ _ (by decide) (Nat.le_of_ble_eq_true rfl) ?_
  intro p e s m args below meth c hx hb hr hml hts htl hown hlocks hK H locs hH hG hS hB hZ ls hl
  have hown : s.vm.findClass RX8 = some m.cls := hown
  have hl : lv_has ls 2 [(0, .ref a0)] := hl
  refine lv_aload_n hx hb dX8_isLullByWake_0 rfl (lv_at hl 0 rfl) ?_
  refine tk_get (ci := 8) (C := RX8) (T := TX8) (N := 3) (sp := (8, 20, 3, 0)) hx hb htl inX8 hown hK hG ht_a0 (by decide) tk_no rfl 1 (by decide) (htl _ mw_97) (fun _ h9 => h9) rfl dX8_isLullByWake_1 (fun v9 hf1 hV9 => ?_)
  obtain ⟨rfl, ht_ld20⟩ := hV9
  have ht_ld20 : t (ld 20) = (3, 0, 0) := ht_ld20
  refine fx_top (v := .ref (ld 20)) rfl ?_
  refine tk_Vq (As := []) (rest := []) (ci := 2) ⟨hx, hb, hml, hown, hts⟩ hK hG hZ hS (k_X2_lawInForce l D cy ld t (ld 20) ht_ld20) trivial ⟨callB_of 0 hts (wl_in mw_905) rfl rfl rfl (htl _ mw_14) (htl _ mw_902) hd_yX2_lawInForce ⟨(Nat.le_of_ble_eq_true rfl), (Nat.le_of_ble_eq_true rfl)⟩, htl _ mw_903, htl _ mw_904⟩ ht_ld20 (by decide) tk_no rfl (tk_w.pick [] rfl) rfl hl.1 rfl (Nat.le_of_ble_eq_true rfl) dX8_isLullByWake_4 ⟨(Nat.le_of_ble_eq_true rfl), (Nat.le_of_ble_eq_true rfl)⟩ (fun o2 H locs hpo hG hS hq9 => ?_)
  rcases o2 with _ | b4
  · refine fx_top (v := .null) rfl ?_
    refine lv_astore_nN (lv' := [(1, .null), (0, .ref a0)]) hx hb dX8_isLullByWake_7 rfl hl (by decide) rfl (fun ls hl => ?_)
    refine lv_aload_nN hx hb dX8_isLullByWake_8 rfl (lv_at hl 0 rfl) ?_
    refine lv_ifnullN (tgt := 23) hx hb dX8_isLullByWake_9 (by decide) ?_
    refine lv_iconst (v := 0) hx hb dX8_isLullByWake_23 (by decide) ?_
    have hk_0 : (0 : Int32).toInt = 0 := by decide
    exact tk_iret (v := 0) hx hb hr rfl hlocks (show 0 ≤ (0 : Int32).toInt ∧ (0 : Int32).toInt ≤ 1 ∧ 0 ≤ (0 : Int32).toInt ∧ (0 : Int32).toInt ≤ 1 from ⟨(by omega), (by omega), (by omega), (by omega)⟩) hG hS dX8_isLullByWake_24
  · obtain ⟨n_b4, r_b4, ht_b4⟩ := hpo b4 rfl
    have hb_b4 := tk_X8 hG ht_b4 tk_no
    refine fx_top (v := .ref b4) rfl ?_
    refine lv_astore_n (lv' := [(1, .ref b4), (0, .ref a0)]) hx hb dX8_isLullByWake_7 rfl hl (by decide) rfl (fun ls hl => ?_)
    refine lv_aload_n hx hb dX8_isLullByWake_8 rfl (lv_at hl 0 rfl) ?_
    refine lv_ifnull hx hb dX8_isLullByWake_9 ?_
    refine lv_aload_n hx hb dX8_isLullByWake_12 rfl (lv_at hl 0 rfl) ?_
    refine tk_get (ci := 7) (C := RX7) (T := TX7) (N := 10) (sp := (0, 0, 1, 0)) hx hb htl inX7 hown hK hG ht_b4 (by decide) tk_no rfl 9 (by decide) (htl _ mw_1532) (fun _ h9 => h9) rfl dX8_isLullByWake_13 (fun v9 hf5 hV9 => ?_)
    obtain ⟨v6, rfl, (ha_v6 : 0 ≤ v6.toInt), (hb_v6 : v6.toInt ≤ 1)⟩ := hV9
    refine lv_if_eq (tgt := 23) hx hb dX8_isLullByWake_16 (by decide) (fun c9 => ?_) (fun c9 => ?_)
    · have hc7 : v6.toInt = 0 := (fi_eq rfl (show (0 : Int32).toInt = 0 by decide)).mp c9
      refine lv_iconst (v := 0) hx hb dX8_isLullByWake_23 (by decide) ?_
      have hk_0 : (0 : Int32).toInt = 0 := by decide
      exact tk_iret (v := 0) hx hb hr rfl hlocks (show 0 ≤ (0 : Int32).toInt ∧ (0 : Int32).toInt ≤ 1 ∧ 0 ≤ (0 : Int32).toInt ∧ (0 : Int32).toInt ≤ 1 from ⟨(by omega), (by omega), (by omega), (by omega)⟩) hG hS dX8_isLullByWake_24
    · have hc7 : ¬ (v6.toInt = 0) := fun h9 => c9 ((fi_eq rfl (show (0 : Int32).toInt = 0 by decide)).mpr h9)
      refine lv_iconst (v := 1) hx hb dX8_isLullByWake_19 (by decide) ?_
      refine lv_goto (tgt := 24) hx hb dX8_isLullByWake_20 (by decide) ?_
      have hk_1 : (1 : Int32).toInt = 1 := by decide
      exact tk_iret (v := 1) hx hb hr rfl hlocks (show 0 ≤ (1 : Int32).toInt ∧ (1 : Int32).toInt ≤ 1 ∧ 0 ≤ (1 : Int32).toInt ∧ (1 : Int32).toInt ≤ 1 from ⟨(by omega), (by omega), (by omega), (by omega)⟩) hG hS dX8_isLullByWake_24
theorem dX10_hearOne_0 : decode cX10_hearOne 0 = .ok (.aload_n 0, 1) := by decide +kernel
theorem dX10_hearOne_1 : decode cX10_hearOne 1 = .ok (.getfield 19, 3) := by decide +kernel
theorem dX10_hearOne_4 : decode cX10_hearOne 4 = .ok (.invokevirtual 59, 3) := by decide +kernel
theorem dX10_hearOne_7 : decode cX10_hearOne 7 = .ok (.istore_n 2, 1) := by decide +kernel
theorem dX10_hearOne_8 : decode cX10_hearOne 8 = .ok (.aload_n 0, 1) := by decide +kernel
theorem dX10_hearOne_9 : decode cX10_hearOne 9 = .ok (.getfield 19, 3) := by decide +kernel
theorem dX10_hearOne_12 : decode cX10_hearOne 12 = .ok (.sipush 999, 3) := by decide +kernel
theorem dX10_hearOne_15 : decode cX10_hearOne 15 = .ok (.invokevirtual 63, 3) := by decide +kernel
theorem dX10_hearOne_18 : decode cX10_hearOne 18 = .ok (.istore_n 3, 1) := by decide +kernel
theorem dX10_hearOne_19 : decode cX10_hearOne 19 = .ok (.iconst 1, 1) := by decide +kernel
theorem dX10_hearOne_20 : decode cX10_hearOne 20 = .ok (.istore 4, 2) := by decide +kernel
theorem dX10_hearOne_22 : decode cX10_hearOne 22 = .ok (.iload 4, 2) := by decide +kernel
theorem dX10_hearOne_24 : decode cX10_hearOne 24 = .ok (.sipush 999, 3) := by decide +kernel
theorem dX10_hearOne_27 : decode cX10_hearOne 27 = .ok (.if_icmp .gt 87, 3) := by decide +kernel
theorem dX10_hearOne_114 : decode cX10_hearOne 114 = .ok (.return_, 1) := by decide +kernel
theorem dX10_hearOne_30 : decode cX10_hearOne 30 = .ok (.aload_n 0, 1) := by decide +kernel
theorem dX10_hearOne_31 : decode cX10_hearOne 31 = .ok (.getfield 9, 3) := by decide +kernel
theorem dX10_hearOne_34 : decode cX10_hearOne 34 = .ok (.iload 4, 2) := by decide +kernel
theorem dX10_hearOne_36 : decode cX10_hearOne 36 = .ok (.iaload, 1) := by decide +kernel
theorem dX10_hearOne_37 : decode cX10_hearOne 37 = .ok (.istore 5, 2) := by decide +kernel
theorem dX10_hearOne_39 : decode cX10_hearOne 39 = .ok (.iload 5, 2) := by decide +kernel
theorem dX10_hearOne_108 : decode cX10_hearOne 108 = .ok (.iinc 4 1, 3) := by decide +kernel
theorem dX10_hearOne_111 : decode cX10_hearOne 111 = .ok (.goto (-89), 3) := by decide +kernel
theorem dX10_hearOne_41 : decode cX10_hearOne 41 = .ok (.ifCond .gt 14, 3) := by decide +kernel
theorem dX10_hearOne_55 : decode cX10_hearOne 55 = .ok (.iconst 0, 1) := by decide +kernel
theorem dX10_hearOne_56 : decode cX10_hearOne 56 = .ok (.iload 5, 2) := by decide +kernel
theorem dX10_hearOne_58 : decode cX10_hearOne 58 = .ok (.iload_n 2, 1) := by decide +kernel
theorem dX10_hearOne_75 : decode cX10_hearOne 75 = .ok (.isub, 1) := by decide +kernel
theorem dX10_hearOne_76 : decode cX10_hearOne 76 = .ok (.invokestatic 43, 3) := by decide +kernel
theorem dX10_hearOne_79 : decode cX10_hearOne 79 = .ok (.istore 6, 2) := by decide +kernel
theorem dX10_hearOne_81 : decode cX10_hearOne 81 = .ok (.aload_n 0, 1) := by decide +kernel
theorem dX10_hearOne_82 : decode cX10_hearOne 82 = .ok (.getfield 9, 3) := by decide +kernel
theorem dX10_hearOne_85 : decode cX10_hearOne 85 = .ok (.iload 4, 2) := by decide +kernel
theorem dX10_hearOne_87 : decode cX10_hearOne 87 = .ok (.iload_n 1, 1) := by decide +kernel
theorem dX10_hearOne_88 : decode cX10_hearOne 88 = .ok (.iload 6, 2) := by decide +kernel
theorem dX10_hearOne_107 : decode cX10_hearOne 107 = .ok (.iastore, 1) := by decide +kernel
theorem dX10_hearOne_98 : decode cX10_hearOne 98 = .ok (.if_icmp .ne 8, 3) := by decide +kernel
theorem dX10_hearOne_106 : decode cX10_hearOne 106 = .ok (.iconst (-1), 1) := by decide +kernel
theorem dX10_hearOne_101 : decode cX10_hearOne 101 = .ok (.iload 6, 2) := by decide +kernel
theorem dX10_hearOne_103 : decode cX10_hearOne 103 = .ok (.goto 4, 3) := by decide +kernel
theorem dX10_hearOne_90 : decode cX10_hearOne 90 = .ok (.ifCond .ne 7, 3) := by decide +kernel
theorem dX10_hearOne_97 : decode cX10_hearOne 97 = .ok (.iconst 0, 1) := by decide +kernel
theorem dX10_hearOne_93 : decode cX10_hearOne 93 = .ok (.iconst 1, 1) := by decide +kernel
theorem dX10_hearOne_94 : decode cX10_hearOne 94 = .ok (.goto 4, 3) := by decide +kernel
theorem dX10_hearOne_59 : decode cX10_hearOne 59 = .ok (.ifCond .eq 15, 3) := by decide +kernel
theorem dX10_hearOne_74 : decode cX10_hearOne 74 = .ok (.iload_n 3, 1) := by decide +kernel
theorem dX10_hearOne_62 : decode cX10_hearOne 62 = .ok (.aload_n 0, 1) := by decide +kernel
theorem dX10_hearOne_63 : decode cX10_hearOne 63 = .ok (.getfield 19, 3) := by decide +kernel
theorem dX10_hearOne_66 : decode cX10_hearOne 66 = .ok (.iload 5, 2) := by decide +kernel
theorem dX10_hearOne_68 : decode cX10_hearOne 68 = .ok (.invokevirtual 63, 3) := by decide +kernel
theorem dX10_hearOne_71 : decode cX10_hearOne 71 = .ok (.goto 4, 3) := by decide +kernel
theorem dX10_hearOne_44 : decode cX10_hearOne 44 = .ok (.aload_n 0, 1) := by decide +kernel
theorem dX10_hearOne_45 : decode cX10_hearOne 45 = .ok (.getfield 9, 3) := by decide +kernel
theorem dX10_hearOne_48 : decode cX10_hearOne 48 = .ok (.iload 4, 2) := by decide +kernel
theorem dX10_hearOne_50 : decode cX10_hearOne 50 = .ok (.iconst (-1), 1) := by decide +kernel
theorem dX10_hearOne_51 : decode cX10_hearOne 51 = .ok (.iastore, 1) := by decide +kernel
theorem dX10_hearOne_52 : decode cX10_hearOne 52 = .ok (.goto 56, 3) := by decide +kernel
set_option maxHeartbeats 4000000 in
set_option maxRecDepth 100000 in
theorem k_X10_hearOne (l : Launch) (D : va_G) (cy : Nat → ClassId) (ld : Nat → Nat) (t : tk_T) (a0 : Nat) (p1 : Int32) (ht_a0 : t a0 = (11, 0, 0)) (hp_0 : 0 ≤ p1.toInt) (hp_1 : p1.toInt ≤ 1) : Met l yX10_hearOne (wl yX10_hearOne cX10_hearOne 7 none) ({ frames := 7, cells := 0, slots := 0, locals := 420 }) (tp D cy ld t [] [.ref a0, .int p1] (fun H => True)) (tv D cy ld t [] (fun H => True) (tk_w t [(20, 0, 0), (12, 0, 0), (9, 0, 0)])) 0 0 (tk_w t [(20, 0, 0), (12, 0, 0), (9, 0, 0)]) := by
  refine tk_met (y := yX10_hearOne) (cc := cX10_hearOne) (maxL := 7) (ret := none) (av := [.ref a0, .int p1]) _ _ (by decide) (Nat.le_of_ble_eq_true rfl) ?_
  intro p e s m args below meth c hx hb hr hml hts htl hown hlocks hK H locs hH hG hS hB hZ ls hl
  have hown : s.vm.findClass RX10 = some m.cls := hown
  have hl : lv_has ls 7 [(0, .ref a0), (1, .int p1)] := hl
  have hr_p1 := tk_rng p1
  refine lv_aload_n hx hb dX10_hearOne_0 rfl (lv_at hl 0 rfl) ?_
  refine tk_get (ci := 10) (C := RX10) (T := TX10) (N := 3) (sp := (6, 9, 0, 0)) hx hb htl inX10 hown hK hG ht_a0 (by decide) tk_no rfl 1 (by decide) (htl _ mw_182) (fun _ h9 => h9) rfl dX10_hearOne_1 (fun v9 hf1 hV9 => ?_)
  obtain ⟨b2, rfl, ht_b2⟩ := hV9
  have ht_b2 : t b2 = (9, 0, 0) := ht_b2
  refine tk_Vi (As := []) (rest := []) (ci := 8) ⟨hx, hb, hml, hown, hts⟩ hK hG hZ hS (k_X8_isLullByWake l D cy ld t b2 ht_b2) trivial ⟨callB_of 0 hts (wl_in mw_1531) rfl rfl rfl (htl _ mw_21) (htl _ mw_1528) hd_yX8_isLullByWake ⟨(Nat.le_of_ble_eq_true rfl), (Nat.le_of_ble_eq_true rfl)⟩, htl _ mw_1529, htl _ mw_1530⟩ ht_b2 (by decide) tk_no rfl (tk_w.pick [] rfl) rfl hl.1 rfl (Nat.le_of_ble_eq_true rfl) dX10_hearOne_4 ⟨(Nat.le_of_ble_eq_true rfl), (Nat.le_of_ble_eq_true rfl)⟩ (fun v3 H locs hpo hG hS hq9 => ?_)
  obtain ⟨hpo5, hpo6, hpo7, hpo8⟩ := hpo
  refine lv_istore_n (lv' := [(2, .int v3), (0, .ref a0), (1, .int p1)]) hx hb dX10_hearOne_7 rfl hl (by decide) rfl (fun ls hl => ?_)
  refine lv_aload_n hx hb dX10_hearOne_8 rfl (lv_at hl 1 rfl) ?_
  refine tk_get (ci := 10) (C := RX10) (T := TX10) (N := 3) (sp := (6, 9, 0, 0)) hx hb htl inX10 hown hK hG ht_a0 (by decide) tk_no rfl 1 (by decide) (htl _ mw_182) (fun _ h9 => h9) rfl dX10_hearOne_9 (fun v9 hf9 hV9 => ?_)
  obtain ⟨b10, rfl, ht_b10⟩ := hV9
  have ht_b10 : t b10 = (9, 0, 0) := ht_b10
  refine lv_sipush (v := 999) hx hb dX10_hearOne_12 (by decide) ?_
  have hk_999 : (999 : Int32).toInt = 999 := by decide
  refine tk_Vi (As := [.int 999]) (rest := []) (ci := 8) ⟨hx, hb, hml, hown, hts⟩ hK hG hZ hS (k_X8_lullsAt l D cy ld t b10 999 ht_b10) trivial ⟨callB_of 1 hts (wl_in mw_1536) rfl rfl rfl (htl _ mw_21) (htl _ mw_1533) hd_yX8_lullsAt ⟨(Nat.le_of_ble_eq_true rfl), (Nat.le_of_ble_eq_true rfl)⟩, htl _ mw_1534, htl _ mw_1535⟩ ht_b10 (by decide) tk_no rfl (tk_w.pick [0, 1, 2] rfl) rfl hl.1 rfl (Nat.le_of_ble_eq_true rfl) dX10_hearOne_15 ⟨(Nat.le_of_ble_eq_true rfl), (Nat.le_of_ble_eq_true rfl)⟩ (fun v11 H locs hpo hG hS hq9 => ?_)
  refine lv_istore_n (lv' := [(3, .int v11), (2, .int v3), (0, .ref a0), (1, .int p1)]) hx hb dX10_hearOne_18 rfl hl (by decide) rfl (fun ls hl => ?_)
  refine lv_iconst (v := 1) hx hb dX10_hearOne_19 (by decide) ?_
  refine lv_istore (lv' := [(4, .int 1), (3, .int v11), (2, .int v3), (0, .ref a0), (1, .int p1)]) hx hb dX10_hearOne_20 hl (by decide) rfl (fun ls hl => ?_)
  have hl701 : ∀ (N_l701 : Nat) (v13 : Int32) (H : Heap) (locs : List Loc), v13.toInt ≤ 1000 → 1 ≤ v13.toInt → (-1) * v13.toInt + 1000 < (N_l701 : Int) → tk_G D cy ld t [] H → va_S (tk_w t [(20, 0, 0), (12, 0, 0), (9, 0, 0)]) s.heap H locs → ∀ ls : Array Slot, lv_has ls 7 [(4, .int v13), (3, .int v11), (2, .int v3), (0, .ref a0), (1, .int p1)] → W p l e ({ frames := 7, cells := 0, slots := 0, locals := 420 }) s m args below meth c H locs 0 0 (MQ below (tv D cy ld t [] (fun H => True) (tk_w t [(20, 0, 0), (12, 0, 0), (9, 0, 0)])) args s 0 0 (tk_w t [(20, 0, 0), (12, 0, 0), (9, 0, 0)])) (F0 m 22 ls []) := by
    intro N_l701
    induction N_l701 with
    | zero => intro v13 H locs hq0_l701 hq1_l701 hm_l701 hG hS ls hl; exfalso; omega
    | succ N_l701 ih_l701 =>
      intro v13 H locs hq0_l701 hq1_l701 hm_l701 hG hS ls hl
      refine lv_iload hx hb dX10_hearOne_22 (lv_at hl 0 rfl) ?_
      refine lv_sipush (v := 999) hx hb dX10_hearOne_24 (by decide) ?_
      refine lv_icmp_gt (tgt := 114) hx hb dX10_hearOne_27 (by decide) (fun c9 => ?_) (fun c9 => ?_)
      · have hc702 : 999 < v13.toInt := (fi_lt (show (999 : Int32).toInt = 999 by decide) rfl).mp c9
        exact tk_vret hx hb hr hlocks trivial hG hS dX10_hearOne_114
      · have hc702 : ¬ (999 < v13.toInt) := fun h9 => c9 ((fi_lt (show (999 : Int32).toInt = 999 by decide) rfl).mpr h9)
        refine lv_aload_n hx hb dX10_hearOne_30 rfl (lv_at hl 3 rfl) ?_
        refine tk_get (ci := 10) (C := RX10) (T := TX10) (N := 3) (sp := (6, 20, 1000, 0)) hx hb htl inX10 hown hK hG ht_a0 (by decide) tk_no rfl 2 (by decide) (htl _ mw_180) (fun _ h9 => h9) rfl dX10_hearOne_31 (fun v9 hf703 hV9 => ?_)
        obtain ⟨b704, rfl, ht_b704⟩ := hV9
        have ht_b704 : t b704 = (20, 1000, 0) := ht_b704
        refine lv_iload hx hb dX10_hearOne_34 (lv_at hl 0 rfl) ?_
        refine tk_iald hx hb hK hG ht_b704 (by decide) (fun _ h => h) tk_no rfl (by omega) (by omega) dX10_hearOne_36 (fun v705 _ _ => ?_)
        have hr_v705 := tk_rng v705
        refine lv_istore (lv' := [(5, .int v705), (4, .int v13), (3, .int v11), (2, .int v3), (0, .ref a0), (1, .int p1)]) hx hb dX10_hearOne_37 hl (by decide) rfl (fun ls hl => ?_)
        refine lv_iload hx hb dX10_hearOne_39 (lv_at hl 0 rfl) ?_
        have hj739 : ∀ (H : Heap) (locs : List Loc), tk_G D cy ld t [] H → va_S (tk_w t [(20, 0, 0), (12, 0, 0), (9, 0, 0)]) s.heap H locs → ∀ ls : Array Slot, lv_has ls 7 [(4, .int v13), (3, .int v11), (2, .int v3), (0, .ref a0), (1, .int p1)] → W p l e ({ frames := 7, cells := 0, slots := 0, locals := 420 }) s m args below meth c H locs 0 0 (MQ below (tv D cy ld t [] (fun H => True) (tk_w t [(20, 0, 0), (12, 0, 0), (9, 0, 0)])) args s 0 0 (tk_w t [(20, 0, 0), (12, 0, 0), (9, 0, 0)])) (F0 m 108 ls []) := by
          intro H locs hG hS ls hl
          obtain ⟨v740, h_v740, e_v740⟩ := tk_inc v13 1 (by decide) (by omega) (by omega)
          refine lv_iinc (v := v740) (lv' := [(4, .int v740), (3, .int v11), (2, .int v3), (0, .ref a0), (1, .int p1)]) hx hb dX10_hearOne_108 hl (k := 0) rfl e_v740 (by decide) rfl (fun ls hl => ?_)
          refine lv_goto (tgt := 22) hx hb dX10_hearOne_111 (by decide) ?_
          exact ih_l701 v740 _ _ (by omega) (by omega) (by omega) hG hS _ (lv_sub hl [0, 1, 2, 3, 4] rfl)
        refine lv_if_gt (tgt := 55) hx hb dX10_hearOne_41 (by decide) (fun c9 => ?_) (fun c9 => ?_)
        · have hc706 : 0 < v705.toInt := (fi_lt (show (0 : Int32).toInt = 0 by decide) rfl).mp c9
          refine lv_iconst (v := 0) hx hb dX10_hearOne_55 (by decide) ?_
          refine lv_iload hx hb dX10_hearOne_56 (lv_at hl 0 rfl) ?_
          refine lv_iload_n hx hb dX10_hearOne_58 rfl (lv_at hl 3 rfl) ?_
          have hj750 : ∀ (v748 : Int32) (H : Heap) (locs : List Loc), tk_G D cy ld t [] H → va_S (tk_w t [(20, 0, 0), (12, 0, 0), (9, 0, 0)]) s.heap H locs → ∀ ls : Array Slot, lv_has ls 7 [(4, .int v13), (3, .int v11), (2, .int v3), (0, .ref a0), (1, .int p1)] → W p l e ({ frames := 7, cells := 0, slots := 0, locals := 420 }) s m args below meth c H locs 0 0 (MQ below (tv D cy ld t [] (fun H => True) (tk_w t [(20, 0, 0), (12, 0, 0), (9, 0, 0)])) args s 0 0 (tk_w t [(20, 0, 0), (12, 0, 0), (9, 0, 0)])) (F0 m 75 ls [.int v748, .int v705, .int 0]) := by
            intro v748 H locs hG hS ls hl
            refine lv_isub hx hb dX10_hearOne_75 ?_
            obtain ⟨v751, hm_v751⟩ : ∃ z : Int32, v705 - v748 = z := ⟨_, rfl⟩
            refine fx_ti hm_v751 ?_
            refine va_mmax hx hb (by rw [hml]; exact hl.1.symm) hown (htl _ mw_1527) (htl _ mw_948) (htl _ mw_474) (htl _ mw_949) (Nat.le_of_ble_eq_true rfl) (Nat.le_of_ble_eq_true rfl) (Nat.le_of_ble_eq_true rfl) (Nat.le_of_ble_eq_true rfl) dX10_hearOne_76 ?_
            refine tk_say (P := fun z => 0 ≤ z.toInt ∧ v751.toInt ≤ z.toInt ∧ (z.toInt = 0 ∨ z.toInt = v751.toInt)) (tk_max (show (0 : Int32).toInt = 0 by decide) rfl) (fun v752 h_v752 => ?_)
            refine lv_istore (lv' := [(6, .int v752), (4, .int v13), (3, .int v11), (2, .int v3), (0, .ref a0), (1, .int p1)]) hx hb dX10_hearOne_79 hl (by decide) rfl (fun ls hl => ?_)
            refine lv_aload_n hx hb dX10_hearOne_81 rfl (lv_at hl 4 rfl) ?_
            refine tk_get (ci := 10) (C := RX10) (T := TX10) (N := 3) (sp := (6, 20, 1000, 0)) hx hb htl inX10 hown hK hG ht_a0 (by decide) tk_no rfl 2 (by decide) (htl _ mw_180) (fun _ h9 => h9) rfl dX10_hearOne_82 (fun v9 hf753 hV9 => ?_)
            obtain ⟨b754, rfl, ht_b754⟩ := hV9
            have ht_b754 : t b754 = (20, 1000, 0) := ht_b754
            refine lv_iload hx hb dX10_hearOne_85 (lv_at hl 1 rfl) ?_
            refine lv_iload_n hx hb dX10_hearOne_87 rfl (lv_at hl 5 rfl) ?_
            refine lv_iload hx hb dX10_hearOne_88 (lv_at hl 0 rfl) ?_
            have hj758 : ∀ (v757 : Int32), 0 ≤ v757.toInt → v757.toInt ≤ 1 → ∀ ls : Array Slot, lv_has ls 7 [(6, .int v752), (4, .int v13), (3, .int v11), (2, .int v3), (0, .ref a0), (1, .int p1)] → W p l e ({ frames := 7, cells := 0, slots := 0, locals := 420 }) s m args below meth c H locs 0 0 (MQ below (tv D cy ld t [] (fun H => True) (tk_w t [(20, 0, 0), (12, 0, 0), (9, 0, 0)])) args s 0 0 (tk_w t [(20, 0, 0), (12, 0, 0), (9, 0, 0)])) (F0 m 98 ls [.int v757, .int p1, .int v13, .ref b754]) := by
              intro v757 hq0_j758 hq1_j758 ls hl
              have hj762 : ∀ (v761 : Int32), (-1) ≤ v761.toInt → 0 ≤ v752.toInt + (-1) * v761.toInt → ∀ ls : Array Slot, lv_has ls 7 [(4, .int v13), (3, .int v11), (2, .int v3), (0, .ref a0), (1, .int p1)] → W p l e ({ frames := 7, cells := 0, slots := 0, locals := 420 }) s m args below meth c H locs 0 0 (MQ below (tv D cy ld t [] (fun H => True) (tk_w t [(20, 0, 0), (12, 0, 0), (9, 0, 0)])) args s 0 0 (tk_w t [(20, 0, 0), (12, 0, 0), (9, 0, 0)])) (F0 m 107 ls [.int v761, .int v13, .ref b754]) := by
                intro v761 hq0_j762 hq1_j762 ls hl
                refine tk_iast hx hb hK hG hS ht_b754 (by decide) (fun _ => Iff.rfl) tk_no rfl (by omega) (by omega) trivial (tk_w.of ht_b754 (by decide) (List.mem_of_getElem? (i := 0) rfl) (Nat.le_refl _) (Nat.le_refl _)) dX10_hearOne_107 (fun H locs hG hS hq9 => ?_)
                exact hj739 _ _ hG hS _ (lv_sub hl [0, 1, 2, 3, 4] rfl)
              refine lv_icmp_ne (tgt := 106) hx hb dX10_hearOne_98 (by decide) (fun c9 => ?_) (fun c9 => ?_)
              · have hc759 : ¬ (p1.toInt = v757.toInt) := fun h9 => c9 ((fi_eq rfl rfl).mpr h9)
                refine lv_iconst (v := (-1)) hx hb dX10_hearOne_106 (by decide) ?_
                have hk_m1 : ((-1) : Int32).toInt = (-1) := by decide
                exact hj762 (-1) (by omega) (by omega) _ (lv_sub hl [1, 2, 3, 4, 5] rfl)
              · have hc759 : p1.toInt = v757.toInt := (fi_eq rfl rfl).mp c9
                refine lv_iload hx hb dX10_hearOne_101 (lv_at hl 0 rfl) ?_
                refine lv_goto (tgt := 107) hx hb dX10_hearOne_103 (by decide) ?_
                exact hj762 v752 (by omega) (by omega) _ (lv_sub hl [1, 2, 3, 4, 5] rfl)
            refine lv_if_ne (tgt := 97) hx hb dX10_hearOne_90 (by decide) (fun c9 => ?_) (fun c9 => ?_)
            · have hc755 : ¬ (v752.toInt = 0) := fun h9 => c9 ((fi_eq rfl (show (0 : Int32).toInt = 0 by decide)).mpr h9)
              refine lv_iconst (v := 0) hx hb dX10_hearOne_97 (by decide) ?_
              have hk_0 : (0 : Int32).toInt = 0 := by decide
              exact hj758 0 (by omega) (by omega) _ (lv_sub hl [0, 1, 2, 3, 4, 5] rfl)
            · have hc755 : v752.toInt = 0 := (fi_eq rfl (show (0 : Int32).toInt = 0 by decide)).mp c9
              refine lv_iconst (v := 1) hx hb dX10_hearOne_93 (by decide) ?_
              refine lv_goto (tgt := 98) hx hb dX10_hearOne_94 (by decide) ?_
              have hk_1 : (1 : Int32).toInt = 1 := by decide
              exact hj758 1 (by omega) (by omega) _ (lv_sub hl [0, 1, 2, 3, 4, 5] rfl)
          refine lv_if_eq (tgt := 74) hx hb dX10_hearOne_59 (by decide) (fun c9 => ?_) (fun c9 => ?_)
          · have hc741 : v3.toInt = 0 := (fi_eq rfl (show (0 : Int32).toInt = 0 by decide)).mp c9
            refine lv_iload_n hx hb dX10_hearOne_74 rfl (lv_at hl 2 rfl) ?_
            exact hj750 v11 _ _ hG hS _ (lv_sub hl [1, 2, 3, 4, 5] rfl)
          · have hc741 : ¬ (v3.toInt = 0) := fun h9 => c9 ((fi_eq rfl (show (0 : Int32).toInt = 0 by decide)).mpr h9)
            refine lv_aload_n hx hb dX10_hearOne_62 rfl (lv_at hl 4 rfl) ?_
            refine tk_get (ci := 10) (C := RX10) (T := TX10) (N := 3) (sp := (6, 9, 0, 0)) hx hb htl inX10 hown hK hG ht_a0 (by decide) tk_no rfl 1 (by decide) (htl _ mw_182) (fun _ h9 => h9) rfl dX10_hearOne_63 (fun v9 hf764 hV9 => ?_)
            obtain ⟨b765, rfl, ht_b765⟩ := hV9
            have ht_b765 : t b765 = (9, 0, 0) := ht_b765
            refine lv_iload hx hb dX10_hearOne_66 (lv_at hl 0 rfl) ?_
            refine tk_Vi (As := [.int v705]) (rest := [.int v705, .int 0]) (ci := 8) ⟨hx, hb, hml, hown, hts⟩ hK hG hZ hS (k_X8_lullsAt l D cy ld t b765 v705 ht_b765) trivial ⟨callB_of 1 hts (wl_in mw_1536) rfl rfl rfl (htl _ mw_21) (htl _ mw_1533) hd_yX8_lullsAt ⟨(Nat.le_of_ble_eq_true rfl), (Nat.le_of_ble_eq_true rfl)⟩, htl _ mw_1534, htl _ mw_1535⟩ ht_b765 (by decide) tk_no rfl (tk_w.pick [0, 1, 2] rfl) rfl hl.1 rfl (Nat.le_of_ble_eq_true rfl) dX10_hearOne_68 ⟨(Nat.le_of_ble_eq_true rfl), (Nat.le_of_ble_eq_true rfl)⟩ (fun v766 H locs hpo hG hS hq9 => ?_)
            refine lv_goto (tgt := 75) hx hb dX10_hearOne_71 (by decide) ?_
            exact hj750 v766 _ _ hG hS _ (lv_sub hl [1, 2, 3, 4, 5] rfl)
        · have hc706 : ¬ (0 < v705.toInt) := fun h9 => c9 ((fi_lt (show (0 : Int32).toInt = 0 by decide) rfl).mpr h9)
          refine lv_aload_n hx hb dX10_hearOne_44 rfl (lv_at hl 4 rfl) ?_
          refine tk_get (ci := 10) (C := RX10) (T := TX10) (N := 3) (sp := (6, 20, 1000, 0)) hx hb htl inX10 hown hK hG ht_a0 (by decide) tk_no rfl 2 (by decide) (htl _ mw_180) (fun _ h9 => h9) rfl dX10_hearOne_45 (fun v9 hf768 hV9 => ?_)
          obtain ⟨b769, rfl, ht_b769⟩ := hV9
          have ht_b769 : t b769 = (20, 1000, 0) := ht_b769
          refine lv_iload hx hb dX10_hearOne_48 (lv_at hl 1 rfl) ?_
          refine lv_iconst (v := (-1)) hx hb dX10_hearOne_50 (by decide) ?_
          refine tk_iast hx hb hK hG hS ht_b769 (by decide) (fun _ => Iff.rfl) tk_no rfl (by omega) (by omega) trivial (tk_w.of ht_b769 (by decide) (List.mem_of_getElem? (i := 0) rfl) (Nat.le_refl _) (Nat.le_refl _)) dX10_hearOne_51 (fun H locs hG hS hq9 => ?_)
          refine lv_goto (tgt := 108) hx hb dX10_hearOne_52 (by decide) ?_
          exact hj739 _ _ hG hS _ (lv_sub hl [1, 2, 3, 4, 5] rfl)
  have hk_1 : (1 : Int32).toInt = 1 := by decide
  exact hl701 1000 1 _ _ (by omega) (by omega) (by omega) hG hS _ (lv_sub hl [0, 1, 2, 3, 4] rfl)
theorem dX10_hearAll_0 : decode cX10_hearAll 0 = .ok (.iconst 0, 1) := by decide +kernel
theorem dX10_hearAll_1 : decode cX10_hearAll 1 = .ok (.istore_n 2, 1) := by decide +kernel
theorem dX10_hearAll_2 : decode cX10_hearAll 2 = .ok (.iload_n 2, 1) := by decide +kernel
theorem dX10_hearAll_3 : decode cX10_hearAll 3 = .ok (.sipush 999, 3) := by decide +kernel
theorem dX10_hearAll_6 : decode cX10_hearAll 6 = .ok (.if_icmp .gt 16, 3) := by decide +kernel
theorem dX10_hearAll_22 : decode cX10_hearAll 22 = .ok (.aload_n 0, 1) := by decide +kernel
theorem dX10_hearAll_23 : decode cX10_hearAll 23 = .ok (.getfield 15, 3) := by decide +kernel
theorem dX10_hearAll_26 : decode cX10_hearAll 26 = .ok (.getfield 49, 3) := by decide +kernel
theorem dX10_hearAll_29 : decode cX10_hearAll 29 = .ok (.astore_n 2, 1) := by decide +kernel
theorem dX10_hearAll_30 : decode cX10_hearAll 30 = .ok (.iconst 0, 1) := by decide +kernel
theorem dX10_hearAll_31 : decode cX10_hearAll 31 = .ok (.istore_n 3, 1) := by decide +kernel
theorem dX10_hearAll_32 : decode cX10_hearAll 32 = .ok (.iload_n 3, 1) := by decide +kernel
theorem dX10_hearAll_33 : decode cX10_hearAll 33 = .ok (.aload_n 0, 1) := by decide +kernel
theorem dX10_hearAll_34 : decode cX10_hearAll 34 = .ok (.getfield 15, 3) := by decide +kernel
theorem dX10_hearAll_37 : decode cX10_hearAll 37 = .ok (.getfield 52, 3) := by decide +kernel
theorem dX10_hearAll_40 : decode cX10_hearAll 40 = .ok (.if_icmp .ge 63, 3) := by decide +kernel
theorem dX10_hearAll_103 : decode cX10_hearAll 103 = .ok (.return_, 1) := by decide +kernel
theorem dX10_hearAll_43 : decode cX10_hearAll 43 = .ok (.iload_n 3, 1) := by decide +kernel
theorem dX10_hearAll_44 : decode cX10_hearAll 44 = .ok (.iconst 5, 1) := by decide +kernel
theorem dX10_hearAll_45 : decode cX10_hearAll 45 = .ok (.imul, 1) := by decide +kernel
theorem dX10_hearAll_46 : decode cX10_hearAll 46 = .ok (.istore 4, 2) := by decide +kernel
theorem dX10_hearAll_48 : decode cX10_hearAll 48 = .ok (.aload_n 0, 1) := by decide +kernel
theorem dX10_hearAll_49 : decode cX10_hearAll 49 = .ok (.getfield 19, 3) := by decide +kernel
theorem dX10_hearAll_52 : decode cX10_hearAll 52 = .ok (.aload_n 2, 1) := by decide +kernel
theorem dX10_hearAll_53 : decode cX10_hearAll 53 = .ok (.iload 4, 2) := by decide +kernel
theorem dX10_hearAll_55 : decode cX10_hearAll 55 = .ok (.iaload, 1) := by decide +kernel
theorem dX10_hearAll_56 : decode cX10_hearAll 56 = .ok (.aload_n 2, 1) := by decide +kernel
theorem dX10_hearAll_57 : decode cX10_hearAll 57 = .ok (.iload 4, 2) := by decide +kernel
theorem dX10_hearAll_59 : decode cX10_hearAll 59 = .ok (.iconst 1, 1) := by decide +kernel
theorem dX10_hearAll_60 : decode cX10_hearAll 60 = .ok (.iadd, 1) := by decide +kernel
theorem dX10_hearAll_61 : decode cX10_hearAll 61 = .ok (.iaload, 1) := by decide +kernel
theorem dX10_hearAll_62 : decode cX10_hearAll 62 = .ok (.aload_n 2, 1) := by decide +kernel
theorem dX10_hearAll_63 : decode cX10_hearAll 63 = .ok (.iload 4, 2) := by decide +kernel
theorem dX10_hearAll_65 : decode cX10_hearAll 65 = .ok (.iconst 2, 1) := by decide +kernel
theorem dX10_hearAll_66 : decode cX10_hearAll 66 = .ok (.iadd, 1) := by decide +kernel
theorem dX10_hearAll_67 : decode cX10_hearAll 67 = .ok (.iaload, 1) := by decide +kernel
theorem dX10_hearAll_68 : decode cX10_hearAll 68 = .ok (.aload_n 2, 1) := by decide +kernel
theorem dX10_hearAll_69 : decode cX10_hearAll 69 = .ok (.iload 4, 2) := by decide +kernel
theorem dX10_hearAll_71 : decode cX10_hearAll 71 = .ok (.iconst 3, 1) := by decide +kernel
theorem dX10_hearAll_72 : decode cX10_hearAll 72 = .ok (.iadd, 1) := by decide +kernel
theorem dX10_hearAll_73 : decode cX10_hearAll 73 = .ok (.iaload, 1) := by decide +kernel
theorem dX10_hearAll_74 : decode cX10_hearAll 74 = .ok (.iload_n 1, 1) := by decide +kernel
theorem dX10_hearAll_75 : decode cX10_hearAll 75 = .ok (.invokevirtual 33, 3) := by decide +kernel
theorem dX10_hearAll_78 : decode cX10_hearAll 78 = .ok (.aload_n 0, 1) := by decide +kernel
theorem dX10_hearAll_79 : decode cX10_hearAll 79 = .ok (.aload_n 2, 1) := by decide +kernel
theorem dX10_hearAll_80 : decode cX10_hearAll 80 = .ok (.iload 4, 2) := by decide +kernel
theorem dX10_hearAll_82 : decode cX10_hearAll 82 = .ok (.iconst 4, 1) := by decide +kernel
theorem dX10_hearAll_83 : decode cX10_hearAll 83 = .ok (.iadd, 1) := by decide +kernel
theorem dX10_hearAll_84 : decode cX10_hearAll 84 = .ok (.iaload, 1) := by decide +kernel
theorem dX10_hearAll_85 : decode cX10_hearAll 85 = .ok (.iconst 1, 1) := by decide +kernel
theorem dX10_hearAll_94 : decode cX10_hearAll 94 = .ok (.invokevirtual 55, 3) := by decide +kernel
theorem dX10_hearAll_97 : decode cX10_hearAll 97 = .ok (.iinc 3 1, 3) := by decide +kernel
theorem dX10_hearAll_100 : decode cX10_hearAll 100 = .ok (.goto (-68), 3) := by decide +kernel
theorem dX10_hearAll_86 : decode cX10_hearAll 86 = .ok (.if_icmp .ne 7, 3) := by decide +kernel
theorem dX10_hearAll_93 : decode cX10_hearAll 93 = .ok (.iconst 0, 1) := by decide +kernel
theorem dX10_hearAll_89 : decode cX10_hearAll 89 = .ok (.iconst 1, 1) := by decide +kernel
theorem dX10_hearAll_90 : decode cX10_hearAll 90 = .ok (.goto 4, 3) := by decide +kernel
theorem dX10_hearAll_9 : decode cX10_hearAll 9 = .ok (.aload_n 0, 1) := by decide +kernel
theorem dX10_hearAll_10 : decode cX10_hearAll 10 = .ok (.getfield 9, 3) := by decide +kernel
theorem dX10_hearAll_13 : decode cX10_hearAll 13 = .ok (.iload_n 2, 1) := by decide +kernel
theorem dX10_hearAll_14 : decode cX10_hearAll 14 = .ok (.iload_n 2, 1) := by decide +kernel
theorem dX10_hearAll_15 : decode cX10_hearAll 15 = .ok (.iastore, 1) := by decide +kernel
theorem dX10_hearAll_16 : decode cX10_hearAll 16 = .ok (.iinc 2 1, 3) := by decide +kernel
theorem dX10_hearAll_19 : decode cX10_hearAll 19 = .ok (.goto (-17), 3) := by decide +kernel
set_option maxHeartbeats 4000000 in
set_option maxRecDepth 100000 in
theorem k_X10_hearAll (l : Launch) (D : va_G) (cy : Nat → ClassId) (ld : Nat → Nat) (t : tk_T) (a0 : Nat) (p1 : Int32) (ht_a0 : t a0 = (11, 0, 0)) : Met l yX10_hearAll (wl yX10_hearAll cX10_hearAll 5 none) ({ frames := 8, cells := 0, slots := 0, locals := 490 }) (tp D cy ld t [] [.ref a0, .int p1] (fun H => True)) (tv D cy ld t [] (fun H => True) (tk_w t [(20, 0, 0), (12, 0, 0), (9, 0, 0)])) 0 0 (tk_w t [(20, 0, 0), (12, 0, 0), (9, 0, 0)]) := by
  refine tk_met (y := yX10_hearAll) (cc := cX10_hearAll) (maxL := 5) (ret := none) (av := [.ref a0, .int p1]) _ _ (by decide) (Nat.le_of_ble_eq_true rfl) ?_
  intro p e s m args below meth c hx hb hr hml hts htl hown hlocks hK H locs hH hG hS hB hZ ls hl
  have hown : s.vm.findClass RX10 = some m.cls := hown
  have hl : lv_has ls 5 [(0, .ref a0), (1, .int p1)] := hl
  have hr_p1 := tk_rng p1
  refine lv_iconst (v := 0) hx hb dX10_hearAll_0 (by decide) ?_
  refine lv_istore_n (lv' := [(2, .int 0), (0, .ref a0), (1, .int p1)]) hx hb dX10_hearAll_1 rfl hl (by decide) rfl (fun ls hl => ?_)
  have hl1213 : ∀ (N_l1213 : Nat) (v1 : Int32) (H : Heap) (locs : List Loc), v1.toInt ≤ 1000 → 0 ≤ v1.toInt → (-1) * v1.toInt + 1000 < (N_l1213 : Int) → tk_G D cy ld t [] H → va_S (tk_w t [(20, 0, 0), (12, 0, 0), (9, 0, 0)]) s.heap H locs → ∀ ls : Array Slot, lv_has ls 5 [(2, .int v1), (0, .ref a0), (1, .int p1)] → W p l e ({ frames := 8, cells := 0, slots := 0, locals := 490 }) s m args below meth c H locs 0 0 (MQ below (tv D cy ld t [] (fun H => True) (tk_w t [(20, 0, 0), (12, 0, 0), (9, 0, 0)])) args s 0 0 (tk_w t [(20, 0, 0), (12, 0, 0), (9, 0, 0)])) (F0 m 2 ls []) := by
    intro N_l1213
    induction N_l1213 with
    | zero => intro v1 H locs hq0_l1213 hq1_l1213 hm_l1213 hG hS ls hl; exfalso; omega
    | succ N_l1213 ih_l1213 =>
      intro v1 H locs hq0_l1213 hq1_l1213 hm_l1213 hG hS ls hl
      refine lv_iload_n hx hb dX10_hearAll_2 rfl (lv_at hl 0 rfl) ?_
      refine lv_sipush (v := 999) hx hb dX10_hearAll_3 (by decide) ?_
      refine lv_icmp_gt (tgt := 22) hx hb dX10_hearAll_6 (by decide) (fun c9 => ?_) (fun c9 => ?_)
      · have hc1214 : 999 < v1.toInt := (fi_lt (show (999 : Int32).toInt = 999 by decide) rfl).mp c9
        refine lv_aload_n hx hb dX10_hearAll_22 rfl (lv_at hl 1 rfl) ?_
        refine tk_get (ci := 10) (C := RX10) (T := TX10) (N := 3) (sp := (8, 20, 3, 0)) hx hb htl inX10 hown hK hG ht_a0 (by decide) tk_no rfl 0 (by decide) (htl _ mw_181) (fun _ h9 => h9) rfl dX10_hearAll_23 (fun v9 hf1219 hV9 => ?_)
        obtain ⟨rfl, ht_ld20⟩ := hV9
        have ht_ld20 : t (ld 20) = (3, 0, 0) := ht_ld20
        refine fx_top (v := .ref (ld 20)) rfl ?_
        refine tk_get (ci := 2) (C := RX2) (T := TX2) (N := 20) (sp := (1, 24, 40, 0)) hx hb htl inX2 hown hK hG ht_ld20 (by decide) tk_no rfl 12 (by decide) (htl _ mw_1516) (fun _ h9 => h9) rfl dX10_hearAll_26 (fun v9 hf1220 hV9 => ?_)
        obtain ⟨b1221, rfl, ht_b1221⟩ := hV9
        have ht_b1221 : t b1221 = (24, 40, 0) := ht_b1221
        refine lv_astore_n (lv' := [(2, .ref b1221), (0, .ref a0), (1, .int p1)]) hx hb dX10_hearAll_29 rfl hl (by decide) rfl (fun ls hl => ?_)
        refine lv_iconst (v := 0) hx hb dX10_hearAll_30 (by decide) ?_
        refine lv_istore_n (lv' := [(3, .int 0), (2, .ref b1221), (0, .ref a0), (1, .int p1)]) hx hb dX10_hearAll_31 rfl hl (by decide) rfl (fun ls hl => ?_)
        have hl1385 : ∀ (N_l1385 : Nat) (v1222 : Int32) (H : Heap) (locs : List Loc), v1222.toInt ≤ 8 → 0 ≤ v1222.toInt → (-1) * v1222.toInt + 8 < (N_l1385 : Int) → tk_G D cy ld t [] H → va_S (tk_w t [(20, 0, 0), (12, 0, 0), (9, 0, 0)]) s.heap H locs → ∀ ls : Array Slot, lv_has ls 5 [(3, .int v1222), (2, .ref b1221), (0, .ref a0), (1, .int p1)] → W p l e ({ frames := 8, cells := 0, slots := 0, locals := 490 }) s m args below meth c H locs 0 0 (MQ below (tv D cy ld t [] (fun H => True) (tk_w t [(20, 0, 0), (12, 0, 0), (9, 0, 0)])) args s 0 0 (tk_w t [(20, 0, 0), (12, 0, 0), (9, 0, 0)])) (F0 m 32 ls []) := by
          intro N_l1385
          induction N_l1385 with
          | zero => intro v1222 H locs hq0_l1385 hq1_l1385 hm_l1385 hG hS ls hl; exfalso; omega
          | succ N_l1385 ih_l1385 =>
            intro v1222 H locs hq0_l1385 hq1_l1385 hm_l1385 hG hS ls hl
            refine lv_iload_n hx hb dX10_hearAll_32 rfl (lv_at hl 0 rfl) ?_
            refine lv_aload_n hx hb dX10_hearAll_33 rfl (lv_at hl 2 rfl) ?_
            refine tk_get (ci := 10) (C := RX10) (T := TX10) (N := 3) (sp := (8, 20, 3, 0)) hx hb htl inX10 hown hK hG ht_a0 (by decide) tk_no rfl 0 (by decide) (htl _ mw_181) (fun _ h9 => h9) rfl dX10_hearAll_34 (fun v9 hf1386 hV9 => ?_)
            obtain ⟨rfl, ht_ld20⟩ := hV9
            have ht_ld20 : t (ld 20) = (3, 0, 0) := ht_ld20
            refine fx_top (v := .ref (ld 20)) rfl ?_
            refine tk_get (ci := 2) (C := RX2) (T := TX2) (N := 20) (sp := (0, 0, 8, 0)) hx hb htl inX2 hown hK hG ht_ld20 (by decide) tk_no rfl 11 (by decide) (htl _ mw_1517) (fun _ h9 => h9) rfl dX10_hearAll_37 (fun v9 hf1387 hV9 => ?_)
            obtain ⟨v1388, rfl, (ha_v1388 : 0 ≤ v1388.toInt), (hb_v1388 : v1388.toInt ≤ 8)⟩ := hV9
            refine lv_icmp_ge (tgt := 103) hx hb dX10_hearAll_40 (by decide) (fun c9 => ?_) (fun c9 => ?_)
            · have hc1389 : v1388.toInt ≤ v1222.toInt := (fi_le rfl rfl).mp c9
              exact tk_vret hx hb hr hlocks trivial hG hS dX10_hearAll_103
            · have hc1389 : ¬ (v1388.toInt ≤ v1222.toInt) := fun h9 => c9 ((fi_le rfl rfl).mpr h9)
              refine lv_iload_n hx hb dX10_hearAll_43 rfl (lv_at hl 0 rfl) ?_
              refine lv_iconst (v := 5) hx hb dX10_hearAll_44 (by decide) ?_
              refine lv_imul hx hb dX10_hearAll_45 ?_
              refine tk_mul rfl (show (5 : Int32).toInt = 5 by decide) (by omega) (by omega) (fun v1390 h_v1390 => ?_)
              refine lv_istore (lv' := [(4, .int v1390), (3, .int v1222), (2, .ref b1221), (0, .ref a0), (1, .int p1)]) hx hb dX10_hearAll_46 hl (by decide) rfl (fun ls hl => ?_)
              refine lv_aload_n hx hb dX10_hearAll_48 rfl (lv_at hl 3 rfl) ?_
              refine tk_get (ci := 10) (C := RX10) (T := TX10) (N := 3) (sp := (6, 9, 0, 0)) hx hb htl inX10 hown hK hG ht_a0 (by decide) tk_no rfl 1 (by decide) (htl _ mw_182) (fun _ h9 => h9) rfl dX10_hearAll_49 (fun v9 hf1391 hV9 => ?_)
              obtain ⟨b1392, rfl, ht_b1392⟩ := hV9
              have ht_b1392 : t b1392 = (9, 0, 0) := ht_b1392
              refine lv_aload_n hx hb dX10_hearAll_52 rfl (lv_at hl 2 rfl) ?_
              refine lv_iload hx hb dX10_hearAll_53 (lv_at hl 0 rfl) ?_
              refine tk_iald hx hb hK hG ht_b1221 (by decide) (fun _ h => h) tk_no rfl (by omega) (by omega) dX10_hearAll_55 (fun v1393 hE9 _ => ?_)
              have he_v1393 : 0 ≤ v1393.toInt ∧ v1393.toInt ≤ 11 ∧ (v1390.toInt % 5 = 0 → v1393.toInt ≤ 9) ∧ (v1390.toInt % 5 = 1 → v1393.toInt ≤ 7) := hE9
              refine lv_aload_n hx hb dX10_hearAll_56 rfl (lv_at hl 2 rfl) ?_
              refine lv_iload hx hb dX10_hearAll_57 (lv_at hl 0 rfl) ?_
              refine lv_iconst (v := 1) hx hb dX10_hearAll_59 (by decide) ?_
              refine lv_iadd hx hb dX10_hearAll_60 ?_
              refine tk_add rfl (show (1 : Int32).toInt = 1 by decide) (by omega) (by omega) (fun v1394 h_v1394 => ?_)
              refine tk_iald hx hb hK hG ht_b1221 (by decide) (fun _ h => h) tk_no rfl (by omega) (by omega) dX10_hearAll_61 (fun v1395 hE9 _ => ?_)
              have he_v1395 : 0 ≤ v1395.toInt ∧ v1395.toInt ≤ 11 ∧ (v1394.toInt % 5 = 0 → v1395.toInt ≤ 9) ∧ (v1394.toInt % 5 = 1 → v1395.toInt ≤ 7) := hE9
              refine lv_aload_n hx hb dX10_hearAll_62 rfl (lv_at hl 2 rfl) ?_
              refine lv_iload hx hb dX10_hearAll_63 (lv_at hl 0 rfl) ?_
              refine lv_iconst (v := 2) hx hb dX10_hearAll_65 (by decide) ?_
              refine lv_iadd hx hb dX10_hearAll_66 ?_
              refine tk_add rfl (show (2 : Int32).toInt = 2 by decide) (by omega) (by omega) (fun v1396 h_v1396 => ?_)
              refine tk_iald hx hb hK hG ht_b1221 (by decide) (fun _ h => h) tk_no rfl (by omega) (by omega) dX10_hearAll_67 (fun v1397 hE9 _ => ?_)
              have he_v1397 : 0 ≤ v1397.toInt ∧ v1397.toInt ≤ 11 ∧ (v1396.toInt % 5 = 0 → v1397.toInt ≤ 9) ∧ (v1396.toInt % 5 = 1 → v1397.toInt ≤ 7) := hE9
              refine lv_aload_n hx hb dX10_hearAll_68 rfl (lv_at hl 2 rfl) ?_
              refine lv_iload hx hb dX10_hearAll_69 (lv_at hl 0 rfl) ?_
              refine lv_iconst (v := 3) hx hb dX10_hearAll_71 (by decide) ?_
              refine lv_iadd hx hb dX10_hearAll_72 ?_
              refine tk_add rfl (show (3 : Int32).toInt = 3 by decide) (by omega) (by omega) (fun v1398 h_v1398 => ?_)
              refine tk_iald hx hb hK hG ht_b1221 (by decide) (fun _ h => h) tk_no rfl (by omega) (by omega) dX10_hearAll_73 (fun v1399 hE9 _ => ?_)
              have he_v1399 : 0 ≤ v1399.toInt ∧ v1399.toInt ≤ 11 ∧ (v1398.toInt % 5 = 0 → v1399.toInt ≤ 9) ∧ (v1398.toInt % 5 = 1 → v1399.toInt ≤ 7) := hE9
              refine lv_iload_n hx hb dX10_hearAll_74 rfl (lv_at hl 4 rfl) ?_
              refine tk_Vv (As := [.int v1393, .int v1395, .int v1397, .int v1399, .int p1]) (rest := []) (ci := 8) ⟨hx, hb, hml, hown, hts⟩ hK hG hZ hS (k_X8_setStranger l D cy ld t b1392 v1393 v1395 v1397 v1399 p1 ht_b1392 (by omega) (by omega) (by omega) (by omega)) trivial ⟨callB_of 5 hts (wl_in mw_1521) rfl rfl rfl (htl _ mw_21) (htl _ mw_1518) hd_yX8_setStranger ⟨(Nat.le_of_ble_eq_true rfl), (Nat.le_of_ble_eq_true rfl)⟩, htl _ mw_1519, htl _ mw_1520⟩ ht_b1392 (by decide) tk_no rfl (tk_w.pick [0] rfl) rfl hl.1 rfl (Nat.le_of_ble_eq_true rfl) dX10_hearAll_75 ⟨(Nat.le_of_ble_eq_true rfl), (Nat.le_of_ble_eq_true rfl)⟩ (fun H locs hpo hG hS hq9 => ?_)
              have hf1387 := hf1387.call hq9 (tk_w.no ht_ld20 (by decide))
              refine lv_aload_n hx hb dX10_hearAll_78 rfl (lv_at hl 3 rfl) ?_
              refine lv_aload_n hx hb dX10_hearAll_79 rfl (lv_at hl 2 rfl) ?_
              refine lv_iload hx hb dX10_hearAll_80 (lv_at hl 0 rfl) ?_
              refine lv_iconst (v := 4) hx hb dX10_hearAll_82 (by decide) ?_
              refine lv_iadd hx hb dX10_hearAll_83 ?_
              refine tk_add rfl (show (4 : Int32).toInt = 4 by decide) (by omega) (by omega) (fun v1401 h_v1401 => ?_)
              refine tk_iald hx hb hK hG ht_b1221 (by decide) (fun _ h => h) tk_no rfl (by omega) (by omega) dX10_hearAll_84 (fun v1402 hE9 _ => ?_)
              have he_v1402 : 0 ≤ v1402.toInt ∧ v1402.toInt ≤ 11 ∧ (v1401.toInt % 5 = 0 → v1402.toInt ≤ 9) ∧ (v1401.toInt % 5 = 1 → v1402.toInt ≤ 7) := hE9
              refine lv_iconst (v := 1) hx hb dX10_hearAll_85 (by decide) ?_
              have hj1406 : ∀ (v1405 : Int32), 0 ≤ v1405.toInt → v1405.toInt ≤ 1 → ∀ ls : Array Slot, lv_has ls 5 [(3, .int v1222), (2, .ref b1221), (0, .ref a0), (1, .int p1)] → W p l e ({ frames := 8, cells := 0, slots := 0, locals := 490 }) s m args below meth c H locs 0 0 (MQ below (tv D cy ld t [] (fun H => True) (tk_w t [(20, 0, 0), (12, 0, 0), (9, 0, 0)])) args s 0 0 (tk_w t [(20, 0, 0), (12, 0, 0), (9, 0, 0)])) (F0 m 94 ls [.int v1405, .ref a0]) := by
                intro v1405 hq0_j1406 hq1_j1406 ls hl
                refine tk_Vv (As := [.int v1405]) (rest := []) (ci := 10) ⟨hx, hb, hml, hown, hts⟩ hK hG hZ hS (k_X10_hearOne l D cy ld t a0 v1405 ht_a0 (by omega) (by omega)) trivial ⟨callB_of 1 hts (wl_in mw_1526) rfl rfl rfl (htl _ mw_52) (htl _ mw_1523) hd_yX10_hearOne ⟨(Nat.le_of_ble_eq_true rfl), (Nat.le_of_ble_eq_true rfl)⟩, htl _ mw_1524, htl _ mw_1525⟩ ht_a0 (by decide) tk_no rfl (tk_w.pick [0, 1, 2] rfl) rfl hl.1 rfl (Nat.le_of_ble_eq_true rfl) dX10_hearAll_94 ⟨(Nat.le_of_ble_eq_true rfl), (Nat.le_of_ble_eq_true rfl)⟩ (fun H locs hpo hG hS hq9 => ?_)
                have hf1387 := hf1387.call hq9 (tk_w.no ht_ld20 (by decide))
                obtain ⟨v1408, h_v1408, e_v1408⟩ := tk_inc v1222 1 (by decide) (by omega) (by omega)
                refine lv_iinc (v := v1408) (lv' := [(3, .int v1408), (2, .ref b1221), (0, .ref a0), (1, .int p1)]) hx hb dX10_hearAll_97 hl (k := 0) rfl e_v1408 (by decide) rfl (fun ls hl => ?_)
                refine lv_goto (tgt := 32) hx hb dX10_hearAll_100 (by decide) ?_
                exact ih_l1385 v1408 _ _ (by omega) (by omega) (by omega) hG hS _ (lv_sub hl [0, 1, 2, 3] rfl)
              refine lv_icmp_ne (tgt := 93) hx hb dX10_hearAll_86 (by decide) (fun c9 => ?_) (fun c9 => ?_)
              · have hc1403 : ¬ (v1402.toInt = 1) := fun h9 => c9 ((fi_eq rfl (show (1 : Int32).toInt = 1 by decide)).mpr h9)
                refine lv_iconst (v := 0) hx hb dX10_hearAll_93 (by decide) ?_
                have hk_0 : (0 : Int32).toInt = 0 := by decide
                exact hj1406 0 (by omega) (by omega) _ (lv_sub hl [1, 2, 3, 4] rfl)
              · have hc1403 : v1402.toInt = 1 := (fi_eq rfl (show (1 : Int32).toInt = 1 by decide)).mp c9
                refine lv_iconst (v := 1) hx hb dX10_hearAll_89 (by decide) ?_
                refine lv_goto (tgt := 94) hx hb dX10_hearAll_90 (by decide) ?_
                have hk_1 : (1 : Int32).toInt = 1 := by decide
                exact hj1406 1 (by omega) (by omega) _ (lv_sub hl [1, 2, 3, 4] rfl)
        have hk_0 : (0 : Int32).toInt = 0 := by decide
        exact hl1385 9 0 _ _ (by omega) (by omega) (by omega) hG hS _ (lv_sub hl [0, 1, 2, 3] rfl)
      · have hc1214 : ¬ (999 < v1.toInt) := fun h9 => c9 ((fi_lt (show (999 : Int32).toInt = 999 by decide) rfl).mpr h9)
        refine lv_aload_n hx hb dX10_hearAll_9 rfl (lv_at hl 1 rfl) ?_
        refine tk_get (ci := 10) (C := RX10) (T := TX10) (N := 3) (sp := (6, 20, 1000, 0)) hx hb htl inX10 hown hK hG ht_a0 (by decide) tk_no rfl 2 (by decide) (htl _ mw_180) (fun _ h9 => h9) rfl dX10_hearAll_10 (fun v9 hf1409 hV9 => ?_)
        obtain ⟨b1410, rfl, ht_b1410⟩ := hV9
        have ht_b1410 : t b1410 = (20, 1000, 0) := ht_b1410
        refine lv_iload_n hx hb dX10_hearAll_13 rfl (lv_at hl 0 rfl) ?_
        refine lv_iload_n hx hb dX10_hearAll_14 rfl (lv_at hl 0 rfl) ?_
        refine tk_iast hx hb hK hG hS ht_b1410 (by decide) (fun _ => Iff.rfl) tk_no rfl (by omega) (by omega) trivial (tk_w.of ht_b1410 (by decide) (List.mem_of_getElem? (i := 0) rfl) (Nat.le_refl _) (Nat.le_refl _)) dX10_hearAll_15 (fun H locs hG hS hq9 => ?_)
        obtain ⟨v1412, h_v1412, e_v1412⟩ := tk_inc v1 1 (by decide) (by omega) (by omega)
        refine lv_iinc (v := v1412) (lv' := [(2, .int v1412), (0, .ref a0), (1, .int p1)]) hx hb dX10_hearAll_16 hl (k := 0) rfl e_v1412 (by decide) rfl (fun ls hl => ?_)
        refine lv_goto (tgt := 2) hx hb dX10_hearAll_19 (by decide) ?_
        exact ih_l1213 v1412 _ _ (by omega) (by omega) (by omega) hG hS _ (lv_sub hl [0, 1, 2] rfl)
  have hk_0 : (0 : Int32).toInt = 0 := by decide
  exact hl1213 1001 0 _ _ (by omega) (by omega) (by omega) hG hS _ (lv_sub hl [0, 1, 2] rfl)
theorem dX10_leastWake_0 : decode cX10_leastWake 0 = .ok (.aload_n 0, 1) := by decide +kernel
theorem dX10_leastWake_1 : decode cX10_leastWake 1 = .ok (.iload_n 1, 1) := by decide +kernel
theorem dX10_leastWake_2 : decode cX10_leastWake 2 = .ok (.invokevirtual 23, 3) := by decide +kernel
theorem dX10_leastWake_5 : decode cX10_leastWake 5 = .ok (.iconst 1, 1) := by decide +kernel
theorem dX10_leastWake_6 : decode cX10_leastWake 6 = .ok (.istore_n 2, 1) := by decide +kernel
theorem dX10_leastWake_7 : decode cX10_leastWake 7 = .ok (.iload_n 2, 1) := by decide +kernel
theorem dX10_leastWake_8 : decode cX10_leastWake 8 = .ok (.sipush 999, 3) := by decide +kernel
theorem dX10_leastWake_11 : decode cX10_leastWake 11 = .ok (.if_icmp .gt 21, 3) := by decide +kernel
theorem dX10_leastWake_32 : decode cX10_leastWake 32 = .ok (.iconst (-1), 1) := by decide +kernel
theorem dX10_leastWake_33 : decode cX10_leastWake 33 = .ok (.ireturn, 1) := by decide +kernel
theorem dX10_leastWake_14 : decode cX10_leastWake 14 = .ok (.aload_n 0, 1) := by decide +kernel
theorem dX10_leastWake_15 : decode cX10_leastWake 15 = .ok (.getfield 9, 3) := by decide +kernel
theorem dX10_leastWake_18 : decode cX10_leastWake 18 = .ok (.iload_n 2, 1) := by decide +kernel
theorem dX10_leastWake_19 : decode cX10_leastWake 19 = .ok (.iaload, 1) := by decide +kernel
theorem dX10_leastWake_20 : decode cX10_leastWake 20 = .ok (.iconst (-1), 1) := by decide +kernel
theorem dX10_leastWake_21 : decode cX10_leastWake 21 = .ok (.if_icmp .eq 5, 3) := by decide +kernel
theorem dX10_leastWake_26 : decode cX10_leastWake 26 = .ok (.iinc 2 1, 3) := by decide +kernel
theorem dX10_leastWake_29 : decode cX10_leastWake 29 = .ok (.goto (-22), 3) := by decide +kernel
theorem dX10_leastWake_24 : decode cX10_leastWake 24 = .ok (.iload_n 2, 1) := by decide +kernel
theorem dX10_leastWake_25 : decode cX10_leastWake 25 = .ok (.ireturn, 1) := by decide +kernel
set_option maxHeartbeats 4000000 in
set_option maxRecDepth 100000 in
theorem k_X10_leastWake (l : Launch) (D : va_G) (cy : Nat → ClassId) (ld : Nat → Nat) (t : tk_T) (a0 : Nat) (p1 : Int32) (ht_a0 : t a0 = (11, 0, 0)) : Met l yX10_leastWake (wl yX10_leastWake cX10_leastWake 3 (some .int)) ({ frames := 9, cells := 0, slots := 0, locals := 560 }) (tp D cy ld t [] [.ref a0, .int p1] (fun H => True)) (ti D cy ld t [] (fun r H => (-1) ≤ r.toInt ∧ r.toInt ≤ 999) (tk_w t [(20, 0, 0), (12, 0, 0), (9, 0, 0)])) 0 0 (tk_w t [(20, 0, 0), (12, 0, 0), (9, 0, 0)]) := by
  refine tk_met (y := yX10_leastWake) (cc := cX10_leastWake) (maxL := 3) (ret := (some .int)) (av := [.ref a0, .int p1]) _ _ (by decide) (Nat.le_of_ble_eq_true rfl) ?_
  intro p e s m args below meth c hx hb hr hml hts htl hown hlocks hK H locs hH hG hS hB hZ ls hl
  have hown : s.vm.findClass RX10 = some m.cls := hown
  have hl : lv_has ls 3 [(0, .ref a0), (1, .int p1)] := hl
  have hr_p1 := tk_rng p1
  refine lv_aload_n hx hb dX10_leastWake_0 rfl (lv_at hl 0 rfl) ?_
  refine lv_iload_n hx hb dX10_leastWake_1 rfl (lv_at hl 1 rfl) ?_
  refine tk_Vv (As := [.int p1]) (rest := []) (ci := 10) ⟨hx, hb, hml, hown, hts⟩ hK hG hZ hS (k_X10_hearAll l D cy ld t a0 p1 ht_a0) trivial ⟨callB_of 1 hts (wl_in mw_1515) rfl rfl rfl (htl _ mw_52) (htl _ mw_1512) hd_yX10_hearAll ⟨(Nat.le_of_ble_eq_true rfl), (Nat.le_of_ble_eq_true rfl)⟩, htl _ mw_1513, htl _ mw_1514⟩ ht_a0 (by decide) tk_no rfl (tk_w.pick [0, 1, 2] rfl) rfl hl.1 rfl (Nat.le_of_ble_eq_true rfl) dX10_leastWake_2 ⟨(Nat.le_of_ble_eq_true rfl), (Nat.le_of_ble_eq_true rfl)⟩ (fun H locs hpo hG hS hq9 => ?_)
  refine lv_iconst (v := 1) hx hb dX10_leastWake_5 (by decide) ?_
  refine lv_istore_n (lv' := [(2, .int 1), (0, .ref a0), (1, .int p1)]) hx hb dX10_leastWake_6 rfl hl (by decide) rfl (fun ls hl => ?_)
  have hl67 : ∀ (N_l67 : Nat) (v10 : Int32), v10.toInt ≤ 1000 → 1 ≤ v10.toInt → (-1) * v10.toInt + 1000 < (N_l67 : Int) → ∀ ls : Array Slot, lv_has ls 3 [(2, .int v10), (0, .ref a0)] → W p l e ({ frames := 9, cells := 0, slots := 0, locals := 560 }) s m args below meth c H locs 0 0 (MQ below (ti D cy ld t [] (fun r H => (-1) ≤ r.toInt ∧ r.toInt ≤ 999) (tk_w t [(20, 0, 0), (12, 0, 0), (9, 0, 0)])) args s 0 0 (tk_w t [(20, 0, 0), (12, 0, 0), (9, 0, 0)])) (F0 m 7 ls []) := by
    intro N_l67
    induction N_l67 with
    | zero => intro v10 hq0_l67 hq1_l67 hm_l67 ls hl; exfalso; omega
    | succ N_l67 ih_l67 =>
      intro v10 hq0_l67 hq1_l67 hm_l67 ls hl
      refine lv_iload_n hx hb dX10_leastWake_7 rfl (lv_at hl 0 rfl) ?_
      refine lv_sipush (v := 999) hx hb dX10_leastWake_8 (by decide) ?_
      refine lv_icmp_gt (tgt := 32) hx hb dX10_leastWake_11 (by decide) (fun c9 => ?_) (fun c9 => ?_)
      · have hc68 : 999 < v10.toInt := (fi_lt (show (999 : Int32).toInt = 999 by decide) rfl).mp c9
        refine lv_iconst (v := (-1)) hx hb dX10_leastWake_32 (by decide) ?_
        have hk_m1 : ((-1) : Int32).toInt = (-1) := by decide
        exact tk_iret (v := (-1)) hx hb hr rfl hlocks (show (-1) ≤ ((-1) : Int32).toInt ∧ ((-1) : Int32).toInt ≤ 999 from ⟨(by omega), (by omega)⟩) hG hS dX10_leastWake_33
      · have hc68 : ¬ (999 < v10.toInt) := fun h9 => c9 ((fi_lt (show (999 : Int32).toInt = 999 by decide) rfl).mpr h9)
        refine lv_aload_n hx hb dX10_leastWake_14 rfl (lv_at hl 1 rfl) ?_
        refine tk_get (ci := 10) (C := RX10) (T := TX10) (N := 3) (sp := (6, 20, 1000, 0)) hx hb htl inX10 hown hK hG ht_a0 (by decide) tk_no rfl 2 (by decide) (htl _ mw_180) (fun _ h9 => h9) rfl dX10_leastWake_15 (fun v9 hf69 hV9 => ?_)
        obtain ⟨b70, rfl, ht_b70⟩ := hV9
        have ht_b70 : t b70 = (20, 1000, 0) := ht_b70
        refine lv_iload_n hx hb dX10_leastWake_18 rfl (lv_at hl 0 rfl) ?_
        refine tk_iald hx hb hK hG ht_b70 (by decide) (fun _ h => h) tk_no rfl (by omega) (by omega) dX10_leastWake_19 (fun v71 _ _ => ?_)
        have hr_v71 := tk_rng v71
        refine lv_iconst (v := (-1)) hx hb dX10_leastWake_20 (by decide) ?_
        refine lv_icmp_eq (tgt := 26) hx hb dX10_leastWake_21 (by decide) (fun c9 => ?_) (fun c9 => ?_)
        · have hc72 : v71.toInt = (-1) := (fi_eq rfl (show ((-1) : Int32).toInt = (-1) by decide)).mp c9
          obtain ⟨v73, h_v73, e_v73⟩ := tk_inc v10 1 (by decide) (by omega) (by omega)
          refine lv_iinc (v := v73) (lv' := [(2, .int v73), (0, .ref a0)]) hx hb dX10_leastWake_26 hl (k := 0) rfl e_v73 (by decide) rfl (fun ls hl => ?_)
          refine lv_goto (tgt := 7) hx hb dX10_leastWake_29 (by decide) ?_
          exact ih_l67 v73 (by omega) (by omega) (by omega) _ (lv_sub hl [0, 1] rfl)
        · have hc72 : ¬ (v71.toInt = (-1)) := fun h9 => c9 ((fi_eq rfl (show ((-1) : Int32).toInt = (-1) by decide)).mpr h9)
          refine lv_iload_n hx hb dX10_leastWake_24 rfl (lv_at hl 0 rfl) ?_
          exact tk_iret (v := v10) hx hb hr rfl hlocks (show (-1) ≤ v10.toInt ∧ v10.toInt ≤ 999 from ⟨(by omega), (by omega)⟩) hG hS dX10_leastWake_25
  have hk_1 : (1 : Int32).toInt = 1 := by decide
  exact hl67 1000 1 (by omega) (by omega) (by omega) _ (lv_sub hl [0, 1] rfl)
theorem dX10_greatestWake_0 : decode cX10_greatestWake 0 = .ok (.aload_n 0, 1) := by decide +kernel
theorem dX10_greatestWake_1 : decode cX10_greatestWake 1 = .ok (.iload_n 1, 1) := by decide +kernel
theorem dX10_greatestWake_2 : decode cX10_greatestWake 2 = .ok (.invokevirtual 23, 3) := by decide +kernel
theorem dX10_greatestWake_5 : decode cX10_greatestWake 5 = .ok (.sipush 999, 3) := by decide +kernel
theorem dX10_greatestWake_8 : decode cX10_greatestWake 8 = .ok (.istore_n 2, 1) := by decide +kernel
theorem dX10_greatestWake_9 : decode cX10_greatestWake 9 = .ok (.iload_n 2, 1) := by decide +kernel
theorem dX10_greatestWake_10 : decode cX10_greatestWake 10 = .ok (.iconst 1, 1) := by decide +kernel
theorem dX10_greatestWake_11 : decode cX10_greatestWake 11 = .ok (.if_icmp .lt 21, 3) := by decide +kernel
theorem dX10_greatestWake_32 : decode cX10_greatestWake 32 = .ok (.iconst (-1), 1) := by decide +kernel
theorem dX10_greatestWake_33 : decode cX10_greatestWake 33 = .ok (.ireturn, 1) := by decide +kernel
theorem dX10_greatestWake_14 : decode cX10_greatestWake 14 = .ok (.aload_n 0, 1) := by decide +kernel
theorem dX10_greatestWake_15 : decode cX10_greatestWake 15 = .ok (.getfield 9, 3) := by decide +kernel
theorem dX10_greatestWake_18 : decode cX10_greatestWake 18 = .ok (.iload_n 2, 1) := by decide +kernel
theorem dX10_greatestWake_19 : decode cX10_greatestWake 19 = .ok (.iaload, 1) := by decide +kernel
theorem dX10_greatestWake_20 : decode cX10_greatestWake 20 = .ok (.iconst (-1), 1) := by decide +kernel
theorem dX10_greatestWake_21 : decode cX10_greatestWake 21 = .ok (.if_icmp .eq 5, 3) := by decide +kernel
theorem dX10_greatestWake_26 : decode cX10_greatestWake 26 = .ok (.iinc 2 (-1), 3) := by decide +kernel
theorem dX10_greatestWake_29 : decode cX10_greatestWake 29 = .ok (.goto (-20), 3) := by decide +kernel
theorem dX10_greatestWake_24 : decode cX10_greatestWake 24 = .ok (.iload_n 2, 1) := by decide +kernel
theorem dX10_greatestWake_25 : decode cX10_greatestWake 25 = .ok (.ireturn, 1) := by decide +kernel
set_option maxHeartbeats 4000000 in
set_option maxRecDepth 100000 in
theorem k_X10_greatestWake (l : Launch) (D : va_G) (cy : Nat → ClassId) (ld : Nat → Nat) (t : tk_T) (a0 : Nat) (p1 : Int32) (ht_a0 : t a0 = (11, 0, 0)) : Met l yX10_greatestWake (wl yX10_greatestWake cX10_greatestWake 3 (some .int)) ({ frames := 9, cells := 0, slots := 0, locals := 560 }) (tp D cy ld t [] [.ref a0, .int p1] (fun H => True)) (ti D cy ld t [] (fun r H => (-1) ≤ r.toInt ∧ r.toInt ≤ 999) (tk_w t [(20, 0, 0), (12, 0, 0), (9, 0, 0)])) 0 0 (tk_w t [(20, 0, 0), (12, 0, 0), (9, 0, 0)]) := by
  refine tk_met (y := yX10_greatestWake) (cc := cX10_greatestWake) (maxL := 3) (ret := (some .int)) (av := [.ref a0, .int p1]) _ _ (by decide) (Nat.le_of_ble_eq_true rfl) ?_
  intro p e s m args below meth c hx hb hr hml hts htl hown hlocks hK H locs hH hG hS hB hZ ls hl
  have hown : s.vm.findClass RX10 = some m.cls := hown
  have hl : lv_has ls 3 [(0, .ref a0), (1, .int p1)] := hl
  have hr_p1 := tk_rng p1
  refine lv_aload_n hx hb dX10_greatestWake_0 rfl (lv_at hl 0 rfl) ?_
  refine lv_iload_n hx hb dX10_greatestWake_1 rfl (lv_at hl 1 rfl) ?_
  refine tk_Vv (As := [.int p1]) (rest := []) (ci := 10) ⟨hx, hb, hml, hown, hts⟩ hK hG hZ hS (k_X10_hearAll l D cy ld t a0 p1 ht_a0) trivial ⟨callB_of 1 hts (wl_in mw_1515) rfl rfl rfl (htl _ mw_52) (htl _ mw_1512) hd_yX10_hearAll ⟨(Nat.le_of_ble_eq_true rfl), (Nat.le_of_ble_eq_true rfl)⟩, htl _ mw_1513, htl _ mw_1514⟩ ht_a0 (by decide) tk_no rfl (tk_w.pick [0, 1, 2] rfl) rfl hl.1 rfl (Nat.le_of_ble_eq_true rfl) dX10_greatestWake_2 ⟨(Nat.le_of_ble_eq_true rfl), (Nat.le_of_ble_eq_true rfl)⟩ (fun H locs hpo hG hS hq9 => ?_)
  refine lv_sipush (v := 999) hx hb dX10_greatestWake_5 (by decide) ?_
  refine lv_istore_n (lv' := [(2, .int 999), (0, .ref a0), (1, .int p1)]) hx hb dX10_greatestWake_8 rfl hl (by decide) rfl (fun ls hl => ?_)
  have hl52 : ∀ (N_l52 : Nat) (v10 : Int32), 0 ≤ v10.toInt → v10.toInt ≤ 999 → v10.toInt < (N_l52 : Int) → ∀ ls : Array Slot, lv_has ls 3 [(2, .int v10), (0, .ref a0)] → W p l e ({ frames := 9, cells := 0, slots := 0, locals := 560 }) s m args below meth c H locs 0 0 (MQ below (ti D cy ld t [] (fun r H => (-1) ≤ r.toInt ∧ r.toInt ≤ 999) (tk_w t [(20, 0, 0), (12, 0, 0), (9, 0, 0)])) args s 0 0 (tk_w t [(20, 0, 0), (12, 0, 0), (9, 0, 0)])) (F0 m 9 ls []) := by
    intro N_l52
    induction N_l52 with
    | zero => intro v10 hq0_l52 hq1_l52 hm_l52 ls hl; exfalso; omega
    | succ N_l52 ih_l52 =>
      intro v10 hq0_l52 hq1_l52 hm_l52 ls hl
      refine lv_iload_n hx hb dX10_greatestWake_9 rfl (lv_at hl 0 rfl) ?_
      refine lv_iconst (v := 1) hx hb dX10_greatestWake_10 (by decide) ?_
      refine lv_icmp_lt (tgt := 32) hx hb dX10_greatestWake_11 (by decide) (fun c9 => ?_) (fun c9 => ?_)
      · have hc53 : v10.toInt < 1 := (fi_lt rfl (show (1 : Int32).toInt = 1 by decide)).mp c9
        refine lv_iconst (v := (-1)) hx hb dX10_greatestWake_32 (by decide) ?_
        have hk_m1 : ((-1) : Int32).toInt = (-1) := by decide
        exact tk_iret (v := (-1)) hx hb hr rfl hlocks (show (-1) ≤ ((-1) : Int32).toInt ∧ ((-1) : Int32).toInt ≤ 999 from ⟨(by omega), (by omega)⟩) hG hS dX10_greatestWake_33
      · have hc53 : ¬ (v10.toInt < 1) := fun h9 => c9 ((fi_lt rfl (show (1 : Int32).toInt = 1 by decide)).mpr h9)
        refine lv_aload_n hx hb dX10_greatestWake_14 rfl (lv_at hl 1 rfl) ?_
        refine tk_get (ci := 10) (C := RX10) (T := TX10) (N := 3) (sp := (6, 20, 1000, 0)) hx hb htl inX10 hown hK hG ht_a0 (by decide) tk_no rfl 2 (by decide) (htl _ mw_180) (fun _ h9 => h9) rfl dX10_greatestWake_15 (fun v9 hf54 hV9 => ?_)
        obtain ⟨b55, rfl, ht_b55⟩ := hV9
        have ht_b55 : t b55 = (20, 1000, 0) := ht_b55
        refine lv_iload_n hx hb dX10_greatestWake_18 rfl (lv_at hl 0 rfl) ?_
        refine tk_iald hx hb hK hG ht_b55 (by decide) (fun _ h => h) tk_no rfl (by omega) (by omega) dX10_greatestWake_19 (fun v56 _ _ => ?_)
        have hr_v56 := tk_rng v56
        refine lv_iconst (v := (-1)) hx hb dX10_greatestWake_20 (by decide) ?_
        refine lv_icmp_eq (tgt := 26) hx hb dX10_greatestWake_21 (by decide) (fun c9 => ?_) (fun c9 => ?_)
        · have hc57 : v56.toInt = (-1) := (fi_eq rfl (show ((-1) : Int32).toInt = (-1) by decide)).mp c9
          obtain ⟨v58, h_v58, e_v58⟩ := tk_inc v10 (-1) (by decide) (by omega) (by omega)
          refine lv_iinc (v := v58) (lv' := [(2, .int v58), (0, .ref a0)]) hx hb dX10_greatestWake_26 hl (k := 0) rfl e_v58 (by decide) rfl (fun ls hl => ?_)
          refine lv_goto (tgt := 9) hx hb dX10_greatestWake_29 (by decide) ?_
          exact ih_l52 v58 (by omega) (by omega) (by omega) _ (lv_sub hl [0, 1] rfl)
        · have hc57 : ¬ (v56.toInt = (-1)) := fun h9 => c9 ((fi_eq rfl (show ((-1) : Int32).toInt = (-1) by decide)).mpr h9)
          refine lv_iload_n hx hb dX10_greatestWake_24 rfl (lv_at hl 0 rfl) ?_
          exact tk_iret (v := v10) hx hb hr rfl hlocks (show (-1) ≤ v10.toInt ∧ v10.toInt ≤ 999 from ⟨(by omega), (by omega)⟩) hG hS dX10_greatestWake_25
  have hk_999 : (999 : Int32).toInt = 999 := by decide
  exact hl52 1000 999 (by omega) (by omega) (by omega) _ (lv_sub hl [0, 1] rfl)
theorem dX10_howMany_0 : decode cX10_howMany 0 = .ok (.aload_n 0, 1) := by decide +kernel
theorem dX10_howMany_1 : decode cX10_howMany 1 = .ok (.iload_n 1, 1) := by decide +kernel
theorem dX10_howMany_2 : decode cX10_howMany 2 = .ok (.invokevirtual 23, 3) := by decide +kernel
theorem dX10_howMany_5 : decode cX10_howMany 5 = .ok (.iconst 0, 1) := by decide +kernel
theorem dX10_howMany_6 : decode cX10_howMany 6 = .ok (.istore_n 2, 1) := by decide +kernel
theorem dX10_howMany_7 : decode cX10_howMany 7 = .ok (.iconst 1, 1) := by decide +kernel
theorem dX10_howMany_8 : decode cX10_howMany 8 = .ok (.istore_n 3, 1) := by decide +kernel
theorem dX10_howMany_9 : decode cX10_howMany 9 = .ok (.iload_n 3, 1) := by decide +kernel
theorem dX10_howMany_10 : decode cX10_howMany 10 = .ok (.sipush 999, 3) := by decide +kernel
theorem dX10_howMany_13 : decode cX10_howMany 13 = .ok (.if_icmp .gt 22, 3) := by decide +kernel
theorem dX10_howMany_35 : decode cX10_howMany 35 = .ok (.iload_n 2, 1) := by decide +kernel
theorem dX10_howMany_36 : decode cX10_howMany 36 = .ok (.ireturn, 1) := by decide +kernel
theorem dX10_howMany_16 : decode cX10_howMany 16 = .ok (.aload_n 0, 1) := by decide +kernel
theorem dX10_howMany_17 : decode cX10_howMany 17 = .ok (.getfield 9, 3) := by decide +kernel
theorem dX10_howMany_20 : decode cX10_howMany 20 = .ok (.iload_n 3, 1) := by decide +kernel
theorem dX10_howMany_21 : decode cX10_howMany 21 = .ok (.iaload, 1) := by decide +kernel
theorem dX10_howMany_22 : decode cX10_howMany 22 = .ok (.iconst (-1), 1) := by decide +kernel
theorem dX10_howMany_29 : decode cX10_howMany 29 = .ok (.iinc 3 1, 3) := by decide +kernel
theorem dX10_howMany_32 : decode cX10_howMany 32 = .ok (.goto (-23), 3) := by decide +kernel
theorem dX10_howMany_23 : decode cX10_howMany 23 = .ok (.if_icmp .eq 6, 3) := by decide +kernel
theorem dX10_howMany_26 : decode cX10_howMany 26 = .ok (.iinc 2 1, 3) := by decide +kernel
set_option maxHeartbeats 4000000 in
set_option maxRecDepth 100000 in
theorem k_X10_howMany (l : Launch) (D : va_G) (cy : Nat → ClassId) (ld : Nat → Nat) (t : tk_T) (a0 : Nat) (p1 : Int32) (ht_a0 : t a0 = (11, 0, 0)) : Met l yX10_howMany (wl yX10_howMany cX10_howMany 4 (some .int)) ({ frames := 9, cells := 0, slots := 0, locals := 560 }) (tp D cy ld t [] [.ref a0, .int p1] (fun H => True)) (ti D cy ld t [] (fun r H => 0 ≤ r.toInt ∧ r.toInt ≤ 999) (tk_w t [(20, 0, 0), (12, 0, 0), (9, 0, 0)])) 0 0 (tk_w t [(20, 0, 0), (12, 0, 0), (9, 0, 0)]) := by
  refine tk_met (y := yX10_howMany) (cc := cX10_howMany) (maxL := 4) (ret := (some .int)) (av := [.ref a0, .int p1]) _ _ (by decide) (Nat.le_of_ble_eq_true rfl) ?_
  intro p e s m args below meth c hx hb hr hml hts htl hown hlocks hK H locs hH hG hS hB hZ ls hl
  have hown : s.vm.findClass RX10 = some m.cls := hown
  have hl : lv_has ls 4 [(0, .ref a0), (1, .int p1)] := hl
  have hr_p1 := tk_rng p1
  refine lv_aload_n hx hb dX10_howMany_0 rfl (lv_at hl 0 rfl) ?_
  refine lv_iload_n hx hb dX10_howMany_1 rfl (lv_at hl 1 rfl) ?_
  refine tk_Vv (As := [.int p1]) (rest := []) (ci := 10) ⟨hx, hb, hml, hown, hts⟩ hK hG hZ hS (k_X10_hearAll l D cy ld t a0 p1 ht_a0) trivial ⟨callB_of 1 hts (wl_in mw_1515) rfl rfl rfl (htl _ mw_52) (htl _ mw_1512) hd_yX10_hearAll ⟨(Nat.le_of_ble_eq_true rfl), (Nat.le_of_ble_eq_true rfl)⟩, htl _ mw_1513, htl _ mw_1514⟩ ht_a0 (by decide) tk_no rfl (tk_w.pick [0, 1, 2] rfl) rfl hl.1 rfl (Nat.le_of_ble_eq_true rfl) dX10_howMany_2 ⟨(Nat.le_of_ble_eq_true rfl), (Nat.le_of_ble_eq_true rfl)⟩ (fun H locs hpo hG hS hq9 => ?_)
  refine lv_iconst (v := 0) hx hb dX10_howMany_5 (by decide) ?_
  refine lv_istore_n (lv' := [(2, .int 0), (0, .ref a0), (1, .int p1)]) hx hb dX10_howMany_6 rfl hl (by decide) rfl (fun ls hl => ?_)
  refine lv_iconst (v := 1) hx hb dX10_howMany_7 (by decide) ?_
  refine lv_istore_n (lv' := [(3, .int 1), (2, .int 0), (0, .ref a0), (1, .int p1)]) hx hb dX10_howMany_8 rfl hl (by decide) rfl (fun ls hl => ?_)
  have hl215 : ∀ (N_l215 : Nat) (v26 : Int32) (v27 : Int32), v26.toInt ≤ 1000 → 0 ≤ v27.toInt → 0 ≤ v26.toInt + (-1) * v27.toInt + (-1) → (-1) * v26.toInt + 1000 < (N_l215 : Int) → ∀ ls : Array Slot, lv_has ls 4 [(3, .int v26), (2, .int v27), (0, .ref a0)] → W p l e ({ frames := 9, cells := 0, slots := 0, locals := 560 }) s m args below meth c H locs 0 0 (MQ below (ti D cy ld t [] (fun r H => 0 ≤ r.toInt ∧ r.toInt ≤ 999) (tk_w t [(20, 0, 0), (12, 0, 0), (9, 0, 0)])) args s 0 0 (tk_w t [(20, 0, 0), (12, 0, 0), (9, 0, 0)])) (F0 m 9 ls []) := by
    intro N_l215
    induction N_l215 with
    | zero => intro v26 v27 hq0_l215 hq1_l215 hq2_l215 hm_l215 ls hl; exfalso; omega
    | succ N_l215 ih_l215 =>
      intro v26 v27 hq0_l215 hq1_l215 hq2_l215 hm_l215 ls hl
      refine lv_iload_n hx hb dX10_howMany_9 rfl (lv_at hl 0 rfl) ?_
      refine lv_sipush (v := 999) hx hb dX10_howMany_10 (by decide) ?_
      refine lv_icmp_gt (tgt := 35) hx hb dX10_howMany_13 (by decide) (fun c9 => ?_) (fun c9 => ?_)
      · have hc216 : 999 < v26.toInt := (fi_lt (show (999 : Int32).toInt = 999 by decide) rfl).mp c9
        refine lv_iload_n hx hb dX10_howMany_35 rfl (lv_at hl 1 rfl) ?_
        exact tk_iret (v := v27) hx hb hr rfl hlocks (show 0 ≤ v27.toInt ∧ v27.toInt ≤ 999 from ⟨(by omega), (by omega)⟩) hG hS dX10_howMany_36
      · have hc216 : ¬ (999 < v26.toInt) := fun h9 => c9 ((fi_lt (show (999 : Int32).toInt = 999 by decide) rfl).mpr h9)
        refine lv_aload_n hx hb dX10_howMany_16 rfl (lv_at hl 2 rfl) ?_
        refine tk_get (ci := 10) (C := RX10) (T := TX10) (N := 3) (sp := (6, 20, 1000, 0)) hx hb htl inX10 hown hK hG ht_a0 (by decide) tk_no rfl 2 (by decide) (htl _ mw_180) (fun _ h9 => h9) rfl dX10_howMany_17 (fun v9 hf227 hV9 => ?_)
        obtain ⟨b228, rfl, ht_b228⟩ := hV9
        have ht_b228 : t b228 = (20, 1000, 0) := ht_b228
        refine lv_iload_n hx hb dX10_howMany_20 rfl (lv_at hl 0 rfl) ?_
        refine tk_iald hx hb hK hG ht_b228 (by decide) (fun _ h => h) tk_no rfl (by omega) (by omega) dX10_howMany_21 (fun v229 _ _ => ?_)
        have hr_v229 := tk_rng v229
        refine lv_iconst (v := (-1)) hx hb dX10_howMany_22 (by decide) ?_
        have hj234 : ∀ (v233 : Int32), 0 ≤ (-1) * v233.toInt + v27.toInt + 1 → 0 ≤ v233.toInt + (-1) * v27.toInt → ∀ ls : Array Slot, lv_has ls 4 [(3, .int v26), (2, .int v233), (0, .ref a0)] → W p l e ({ frames := 9, cells := 0, slots := 0, locals := 560 }) s m args below meth c H locs 0 0 (MQ below (ti D cy ld t [] (fun r H => 0 ≤ r.toInt ∧ r.toInt ≤ 999) (tk_w t [(20, 0, 0), (12, 0, 0), (9, 0, 0)])) args s 0 0 (tk_w t [(20, 0, 0), (12, 0, 0), (9, 0, 0)])) (F0 m 29 ls []) := by
          intro v233 hq0_j234 hq1_j234 ls hl
          obtain ⟨v235, h_v235, e_v235⟩ := tk_inc v26 1 (by decide) (by omega) (by omega)
          refine lv_iinc (v := v235) (lv' := [(3, .int v235), (2, .int v233), (0, .ref a0)]) hx hb dX10_howMany_29 hl (k := 0) rfl e_v235 (by decide) rfl (fun ls hl => ?_)
          refine lv_goto (tgt := 9) hx hb dX10_howMany_32 (by decide) ?_
          exact ih_l215 v235 v233 (by omega) (by omega) (by omega) (by omega) _ (lv_sub hl [0, 1, 2] rfl)
        refine lv_icmp_eq (tgt := 29) hx hb dX10_howMany_23 (by decide) (fun c9 => ?_) (fun c9 => ?_)
        · have hc230 : v229.toInt = (-1) := (fi_eq rfl (show ((-1) : Int32).toInt = (-1) by decide)).mp c9
          exact hj234 v27 (by omega) (by omega) _ (lv_sub hl [0, 1, 2] rfl)
        · have hc230 : ¬ (v229.toInt = (-1)) := fun h9 => c9 ((fi_eq rfl (show ((-1) : Int32).toInt = (-1) by decide)).mpr h9)
          obtain ⟨v236, h_v236, e_v236⟩ := tk_inc v27 1 (by decide) (by omega) (by omega)
          refine lv_iinc (v := v236) (lv' := [(2, .int v236), (3, .int v26), (0, .ref a0)]) hx hb dX10_howMany_26 hl (k := 1) rfl e_v236 (by decide) rfl (fun ls hl => ?_)
          exact hj234 v236 (by omega) (by omega) _ (lv_sub hl [1, 0, 2] rfl)
  have hk_1 : (1 : Int32).toInt = 1 := by decide
  have hk_0 : (0 : Int32).toInt = 0 := by decide
  exact hl215 1000 1 0 (by omega) (by omega) (by omega) (by omega) _ (lv_sub hl [0, 1, 2] rfl)
theorem dX10_howManySleep_0 : decode cX10_howManySleep 0 = .ok (.aload_n 0, 1) := by decide +kernel
theorem dX10_howManySleep_1 : decode cX10_howManySleep 1 = .ok (.getfield 19, 3) := by decide +kernel
theorem dX10_howManySleep_4 : decode cX10_howManySleep 4 = .ok (.invokevirtual 59, 3) := by decide +kernel
theorem dX10_howManySleep_7 : decode cX10_howManySleep 7 = .ok (.istore_n 1, 1) := by decide +kernel
theorem dX10_howManySleep_8 : decode cX10_howManySleep 8 = .ok (.aload_n 0, 1) := by decide +kernel
theorem dX10_howManySleep_9 : decode cX10_howManySleep 9 = .ok (.getfield 19, 3) := by decide +kernel
theorem dX10_howManySleep_12 : decode cX10_howManySleep 12 = .ok (.sipush 999, 3) := by decide +kernel
theorem dX10_howManySleep_15 : decode cX10_howManySleep 15 = .ok (.invokevirtual 63, 3) := by decide +kernel
theorem dX10_howManySleep_18 : decode cX10_howManySleep 18 = .ok (.istore_n 2, 1) := by decide +kernel
theorem dX10_howManySleep_19 : decode cX10_howManySleep 19 = .ok (.iconst 0, 1) := by decide +kernel
theorem dX10_howManySleep_20 : decode cX10_howManySleep 20 = .ok (.istore_n 3, 1) := by decide +kernel
theorem dX10_howManySleep_21 : decode cX10_howManySleep 21 = .ok (.iconst 1, 1) := by decide +kernel
theorem dX10_howManySleep_22 : decode cX10_howManySleep 22 = .ok (.istore 4, 2) := by decide +kernel
theorem dX10_howManySleep_24 : decode cX10_howManySleep 24 = .ok (.iload 4, 2) := by decide +kernel
theorem dX10_howManySleep_26 : decode cX10_howManySleep 26 = .ok (.sipush 999, 3) := by decide +kernel
theorem dX10_howManySleep_29 : decode cX10_howManySleep 29 = .ok (.if_icmp .gt 54, 3) := by decide +kernel
theorem dX10_howManySleep_83 : decode cX10_howManySleep 83 = .ok (.iload_n 3, 1) := by decide +kernel
theorem dX10_howManySleep_84 : decode cX10_howManySleep 84 = .ok (.ireturn, 1) := by decide +kernel
theorem dX10_howManySleep_32 : decode cX10_howManySleep 32 = .ok (.aload_n 0, 1) := by decide +kernel
theorem dX10_howManySleep_33 : decode cX10_howManySleep 33 = .ok (.getfield 9, 3) := by decide +kernel
theorem dX10_howManySleep_36 : decode cX10_howManySleep 36 = .ok (.iload 4, 2) := by decide +kernel
theorem dX10_howManySleep_38 : decode cX10_howManySleep 38 = .ok (.iaload, 1) := by decide +kernel
theorem dX10_howManySleep_77 : decode cX10_howManySleep 77 = .ok (.iinc 4 1, 3) := by decide +kernel
theorem dX10_howManySleep_80 : decode cX10_howManySleep 80 = .ok (.goto (-56), 3) := by decide +kernel
theorem dX10_howManySleep_39 : decode cX10_howManySleep 39 = .ok (.ifCond .le 38, 3) := by decide +kernel
theorem dX10_howManySleep_42 : decode cX10_howManySleep 42 = .ok (.aload_n 0, 1) := by decide +kernel
theorem dX10_howManySleep_43 : decode cX10_howManySleep 43 = .ok (.getfield 9, 3) := by decide +kernel
theorem dX10_howManySleep_46 : decode cX10_howManySleep 46 = .ok (.iload 4, 2) := by decide +kernel
theorem dX10_howManySleep_48 : decode cX10_howManySleep 48 = .ok (.iaload, 1) := by decide +kernel
theorem dX10_howManySleep_49 : decode cX10_howManySleep 49 = .ok (.iload_n 1, 1) := by decide +kernel
theorem dX10_howManySleep_71 : decode cX10_howManySleep 71 = .ok (.if_icmp .gt 6, 3) := by decide +kernel
theorem dX10_howManySleep_74 : decode cX10_howManySleep 74 = .ok (.iinc 3 1, 3) := by decide +kernel
theorem dX10_howManySleep_50 : decode cX10_howManySleep 50 = .ok (.ifCond .eq 20, 3) := by decide +kernel
theorem dX10_howManySleep_70 : decode cX10_howManySleep 70 = .ok (.iload_n 2, 1) := by decide +kernel
theorem dX10_howManySleep_53 : decode cX10_howManySleep 53 = .ok (.aload_n 0, 1) := by decide +kernel
theorem dX10_howManySleep_54 : decode cX10_howManySleep 54 = .ok (.getfield 19, 3) := by decide +kernel
theorem dX10_howManySleep_57 : decode cX10_howManySleep 57 = .ok (.aload_n 0, 1) := by decide +kernel
theorem dX10_howManySleep_58 : decode cX10_howManySleep 58 = .ok (.getfield 9, 3) := by decide +kernel
theorem dX10_howManySleep_61 : decode cX10_howManySleep 61 = .ok (.iload 4, 2) := by decide +kernel
theorem dX10_howManySleep_63 : decode cX10_howManySleep 63 = .ok (.iaload, 1) := by decide +kernel
theorem dX10_howManySleep_64 : decode cX10_howManySleep 64 = .ok (.invokevirtual 63, 3) := by decide +kernel
theorem dX10_howManySleep_67 : decode cX10_howManySleep 67 = .ok (.goto 4, 3) := by decide +kernel
set_option maxHeartbeats 4000000 in
set_option maxRecDepth 100000 in
theorem k_X10_howManySleep (l : Launch) (D : va_G) (cy : Nat → ClassId) (ld : Nat → Nat) (t : tk_T) (a0 : Nat) (ht_a0 : t a0 = (11, 0, 0)) : Met l yX10_howManySleep (wl yX10_howManySleep cX10_howManySleep 5 (some .int)) ({ frames := 7, cells := 0, slots := 0, locals := 420 }) (tp D cy ld t [] [.ref a0] (fun H => True)) (ti D cy ld t [] (fun r H => 0 ≤ r.toInt ∧ r.toInt ≤ 999) (tk_w t [(20, 0, 0), (12, 0, 0), (9, 0, 0)])) 0 0 (tk_w t [(20, 0, 0), (12, 0, 0), (9, 0, 0)]) := by
  refine tk_met (y := yX10_howManySleep) (cc := cX10_howManySleep) (maxL := 5) (ret := (some .int)) (av := [.ref a0]) _ _ (by decide) (Nat.le_of_ble_eq_true rfl) ?_
  intro p e s m args below meth c hx hb hr hml hts htl hown hlocks hK H locs hH hG hS hB hZ ls hl
  have hown : s.vm.findClass RX10 = some m.cls := hown
  have hl : lv_has ls 5 [(0, .ref a0)] := hl
  refine lv_aload_n hx hb dX10_howManySleep_0 rfl (lv_at hl 0 rfl) ?_
  refine tk_get (ci := 10) (C := RX10) (T := TX10) (N := 3) (sp := (6, 9, 0, 0)) hx hb htl inX10 hown hK hG ht_a0 (by decide) tk_no rfl 1 (by decide) (htl _ mw_182) (fun _ h9 => h9) rfl dX10_howManySleep_1 (fun v9 hf1 hV9 => ?_)
  obtain ⟨b2, rfl, ht_b2⟩ := hV9
  have ht_b2 : t b2 = (9, 0, 0) := ht_b2
  refine tk_Vi (As := []) (rest := []) (ci := 8) ⟨hx, hb, hml, hown, hts⟩ hK hG hZ hS (k_X8_isLullByWake l D cy ld t b2 ht_b2) trivial ⟨callB_of 0 hts (wl_in mw_1531) rfl rfl rfl (htl _ mw_21) (htl _ mw_1528) hd_yX8_isLullByWake ⟨(Nat.le_of_ble_eq_true rfl), (Nat.le_of_ble_eq_true rfl)⟩, htl _ mw_1529, htl _ mw_1530⟩ ht_b2 (by decide) tk_no rfl (tk_w.pick [] rfl) rfl hl.1 rfl (Nat.le_of_ble_eq_true rfl) dX10_howManySleep_4 ⟨(Nat.le_of_ble_eq_true rfl), (Nat.le_of_ble_eq_true rfl)⟩ (fun v3 H locs hpo hG hS hq9 => ?_)
  obtain ⟨hpo5, hpo6, hpo7, hpo8⟩ := hpo
  refine lv_istore_n (lv' := [(1, .int v3), (0, .ref a0)]) hx hb dX10_howManySleep_7 rfl hl (by decide) rfl (fun ls hl => ?_)
  refine lv_aload_n hx hb dX10_howManySleep_8 rfl (lv_at hl 1 rfl) ?_
  refine tk_get (ci := 10) (C := RX10) (T := TX10) (N := 3) (sp := (6, 9, 0, 0)) hx hb htl inX10 hown hK hG ht_a0 (by decide) tk_no rfl 1 (by decide) (htl _ mw_182) (fun _ h9 => h9) rfl dX10_howManySleep_9 (fun v9 hf9 hV9 => ?_)
  obtain ⟨b10, rfl, ht_b10⟩ := hV9
  have ht_b10 : t b10 = (9, 0, 0) := ht_b10
  refine lv_sipush (v := 999) hx hb dX10_howManySleep_12 (by decide) ?_
  have hk_999 : (999 : Int32).toInt = 999 := by decide
  refine tk_Vi (As := [.int 999]) (rest := []) (ci := 8) ⟨hx, hb, hml, hown, hts⟩ hK hG hZ hS (k_X8_lullsAt l D cy ld t b10 999 ht_b10) trivial ⟨callB_of 1 hts (wl_in mw_1536) rfl rfl rfl (htl _ mw_21) (htl _ mw_1533) hd_yX8_lullsAt ⟨(Nat.le_of_ble_eq_true rfl), (Nat.le_of_ble_eq_true rfl)⟩, htl _ mw_1534, htl _ mw_1535⟩ ht_b10 (by decide) tk_no rfl (tk_w.pick [0, 1, 2] rfl) rfl hl.1 rfl (Nat.le_of_ble_eq_true rfl) dX10_howManySleep_15 ⟨(Nat.le_of_ble_eq_true rfl), (Nat.le_of_ble_eq_true rfl)⟩ (fun v11 H locs hpo hG hS hq9 => ?_)
  refine lv_istore_n (lv' := [(2, .int v11), (1, .int v3), (0, .ref a0)]) hx hb dX10_howManySleep_18 rfl hl (by decide) rfl (fun ls hl => ?_)
  refine lv_iconst (v := 0) hx hb dX10_howManySleep_19 (by decide) ?_
  refine lv_istore_n (lv' := [(3, .int 0), (2, .int v11), (1, .int v3), (0, .ref a0)]) hx hb dX10_howManySleep_20 rfl hl (by decide) rfl (fun ls hl => ?_)
  refine lv_iconst (v := 1) hx hb dX10_howManySleep_21 (by decide) ?_
  refine lv_istore (lv' := [(4, .int 1), (3, .int 0), (2, .int v11), (1, .int v3), (0, .ref a0)]) hx hb dX10_howManySleep_22 hl (by decide) rfl (fun ls hl => ?_)
  have hl1103 : ∀ (N_l1103 : Nat) (v13 : Int32) (v14 : Int32) (H : Heap) (locs : List Loc), v13.toInt ≤ 1000 → 0 ≤ v14.toInt → 0 ≤ v13.toInt + (-1) * v14.toInt + (-1) → (-1) * v13.toInt + 1000 < (N_l1103 : Int) → tk_G D cy ld t [] H → va_S (tk_w t [(20, 0, 0), (12, 0, 0), (9, 0, 0)]) s.heap H locs → ∀ ls : Array Slot, lv_has ls 5 [(4, .int v13), (3, .int v14), (2, .int v11), (1, .int v3), (0, .ref a0)] → W p l e ({ frames := 7, cells := 0, slots := 0, locals := 420 }) s m args below meth c H locs 0 0 (MQ below (ti D cy ld t [] (fun r H => 0 ≤ r.toInt ∧ r.toInt ≤ 999) (tk_w t [(20, 0, 0), (12, 0, 0), (9, 0, 0)])) args s 0 0 (tk_w t [(20, 0, 0), (12, 0, 0), (9, 0, 0)])) (F0 m 24 ls []) := by
    intro N_l1103
    induction N_l1103 with
    | zero => intro v13 v14 H locs hq0_l1103 hq1_l1103 hq2_l1103 hm_l1103 hG hS ls hl; exfalso; omega
    | succ N_l1103 ih_l1103 =>
      intro v13 v14 H locs hq0_l1103 hq1_l1103 hq2_l1103 hm_l1103 hG hS ls hl
      refine lv_iload hx hb dX10_howManySleep_24 (lv_at hl 0 rfl) ?_
      refine lv_sipush (v := 999) hx hb dX10_howManySleep_26 (by decide) ?_
      refine lv_icmp_gt (tgt := 83) hx hb dX10_howManySleep_29 (by decide) (fun c9 => ?_) (fun c9 => ?_)
      · have hc1104 : 999 < v13.toInt := (fi_lt (show (999 : Int32).toInt = 999 by decide) rfl).mp c9
        refine lv_iload_n hx hb dX10_howManySleep_83 rfl (lv_at hl 1 rfl) ?_
        exact tk_iret (v := v14) hx hb hr rfl hlocks (show 0 ≤ v14.toInt ∧ v14.toInt ≤ 999 from ⟨(by omega), (by omega)⟩) hG hS dX10_howManySleep_84
      · have hc1104 : ¬ (999 < v13.toInt) := fun h9 => c9 ((fi_lt (show (999 : Int32).toInt = 999 by decide) rfl).mpr h9)
        refine lv_aload_n hx hb dX10_howManySleep_32 rfl (lv_at hl 4 rfl) ?_
        refine tk_get (ci := 10) (C := RX10) (T := TX10) (N := 3) (sp := (6, 20, 1000, 0)) hx hb htl inX10 hown hK hG ht_a0 (by decide) tk_no rfl 2 (by decide) (htl _ mw_180) (fun _ h9 => h9) rfl dX10_howManySleep_33 (fun v9 hf1165 hV9 => ?_)
        obtain ⟨b1166, rfl, ht_b1166⟩ := hV9
        have ht_b1166 : t b1166 = (20, 1000, 0) := ht_b1166
        refine lv_iload hx hb dX10_howManySleep_36 (lv_at hl 0 rfl) ?_
        refine tk_iald hx hb hK hG ht_b1166 (by decide) (fun _ h => h) tk_no rfl (by omega) (by omega) dX10_howManySleep_38 (fun v1167 _ _ => ?_)
        have hr_v1167 := tk_rng v1167
        have hj1198 : ∀ (v1196 : Int32) (H : Heap) (locs : List Loc), 0 ≤ (-1) * v1196.toInt + v14.toInt + 1 → 0 ≤ v1196.toInt + (-1) * v14.toInt → tk_G D cy ld t [] H → va_S (tk_w t [(20, 0, 0), (12, 0, 0), (9, 0, 0)]) s.heap H locs → ∀ ls : Array Slot, lv_has ls 5 [(4, .int v13), (3, .int v1196), (2, .int v11), (1, .int v3), (0, .ref a0)] → W p l e ({ frames := 7, cells := 0, slots := 0, locals := 420 }) s m args below meth c H locs 0 0 (MQ below (ti D cy ld t [] (fun r H => 0 ≤ r.toInt ∧ r.toInt ≤ 999) (tk_w t [(20, 0, 0), (12, 0, 0), (9, 0, 0)])) args s 0 0 (tk_w t [(20, 0, 0), (12, 0, 0), (9, 0, 0)])) (F0 m 77 ls []) := by
          intro v1196 H locs hq0_j1198 hq1_j1198 hG hS ls hl
          obtain ⟨v1199, h_v1199, e_v1199⟩ := tk_inc v13 1 (by decide) (by omega) (by omega)
          refine lv_iinc (v := v1199) (lv' := [(4, .int v1199), (3, .int v1196), (2, .int v11), (1, .int v3), (0, .ref a0)]) hx hb dX10_howManySleep_77 hl (k := 0) rfl e_v1199 (by decide) rfl (fun ls hl => ?_)
          refine lv_goto (tgt := 24) hx hb dX10_howManySleep_80 (by decide) ?_
          exact ih_l1103 v1199 v1196 _ _ (by omega) (by omega) (by omega) (by omega) hG hS _ (lv_sub hl [0, 1, 2, 3, 4] rfl)
        refine lv_if_le (tgt := 77) hx hb dX10_howManySleep_39 (by decide) (fun c9 => ?_) (fun c9 => ?_)
        · have hc1168 : v1167.toInt ≤ 0 := (fi_le rfl (show (0 : Int32).toInt = 0 by decide)).mp c9
          exact hj1198 v14 _ _ (by omega) (by omega) hG hS _ (lv_sub hl [0, 1, 2, 3, 4] rfl)
        · have hc1168 : ¬ (v1167.toInt ≤ 0) := fun h9 => c9 ((fi_le rfl (show (0 : Int32).toInt = 0 by decide)).mpr h9)
          refine lv_aload_n hx hb dX10_howManySleep_42 rfl (lv_at hl 4 rfl) ?_
          refine tk_get (ci := 10) (C := RX10) (T := TX10) (N := 3) (sp := (6, 20, 1000, 0)) hx hb htl inX10 hown hK hG ht_a0 (by decide) tk_no rfl 2 (by decide) (htl _ mw_180) (fun _ h9 => h9) rfl dX10_howManySleep_43 (fun v9 hf1200 hV9 => ?_)
          obtain ⟨b1201, rfl, ht_b1201⟩ := hV9
          have ht_b1201 : t b1201 = (20, 1000, 0) := ht_b1201
          refine lv_iload hx hb dX10_howManySleep_46 (lv_at hl 0 rfl) ?_
          refine tk_iald hx hb hK hG ht_b1201 (by decide) (fun _ h => h) tk_no rfl (by omega) (by omega) dX10_howManySleep_48 (fun v1202 _ _ => ?_)
          have hr_v1202 := tk_rng v1202
          refine lv_iload_n hx hb dX10_howManySleep_49 rfl (lv_at hl 3 rfl) ?_
          have hj1215 : ∀ (v1213 : Int32) (H : Heap) (locs : List Loc), tk_G D cy ld t [] H → va_S (tk_w t [(20, 0, 0), (12, 0, 0), (9, 0, 0)]) s.heap H locs → ∀ ls : Array Slot, lv_has ls 5 [(4, .int v13), (3, .int v14), (2, .int v11), (1, .int v3), (0, .ref a0)] → W p l e ({ frames := 7, cells := 0, slots := 0, locals := 420 }) s m args below meth c H locs 0 0 (MQ below (ti D cy ld t [] (fun r H => 0 ≤ r.toInt ∧ r.toInt ≤ 999) (tk_w t [(20, 0, 0), (12, 0, 0), (9, 0, 0)])) args s 0 0 (tk_w t [(20, 0, 0), (12, 0, 0), (9, 0, 0)])) (F0 m 71 ls [.int v1213, .int v1202]) := by
            intro v1213 H locs hG hS ls hl
            refine lv_icmp_gt (tgt := 77) hx hb dX10_howManySleep_71 (by decide) (fun c9 => ?_) (fun c9 => ?_)
            · have hc1216 : v1213.toInt < v1202.toInt := (fi_lt rfl rfl).mp c9
              exact hj1198 v14 _ _ (by omega) (by omega) hG hS _ (lv_sub hl [0, 1, 2, 3, 4] rfl)
            · have hc1216 : ¬ (v1213.toInt < v1202.toInt) := fun h9 => c9 ((fi_lt rfl rfl).mpr h9)
              obtain ⟨v1217, h_v1217, e_v1217⟩ := tk_inc v14 1 (by decide) (by omega) (by omega)
              refine lv_iinc (v := v1217) (lv' := [(3, .int v1217), (4, .int v13), (2, .int v11), (1, .int v3), (0, .ref a0)]) hx hb dX10_howManySleep_74 hl (k := 1) rfl e_v1217 (by decide) rfl (fun ls hl => ?_)
              exact hj1198 v1217 _ _ (by omega) (by omega) hG hS _ (lv_sub hl [1, 0, 2, 3, 4] rfl)
          refine lv_if_eq (tgt := 70) hx hb dX10_howManySleep_50 (by decide) (fun c9 => ?_) (fun c9 => ?_)
          · have hc1203 : v3.toInt = 0 := (fi_eq rfl (show (0 : Int32).toInt = 0 by decide)).mp c9
            refine lv_iload_n hx hb dX10_howManySleep_70 rfl (lv_at hl 2 rfl) ?_
            exact hj1215 v11 _ _ hG hS _ (lv_sub hl [0, 1, 2, 3, 4] rfl)
          · have hc1203 : ¬ (v3.toInt = 0) := fun h9 => c9 ((fi_eq rfl (show (0 : Int32).toInt = 0 by decide)).mpr h9)
            refine lv_aload_n hx hb dX10_howManySleep_53 rfl (lv_at hl 4 rfl) ?_
            refine tk_get (ci := 10) (C := RX10) (T := TX10) (N := 3) (sp := (6, 9, 0, 0)) hx hb htl inX10 hown hK hG ht_a0 (by decide) tk_no rfl 1 (by decide) (htl _ mw_182) (fun _ h9 => h9) rfl dX10_howManySleep_54 (fun v9 hf1218 hV9 => ?_)
            obtain ⟨b1219, rfl, ht_b1219⟩ := hV9
            have ht_b1219 : t b1219 = (9, 0, 0) := ht_b1219
            refine lv_aload_n hx hb dX10_howManySleep_57 rfl (lv_at hl 4 rfl) ?_
            refine tk_get (ci := 10) (C := RX10) (T := TX10) (N := 3) (sp := (6, 20, 1000, 0)) hx hb htl inX10 hown hK hG ht_a0 (by decide) tk_no rfl 2 (by decide) (htl _ mw_180) (fun _ h9 => h9) rfl dX10_howManySleep_58 (fun v9 hf1220 hV9 => ?_)
            obtain ⟨b1221, rfl, ht_b1221⟩ := hV9
            have ht_b1221 : t b1221 = (20, 1000, 0) := ht_b1221
            refine lv_iload hx hb dX10_howManySleep_61 (lv_at hl 0 rfl) ?_
            refine tk_iald hx hb hK hG ht_b1221 (by decide) (fun _ h => h) tk_no rfl (by omega) (by omega) dX10_howManySleep_63 (fun v1222 _ _ => ?_)
            have hr_v1222 := tk_rng v1222
            refine tk_Vi (As := [.int v1222]) (rest := [.int v1202]) (ci := 8) ⟨hx, hb, hml, hown, hts⟩ hK hG hZ hS (k_X8_lullsAt l D cy ld t b1219 v1222 ht_b1219) trivial ⟨callB_of 1 hts (wl_in mw_1536) rfl rfl rfl (htl _ mw_21) (htl _ mw_1533) hd_yX8_lullsAt ⟨(Nat.le_of_ble_eq_true rfl), (Nat.le_of_ble_eq_true rfl)⟩, htl _ mw_1534, htl _ mw_1535⟩ ht_b1219 (by decide) tk_no rfl (tk_w.pick [0, 1, 2] rfl) rfl hl.1 rfl (Nat.le_of_ble_eq_true rfl) dX10_howManySleep_64 ⟨(Nat.le_of_ble_eq_true rfl), (Nat.le_of_ble_eq_true rfl)⟩ (fun v1223 H locs hpo hG hS hq9 => ?_)
            refine lv_goto (tgt := 71) hx hb dX10_howManySleep_67 (by decide) ?_
            exact hj1215 v1223 _ _ hG hS _ (lv_sub hl [0, 1, 2, 3, 4] rfl)
  have hk_1 : (1 : Int32).toInt = 1 := by decide
  have hk_0 : (0 : Int32).toInt = 0 := by decide
  exact hl1103 1000 1 0 _ _ (by omega) (by omega) (by omega) (by omega) hG hS _ (lv_sub hl [0, 1, 2, 3, 4] rfl)
theorem dX10_nextVerse_0 : decode cX10_nextVerse 0 = .ok (.aload_n 0, 1) := by decide +kernel
theorem dX10_nextVerse_1 : decode cX10_nextVerse 1 = .ok (.iload_n 1, 1) := by decide +kernel
theorem dX10_nextVerse_2 : decode cX10_nextVerse 2 = .ok (.invokevirtual 23, 3) := by decide +kernel
theorem dX10_nextVerse_5 : decode cX10_nextVerse 5 = .ok (.iconst 0, 1) := by decide +kernel
theorem dX10_nextVerse_6 : decode cX10_nextVerse 6 = .ok (.istore_n 3, 1) := by decide +kernel
theorem dX10_nextVerse_7 : decode cX10_nextVerse 7 = .ok (.iconst 1, 1) := by decide +kernel
theorem dX10_nextVerse_8 : decode cX10_nextVerse 8 = .ok (.istore 4, 2) := by decide +kernel
theorem dX10_nextVerse_10 : decode cX10_nextVerse 10 = .ok (.iload 4, 2) := by decide +kernel
theorem dX10_nextVerse_12 : decode cX10_nextVerse 12 = .ok (.sipush 999, 3) := by decide +kernel
theorem dX10_nextVerse_15 : decode cX10_nextVerse 15 = .ok (.if_icmp .gt 22, 3) := by decide +kernel
theorem dX10_nextVerse_37 : decode cX10_nextVerse 37 = .ok (.iconst (-1), 1) := by decide +kernel
theorem dX10_nextVerse_38 : decode cX10_nextVerse 38 = .ok (.istore 4, 2) := by decide +kernel
theorem dX10_nextVerse_40 : decode cX10_nextVerse 40 = .ok (.sipush 1000, 3) := by decide +kernel
theorem dX10_nextVerse_43 : decode cX10_nextVerse 43 = .ok (.istore 5, 2) := by decide +kernel
theorem dX10_nextVerse_45 : decode cX10_nextVerse 45 = .ok (.iconst 0, 1) := by decide +kernel
theorem dX10_nextVerse_46 : decode cX10_nextVerse 46 = .ok (.istore 6, 2) := by decide +kernel
theorem dX10_nextVerse_48 : decode cX10_nextVerse 48 = .ok (.iload 6, 2) := by decide +kernel
theorem dX10_nextVerse_50 : decode cX10_nextVerse 50 = .ok (.aload_n 0, 1) := by decide +kernel
theorem dX10_nextVerse_51 : decode cX10_nextVerse 51 = .ok (.getfield 15, 3) := by decide +kernel
theorem dX10_nextVerse_54 : decode cX10_nextVerse 54 = .ok (.getfield 27, 3) := by decide +kernel
theorem dX10_nextVerse_115 : decode cX10_nextVerse 115 = .ok (.iload 4, 2) := by decide +kernel
theorem dX10_nextVerse_117 : decode cX10_nextVerse 117 = .ok (.ireturn, 1) := by decide +kernel
theorem dX10_nextVerse_57 : decode cX10_nextVerse 57 = .ok (.if_icmp .ge 58, 3) := by decide +kernel
theorem dX10_nextVerse_60 : decode cX10_nextVerse 60 = .ok (.iload_n 3, 1) := by decide +kernel
theorem dX10_nextVerse_61 : decode cX10_nextVerse 61 = .ok (.ifCond .le 54, 3) := by decide +kernel
theorem dX10_nextVerse_64 : decode cX10_nextVerse 64 = .ok (.aload_n 0, 1) := by decide +kernel
theorem dX10_nextVerse_65 : decode cX10_nextVerse 65 = .ok (.getfield 19, 3) := by decide +kernel
theorem dX10_nextVerse_68 : decode cX10_nextVerse 68 = .ok (.iload 6, 2) := by decide +kernel
theorem dX10_nextVerse_70 : decode cX10_nextVerse 70 = .ok (.iload_n 2, 1) := by decide +kernel
theorem dX10_nextVerse_71 : decode cX10_nextVerse 71 = .ok (.iconst 0, 1) := by decide +kernel
theorem dX10_nextVerse_72 : decode cX10_nextVerse 72 = .ok (.iconst 0, 1) := by decide +kernel
theorem dX10_nextVerse_73 : decode cX10_nextVerse 73 = .ok (.iload_n 1, 1) := by decide +kernel
theorem dX10_nextVerse_74 : decode cX10_nextVerse 74 = .ok (.invokevirtual 33, 3) := by decide +kernel
theorem dX10_nextVerse_77 : decode cX10_nextVerse 77 = .ok (.aload_n 0, 1) := by decide +kernel
theorem dX10_nextVerse_78 : decode cX10_nextVerse 78 = .ok (.invokevirtual 39, 3) := by decide +kernel
theorem dX10_nextVerse_81 : decode cX10_nextVerse 81 = .ok (.istore 7, 2) := by decide +kernel
theorem dX10_nextVerse_83 : decode cX10_nextVerse 83 = .ok (.iload 7, 2) := by decide +kernel
theorem dX10_nextVerse_85 : decode cX10_nextVerse 85 = .ok (.iload_n 3, 1) := by decide +kernel
theorem dX10_nextVerse_86 : decode cX10_nextVerse 86 = .ok (.iload 7, 2) := by decide +kernel
theorem dX10_nextVerse_88 : decode cX10_nextVerse 88 = .ok (.isub, 1) := by decide +kernel
theorem dX10_nextVerse_89 : decode cX10_nextVerse 89 = .ok (.invokestatic 43, 3) := by decide +kernel
theorem dX10_nextVerse_92 : decode cX10_nextVerse 92 = .ok (.istore 8, 2) := by decide +kernel
theorem dX10_nextVerse_94 : decode cX10_nextVerse 94 = .ok (.iload 8, 2) := by decide +kernel
theorem dX10_nextVerse_96 : decode cX10_nextVerse 96 = .ok (.iload 5, 2) := by decide +kernel
theorem dX10_nextVerse_109 : decode cX10_nextVerse 109 = .ok (.iinc 6 1, 3) := by decide +kernel
theorem dX10_nextVerse_112 : decode cX10_nextVerse 112 = .ok (.goto (-64), 3) := by decide +kernel
theorem dX10_nextVerse_98 : decode cX10_nextVerse 98 = .ok (.if_icmp .ge 11, 3) := by decide +kernel
theorem dX10_nextVerse_101 : decode cX10_nextVerse 101 = .ok (.iload 8, 2) := by decide +kernel
theorem dX10_nextVerse_103 : decode cX10_nextVerse 103 = .ok (.istore 5, 2) := by decide +kernel
theorem dX10_nextVerse_105 : decode cX10_nextVerse 105 = .ok (.iload 6, 2) := by decide +kernel
theorem dX10_nextVerse_107 : decode cX10_nextVerse 107 = .ok (.istore 4, 2) := by decide +kernel
theorem dX10_nextVerse_18 : decode cX10_nextVerse 18 = .ok (.aload_n 0, 1) := by decide +kernel
theorem dX10_nextVerse_19 : decode cX10_nextVerse 19 = .ok (.getfield 9, 3) := by decide +kernel
theorem dX10_nextVerse_22 : decode cX10_nextVerse 22 = .ok (.iload 4, 2) := by decide +kernel
theorem dX10_nextVerse_24 : decode cX10_nextVerse 24 = .ok (.iaload, 1) := by decide +kernel
theorem dX10_nextVerse_31 : decode cX10_nextVerse 31 = .ok (.iinc 4 1, 3) := by decide +kernel
theorem dX10_nextVerse_34 : decode cX10_nextVerse 34 = .ok (.goto (-24), 3) := by decide +kernel
theorem dX10_nextVerse_25 : decode cX10_nextVerse 25 = .ok (.ifCond .le 6, 3) := by decide +kernel
theorem dX10_nextVerse_28 : decode cX10_nextVerse 28 = .ok (.iinc 3 1, 3) := by decide +kernel
set_option maxHeartbeats 4000000 in
set_option maxRecDepth 100000 in
theorem k_X10_nextVerse (l : Launch) (D : va_G) (cy : Nat → ClassId) (ld : Nat → Nat) (t : tk_T) (a0 : Nat) (p1 : Int32) (p2 : Int32) (ht_a0 : t a0 = (11, 0, 0)) (hp_0 : 0 ≤ p2.toInt) (hp_1 : p2.toInt ≤ 7) : Met l yX10_nextVerse (wl yX10_nextVerse cX10_nextVerse 9 (some .int)) ({ frames := 9, cells := 0, slots := 0, locals := 560 }) (tp D cy ld t [] [.ref a0, .int p1, .int p2] (fun H => True)) (ti D cy ld t [] (fun r H => (-1) ≤ r.toInt ∧ r.toInt ≤ 9) (tk_w t [(20, 0, 0), (12, 0, 0), (9, 0, 0)])) 0 0 (tk_w t [(20, 0, 0), (12, 0, 0), (9, 0, 0)]) := by
  refine tk_met (y := yX10_nextVerse) (cc := cX10_nextVerse) (maxL := 9) (ret := (some .int)) (av := [.ref a0, .int p1, .int p2]) _ _ (by decide) (Nat.le_of_ble_eq_true rfl) ?_
  intro p e s m args below meth c hx hb hr hml hts htl hown hlocks hK H locs hH hG hS hB hZ ls hl
  have hown : s.vm.findClass RX10 = some m.cls := hown
  have hl : lv_has ls 9 [(0, .ref a0), (1, .int p1), (2, .int p2)] := hl
  have hr_p1 := tk_rng p1
  have hr_p2 := tk_rng p2
  refine lv_aload_n hx hb dX10_nextVerse_0 rfl (lv_at hl 0 rfl) ?_
  refine lv_iload_n hx hb dX10_nextVerse_1 rfl (lv_at hl 1 rfl) ?_
  refine tk_Vv (As := [.int p1]) (rest := []) (ci := 10) ⟨hx, hb, hml, hown, hts⟩ hK hG hZ hS (k_X10_hearAll l D cy ld t a0 p1 ht_a0) trivial ⟨callB_of 1 hts (wl_in mw_1515) rfl rfl rfl (htl _ mw_52) (htl _ mw_1512) hd_yX10_hearAll ⟨(Nat.le_of_ble_eq_true rfl), (Nat.le_of_ble_eq_true rfl)⟩, htl _ mw_1513, htl _ mw_1514⟩ ht_a0 (by decide) tk_no rfl (tk_w.pick [0, 1, 2] rfl) rfl hl.1 rfl (Nat.le_of_ble_eq_true rfl) dX10_nextVerse_2 ⟨(Nat.le_of_ble_eq_true rfl), (Nat.le_of_ble_eq_true rfl)⟩ (fun H locs hpo hG hS hq9 => ?_)
  refine lv_iconst (v := 0) hx hb dX10_nextVerse_5 (by decide) ?_
  refine lv_istore_n (lv' := [(3, .int 0), (0, .ref a0), (1, .int p1), (2, .int p2)]) hx hb dX10_nextVerse_6 rfl hl (by decide) rfl (fun ls hl => ?_)
  refine lv_iconst (v := 1) hx hb dX10_nextVerse_7 (by decide) ?_
  refine lv_istore (lv' := [(4, .int 1), (3, .int 0), (0, .ref a0), (1, .int p1), (2, .int p2)]) hx hb dX10_nextVerse_8 hl (by decide) rfl (fun ls hl => ?_)
  have hl2937 : ∀ (N_l2937 : Nat) (v343 : Int32) (v344 : Int32), v343.toInt ≤ 1000 → 0 ≤ v344.toInt → 0 ≤ v343.toInt + (-1) * v344.toInt + (-1) → (-1) * v343.toInt + 1000 < (N_l2937 : Int) → ∀ ls : Array Slot, lv_has ls 9 [(4, .int v343), (3, .int v344), (0, .ref a0), (1, .int p1), (2, .int p2)] → W p l e ({ frames := 9, cells := 0, slots := 0, locals := 560 }) s m args below meth c H locs 0 0 (MQ below (ti D cy ld t [] (fun r H => (-1) ≤ r.toInt ∧ r.toInt ≤ 9) (tk_w t [(20, 0, 0), (12, 0, 0), (9, 0, 0)])) args s 0 0 (tk_w t [(20, 0, 0), (12, 0, 0), (9, 0, 0)])) (F0 m 10 ls []) := by
    intro N_l2937
    induction N_l2937 with
    | zero => intro v343 v344 hq0_l2937 hq1_l2937 hq2_l2937 hm_l2937 ls hl; exfalso; omega
    | succ N_l2937 ih_l2937 =>
      intro v343 v344 hq0_l2937 hq1_l2937 hq2_l2937 hm_l2937 ls hl
      refine lv_iload hx hb dX10_nextVerse_10 (lv_at hl 0 rfl) ?_
      refine lv_sipush (v := 999) hx hb dX10_nextVerse_12 (by decide) ?_
      refine lv_icmp_gt (tgt := 37) hx hb dX10_nextVerse_15 (by decide) (fun c9 => ?_) (fun c9 => ?_)
      · have hc2938 : 999 < v343.toInt := (fi_lt (show (999 : Int32).toInt = 999 by decide) rfl).mp c9
        refine lv_iconst (v := (-1)) hx hb dX10_nextVerse_37 (by decide) ?_
        refine lv_istore (lv' := [(4, .int (-1)), (3, .int v344), (0, .ref a0), (1, .int p1), (2, .int p2)]) hx hb dX10_nextVerse_38 hl (by decide) rfl (fun ls hl => ?_)
        refine lv_sipush (v := 1000) hx hb dX10_nextVerse_40 (by decide) ?_
        refine lv_istore (lv' := [(5, .int 1000), (4, .int (-1)), (3, .int v344), (0, .ref a0), (1, .int p1), (2, .int p2)]) hx hb dX10_nextVerse_43 hl (by decide) rfl (fun ls hl => ?_)
        refine lv_iconst (v := 0) hx hb dX10_nextVerse_45 (by decide) ?_
        refine lv_istore (lv' := [(6, .int 0), (5, .int 1000), (4, .int (-1)), (3, .int v344), (0, .ref a0), (1, .int p1), (2, .int p2)]) hx hb dX10_nextVerse_46 hl (by decide) rfl (fun ls hl => ?_)
        have hl3253 : ∀ (N_l3253 : Nat) (v2949 : Int32) (v2950 : Int32) (v2951 : Int32) (H : Heap) (locs : List Loc), v2950.toInt ≤ 1000 → v2949.toInt ≤ 10 → (-1) ≤ v2951.toInt → 0 ≤ v2949.toInt + (-1) * v2951.toInt + (-1) → (-1000000000) ≤ v2950.toInt → (-1) * v2949.toInt + 10 < (N_l3253 : Int) → tk_G D cy ld t [] H → va_S (tk_w t [(20, 0, 0), (12, 0, 0), (9, 0, 0)]) s.heap H locs → ∀ ls : Array Slot, lv_has ls 9 [(6, .int v2949), (5, .int v2950), (4, .int v2951), (3, .int v344), (0, .ref a0), (1, .int p1), (2, .int p2)] → W p l e ({ frames := 9, cells := 0, slots := 0, locals := 560 }) s m args below meth c H locs 0 0 (MQ below (ti D cy ld t [] (fun r H => (-1) ≤ r.toInt ∧ r.toInt ≤ 9) (tk_w t [(20, 0, 0), (12, 0, 0), (9, 0, 0)])) args s 0 0 (tk_w t [(20, 0, 0), (12, 0, 0), (9, 0, 0)])) (F0 m 48 ls []) := by
          intro N_l3253
          induction N_l3253 with
          | zero => intro v2949 v2950 v2951 H locs hq0_l3253 hq1_l3253 hq2_l3253 hq3_l3253 hq4_l3253 hm_l3253 hG hS ls hl; exfalso; omega
          | succ N_l3253 ih_l3253 =>
            intro v2949 v2950 v2951 H locs hq0_l3253 hq1_l3253 hq2_l3253 hq3_l3253 hq4_l3253 hm_l3253 hG hS ls hl
            refine lv_iload hx hb dX10_nextVerse_48 (lv_at hl 0 rfl) ?_
            refine lv_aload_n hx hb dX10_nextVerse_50 rfl (lv_at hl 4 rfl) ?_
            refine tk_get (ci := 10) (C := RX10) (T := TX10) (N := 3) (sp := (8, 20, 3, 0)) hx hb htl inX10 hown hK hG ht_a0 (by decide) tk_no rfl 0 (by decide) (htl _ mw_181) (fun _ h9 => h9) rfl dX10_nextVerse_51 (fun v9 hf3254 hV9 => ?_)
            obtain ⟨rfl, ht_ld20⟩ := hV9
            have ht_ld20 : t (ld 20) = (3, 0, 0) := ht_ld20
            refine fx_top (v := .ref (ld 20)) rfl ?_
            refine tk_get (ci := 2) (C := RX2) (T := TX2) (N := 20) (sp := (0, 0, 10, 0)) hx hb htl inX2 hown hK hG ht_ld20 (by decide) tk_no rfl 4 (by decide) (htl _ mw_1549) (fun _ h9 => h9) rfl dX10_nextVerse_54 (fun v9 hf3255 hV9 => ?_)
            obtain ⟨v3256, rfl, (ha_v3256 : 0 ≤ v3256.toInt), (hb_v3256 : v3256.toInt ≤ 10)⟩ := hV9
            have hj3275 : ∀ (_ : Unit), ∀ ls : Array Slot, lv_has ls 9 [(4, .int v2951)] → W p l e ({ frames := 9, cells := 0, slots := 0, locals := 560 }) s m args below meth c H locs 0 0 (MQ below (ti D cy ld t [] (fun r H => (-1) ≤ r.toInt ∧ r.toInt ≤ 9) (tk_w t [(20, 0, 0), (12, 0, 0), (9, 0, 0)])) args s 0 0 (tk_w t [(20, 0, 0), (12, 0, 0), (9, 0, 0)])) (F0 m 115 ls []) := by
              intro _  ls hl
              refine lv_iload hx hb dX10_nextVerse_115 (lv_at hl 0 rfl) ?_
              exact tk_iret (v := v2951) hx hb hr rfl hlocks (show (-1) ≤ v2951.toInt ∧ v2951.toInt ≤ 9 from ⟨(by omega), (by omega)⟩) hG hS dX10_nextVerse_117
            refine lv_icmp_ge (tgt := 115) hx hb dX10_nextVerse_57 (by decide) (fun c9 => ?_) (fun c9 => ?_)
            · have hc3257 : v3256.toInt ≤ v2949.toInt := (fi_le rfl rfl).mp c9
              exact hj3275 () _ (lv_sub hl [2] rfl)
            · have hc3257 : ¬ (v3256.toInt ≤ v2949.toInt) := fun h9 => c9 ((fi_le rfl rfl).mpr h9)
              refine lv_iload_n hx hb dX10_nextVerse_60 rfl (lv_at hl 3 rfl) ?_
              refine lv_if_le (tgt := 115) hx hb dX10_nextVerse_61 (by decide) (fun c9 => ?_) (fun c9 => ?_)
              · have hc3276 : v344.toInt ≤ 0 := (fi_le rfl (show (0 : Int32).toInt = 0 by decide)).mp c9
                exact hj3275 () _ (lv_sub hl [2] rfl)
              · have hc3276 : ¬ (v344.toInt ≤ 0) := fun h9 => c9 ((fi_le rfl (show (0 : Int32).toInt = 0 by decide)).mpr h9)
                refine lv_aload_n hx hb dX10_nextVerse_64 rfl (lv_at hl 4 rfl) ?_
                refine tk_get (ci := 10) (C := RX10) (T := TX10) (N := 3) (sp := (6, 9, 0, 0)) hx hb htl inX10 hown hK hG ht_a0 (by decide) tk_no rfl 1 (by decide) (htl _ mw_182) (fun _ h9 => h9) rfl dX10_nextVerse_65 (fun v9 hf3277 hV9 => ?_)
                obtain ⟨b3278, rfl, ht_b3278⟩ := hV9
                have ht_b3278 : t b3278 = (9, 0, 0) := ht_b3278
                refine lv_iload hx hb dX10_nextVerse_68 (lv_at hl 0 rfl) ?_
                refine lv_iload_n hx hb dX10_nextVerse_70 rfl (lv_at hl 6 rfl) ?_
                refine lv_iconst (v := 0) hx hb dX10_nextVerse_71 (by decide) ?_
                refine lv_iconst (v := 0) hx hb dX10_nextVerse_72 (by decide) ?_
                refine lv_iload_n hx hb dX10_nextVerse_73 rfl (lv_at hl 5 rfl) ?_
                have hk_0 : (0 : Int32).toInt = 0 := by decide
                have hk_0 : (0 : Int32).toInt = 0 := by decide
                refine tk_Vv (As := [.int v2949, .int p2, .int 0, .int 0, .int p1]) (rest := []) (ci := 8) ⟨hx, hb, hml, hown, hts⟩ hK hG hZ hS (k_X8_setStranger l D cy ld t b3278 v2949 p2 0 0 p1 ht_b3278 (by omega) (by omega) (by omega) (by omega)) trivial ⟨callB_of 5 hts (wl_in mw_1521) rfl rfl rfl (htl _ mw_21) (htl _ mw_1518) hd_yX8_setStranger ⟨(Nat.le_of_ble_eq_true rfl), (Nat.le_of_ble_eq_true rfl)⟩, htl _ mw_1519, htl _ mw_1520⟩ ht_b3278 (by decide) tk_no rfl (tk_w.pick [0] rfl) rfl hl.1 rfl (Nat.le_of_ble_eq_true rfl) dX10_nextVerse_74 ⟨(Nat.le_of_ble_eq_true rfl), (Nat.le_of_ble_eq_true rfl)⟩ (fun H locs hpo hG hS hq9 => ?_)
                have hf3255 := hf3255.call hq9 (tk_w.no ht_ld20 (by decide))
                refine lv_aload_n hx hb dX10_nextVerse_77 rfl (lv_at hl 4 rfl) ?_
                refine tk_Vi (As := []) (rest := []) (ci := 10) ⟨hx, hb, hml, hown, hts⟩ hK hG hZ hS (k_X10_howManySleep l D cy ld t a0 ht_a0) trivial ⟨callB_of 0 hts (wl_in mw_1553) rfl rfl rfl (htl _ mw_52) (htl _ mw_1550) hd_yX10_howManySleep ⟨(Nat.le_of_ble_eq_true rfl), (Nat.le_of_ble_eq_true rfl)⟩, htl _ mw_1551, htl _ mw_1552⟩ ht_a0 (by decide) tk_no rfl (tk_w.pick [0, 1, 2] rfl) rfl hl.1 rfl (Nat.le_of_ble_eq_true rfl) dX10_nextVerse_78 ⟨(Nat.le_of_ble_eq_true rfl), (Nat.le_of_ble_eq_true rfl)⟩ (fun v3280 H locs hpo hG hS hq9 => ?_)
                have hf3255 := hf3255.call hq9 (tk_w.no ht_ld20 (by decide))
                obtain ⟨hpo3282, hpo3283⟩ := hpo
                refine lv_istore (lv' := [(7, .int v3280), (6, .int v2949), (5, .int v2950), (4, .int v2951), (3, .int v344), (0, .ref a0), (1, .int p1), (2, .int p2)]) hx hb dX10_nextVerse_81 hl (by decide) rfl (fun ls hl => ?_)
                refine lv_iload hx hb dX10_nextVerse_83 (lv_at hl 0 rfl) ?_
                refine lv_iload_n hx hb dX10_nextVerse_85 rfl (lv_at hl 4 rfl) ?_
                refine lv_iload hx hb dX10_nextVerse_86 (lv_at hl 0 rfl) ?_
                refine lv_isub hx hb dX10_nextVerse_88 ?_
                refine tk_sub rfl rfl (by omega) (by omega) (fun v3284 h_v3284 => ?_)
                refine va_mmax hx hb (by rw [hml]; exact hl.1.symm) hown (htl _ mw_1527) (htl _ mw_948) (htl _ mw_474) (htl _ mw_949) (Nat.le_of_ble_eq_true rfl) (Nat.le_of_ble_eq_true rfl) (Nat.le_of_ble_eq_true rfl) (Nat.le_of_ble_eq_true rfl) dX10_nextVerse_89 ?_
                refine tk_say (P := fun z => v3280.toInt ≤ z.toInt ∧ v3284.toInt ≤ z.toInt ∧ (z.toInt = v3280.toInt ∨ z.toInt = v3284.toInt)) (tk_max rfl rfl) (fun v3285 h_v3285 => ?_)
                refine lv_istore (lv' := [(8, .int v3285), (7, .int v3280), (6, .int v2949), (5, .int v2950), (4, .int v2951), (3, .int v344), (0, .ref a0), (1, .int p1), (2, .int p2)]) hx hb dX10_nextVerse_92 hl (by decide) rfl (fun ls hl => ?_)
                refine lv_iload hx hb dX10_nextVerse_94 (lv_at hl 0 rfl) ?_
                refine lv_iload hx hb dX10_nextVerse_96 (lv_at hl 3 rfl) ?_
                have hj3291 : ∀ (v3289 : Int32) (v3290 : Int32), (-1000000000) ≤ v3289.toInt → 0 ≤ v3285.toInt + (-1) * v3289.toInt → 0 ≤ v2950.toInt + (-1) * v3289.toInt → 0 ≤ v2949.toInt + (-1) * v3290.toInt → 0 ≤ (-1) * v2951.toInt + v3290.toInt → ∀ ls : Array Slot, lv_has ls 9 [(6, .int v2949), (5, .int v3289), (4, .int v3290), (3, .int v344), (0, .ref a0), (1, .int p1), (2, .int p2)] → W p l e ({ frames := 9, cells := 0, slots := 0, locals := 560 }) s m args below meth c H locs 0 0 (MQ below (ti D cy ld t [] (fun r H => (-1) ≤ r.toInt ∧ r.toInt ≤ 9) (tk_w t [(20, 0, 0), (12, 0, 0), (9, 0, 0)])) args s 0 0 (tk_w t [(20, 0, 0), (12, 0, 0), (9, 0, 0)])) (F0 m 109 ls []) := by
                  intro v3289 v3290 hq0_j3291 hq1_j3291 hq2_j3291 hq3_j3291 hq4_j3291 ls hl
                  obtain ⟨v3292, h_v3292, e_v3292⟩ := tk_inc v2949 1 (by decide) (by omega) (by omega)
                  refine lv_iinc (v := v3292) (lv' := [(6, .int v3292), (5, .int v3289), (4, .int v3290), (3, .int v344), (0, .ref a0), (1, .int p1), (2, .int p2)]) hx hb dX10_nextVerse_109 hl (k := 0) rfl e_v3292 (by decide) rfl (fun ls hl => ?_)
                  refine lv_goto (tgt := 48) hx hb dX10_nextVerse_112 (by decide) ?_
                  exact ih_l3253 v3292 v3289 v3290 _ _ (by omega) (by omega) (by omega) (by omega) (by omega) (by omega) hG hS _ (lv_sub hl [0, 1, 2, 3, 4, 5, 6] rfl)
                refine lv_icmp_ge (tgt := 109) hx hb dX10_nextVerse_98 (by decide) (fun c9 => ?_) (fun c9 => ?_)
                · have hc3286 : v2950.toInt ≤ v3285.toInt := (fi_le rfl rfl).mp c9
                  exact hj3291 v2950 v2951 (by omega) (by omega) (by omega) (by omega) (by omega) _ (lv_sub hl [2, 3, 4, 5, 6, 7, 8] rfl)
                · have hc3286 : ¬ (v2950.toInt ≤ v3285.toInt) := fun h9 => c9 ((fi_le rfl rfl).mpr h9)
                  refine lv_iload hx hb dX10_nextVerse_101 (lv_at hl 0 rfl) ?_
                  refine lv_istore (lv' := [(5, .int v3285), (8, .int v3285), (7, .int v3280), (6, .int v2949), (4, .int v2951), (3, .int v344), (0, .ref a0), (1, .int p1), (2, .int p2)]) hx hb dX10_nextVerse_103 hl (by decide) rfl (fun ls hl => ?_)
                  refine lv_iload hx hb dX10_nextVerse_105 (lv_at hl 3 rfl) ?_
                  refine lv_istore (lv' := [(4, .int v2949), (5, .int v3285), (8, .int v3285), (7, .int v3280), (6, .int v2949), (3, .int v344), (0, .ref a0), (1, .int p1), (2, .int p2)]) hx hb dX10_nextVerse_107 hl (by decide) rfl (fun ls hl => ?_)
                  exact hj3291 v3285 v2949 (by omega) (by omega) (by omega) (by omega) (by omega) _ (lv_sub hl [4, 1, 0, 5, 6, 7, 8] rfl)
        have hk_0 : (0 : Int32).toInt = 0 := by decide
        have hk_1000 : (1000 : Int32).toInt = 1000 := by decide
        have hk_m1 : ((-1) : Int32).toInt = (-1) := by decide
        exact hl3253 11 0 1000 (-1) _ _ (by omega) (by omega) (by omega) (by omega) (by omega) (by omega) hG hS _ (lv_sub hl [0, 1, 2, 3, 4, 5, 6] rfl)
      · have hc2938 : ¬ (999 < v343.toInt) := fun h9 => c9 ((fi_lt (show (999 : Int32).toInt = 999 by decide) rfl).mpr h9)
        refine lv_aload_n hx hb dX10_nextVerse_18 rfl (lv_at hl 2 rfl) ?_
        refine tk_get (ci := 10) (C := RX10) (T := TX10) (N := 3) (sp := (6, 20, 1000, 0)) hx hb htl inX10 hown hK hG ht_a0 (by decide) tk_no rfl 2 (by decide) (htl _ mw_180) (fun _ h9 => h9) rfl dX10_nextVerse_19 (fun v9 hf3293 hV9 => ?_)
        obtain ⟨b3294, rfl, ht_b3294⟩ := hV9
        have ht_b3294 : t b3294 = (20, 1000, 0) := ht_b3294
        refine lv_iload hx hb dX10_nextVerse_22 (lv_at hl 0 rfl) ?_
        refine tk_iald hx hb hK hG ht_b3294 (by decide) (fun _ h => h) tk_no rfl (by omega) (by omega) dX10_nextVerse_24 (fun v3295 _ _ => ?_)
        have hr_v3295 := tk_rng v3295
        have hj3300 : ∀ (v3299 : Int32), 0 ≤ (-1) * v3299.toInt + v344.toInt + 1 → 0 ≤ v3299.toInt + (-1) * v344.toInt → ∀ ls : Array Slot, lv_has ls 9 [(4, .int v343), (3, .int v3299), (0, .ref a0), (1, .int p1), (2, .int p2)] → W p l e ({ frames := 9, cells := 0, slots := 0, locals := 560 }) s m args below meth c H locs 0 0 (MQ below (ti D cy ld t [] (fun r H => (-1) ≤ r.toInt ∧ r.toInt ≤ 9) (tk_w t [(20, 0, 0), (12, 0, 0), (9, 0, 0)])) args s 0 0 (tk_w t [(20, 0, 0), (12, 0, 0), (9, 0, 0)])) (F0 m 31 ls []) := by
          intro v3299 hq0_j3300 hq1_j3300 ls hl
          obtain ⟨v3301, h_v3301, e_v3301⟩ := tk_inc v343 1 (by decide) (by omega) (by omega)
          refine lv_iinc (v := v3301) (lv' := [(4, .int v3301), (3, .int v3299), (0, .ref a0), (1, .int p1), (2, .int p2)]) hx hb dX10_nextVerse_31 hl (k := 0) rfl e_v3301 (by decide) rfl (fun ls hl => ?_)
          refine lv_goto (tgt := 10) hx hb dX10_nextVerse_34 (by decide) ?_
          exact ih_l2937 v3301 v3299 (by omega) (by omega) (by omega) (by omega) _ (lv_sub hl [0, 1, 2, 3, 4] rfl)
        refine lv_if_le (tgt := 31) hx hb dX10_nextVerse_25 (by decide) (fun c9 => ?_) (fun c9 => ?_)
        · have hc3296 : v3295.toInt ≤ 0 := (fi_le rfl (show (0 : Int32).toInt = 0 by decide)).mp c9
          exact hj3300 v344 (by omega) (by omega) _ (lv_sub hl [0, 1, 2, 3, 4] rfl)
        · have hc3296 : ¬ (v3295.toInt ≤ 0) := fun h9 => c9 ((fi_le rfl (show (0 : Int32).toInt = 0 by decide)).mpr h9)
          obtain ⟨v3302, h_v3302, e_v3302⟩ := tk_inc v344 1 (by decide) (by omega) (by omega)
          refine lv_iinc (v := v3302) (lv' := [(3, .int v3302), (4, .int v343), (0, .ref a0), (1, .int p1), (2, .int p2)]) hx hb dX10_nextVerse_28 hl (k := 1) rfl e_v3302 (by decide) rfl (fun ls hl => ?_)
          exact hj3300 v3302 (by omega) (by omega) _ (lv_sub hl [1, 0, 2, 3, 4] rfl)
  have hk_1 : (1 : Int32).toInt = 1 := by decide
  have hk_0 : (0 : Int32).toInt = 0 := by decide
  exact hl2937 1000 1 0 (by omega) (by omega) (by omega) (by omega) _ (lv_sub hl [0, 1, 2, 3, 4] rfl)
theorem dX12_accept_0 : decode cX12_accept 0 = .ok (.aload_n 0, 1) := by decide +kernel
theorem dX12_accept_1 : decode cX12_accept 1 = .ok (.iconst 0, 1) := by decide +kernel
theorem dX12_accept_2 : decode cX12_accept 2 = .ok (.putfield 355, 3) := by decide +kernel
theorem dX12_accept_5 : decode cX12_accept 5 = .ok (.iload_n 1, 1) := by decide +kernel
theorem dX12_accept_6 : decode cX12_accept 6 = .ok (.ireturn, 1) := by decide +kernel
theorem dX12_refuse_0 : decode cX12_refuse 0 = .ok (.aload_n 0, 1) := by decide +kernel
theorem dX12_refuse_1 : decode cX12_refuse 1 = .ok (.iload_n 1, 1) := by decide +kernel
theorem dX12_refuse_2 : decode cX12_refuse 2 = .ok (.putfield 355, 3) := by decide +kernel
theorem dX12_refuse_5 : decode cX12_refuse 5 = .ok (.iload_n 1, 1) := by decide +kernel
theorem dX12_refuse_6 : decode cX12_refuse 6 = .ok (.bipush (-3), 2) := by decide +kernel
theorem dX12_refuse_22 : decode cX12_refuse 22 = .ok (.istore_n 2, 1) := by decide +kernel
theorem dX12_refuse_23 : decode cX12_refuse 23 = .ok (.iload_n 2, 1) := by decide +kernel
theorem dX12_refuse_24 : decode cX12_refuse 24 = .ok (.iconst 0, 1) := by decide +kernel
theorem dX12_refuse_25 : decode cX12_refuse 25 = .ok (.aload_n 0, 1) := by decide +kernel
theorem dX12_refuse_26 : decode cX12_refuse 26 = .ok (.getfield 96, 3) := by decide +kernel
theorem dX12_refuse_29 : decode cX12_refuse 29 = .ok (.arraylength, 1) := by decide +kernel
theorem dX12_refuse_30 : decode cX12_refuse 30 = .ok (.iconst 1, 1) := by decide +kernel
theorem dX12_refuse_31 : decode cX12_refuse 31 = .ok (.isub, 1) := by decide +kernel
theorem dX12_refuse_32 : decode cX12_refuse 32 = .ok (.invokestatic 146, 3) := by decide +kernel
theorem dX12_refuse_48 : decode cX12_refuse 48 = .ok (.iload_n 1, 1) := by decide +kernel
theorem dX12_refuse_49 : decode cX12_refuse 49 = .ok (.ireturn, 1) := by decide +kernel
theorem dX12_refuse_35 : decode cX12_refuse 35 = .ok (.ifCond .eq 13, 3) := by decide +kernel
theorem dX12_refuse_38 : decode cX12_refuse 38 = .ok (.aload_n 0, 1) := by decide +kernel
theorem dX12_refuse_39 : decode cX12_refuse 39 = .ok (.getfield 96, 3) := by decide +kernel
theorem dX12_refuse_42 : decode cX12_refuse 42 = .ok (.iload_n 2, 1) := by decide +kernel
theorem dX12_refuse_43 : decode cX12_refuse 43 = .ok (.dup2, 1) := by decide +kernel
theorem dX12_refuse_44 : decode cX12_refuse 44 = .ok (.iaload, 1) := by decide +kernel
theorem dX12_refuse_45 : decode cX12_refuse 45 = .ok (.iconst 1, 1) := by decide +kernel
theorem dX12_refuse_46 : decode cX12_refuse 46 = .ok (.iadd, 1) := by decide +kernel
theorem dX12_refuse_47 : decode cX12_refuse 47 = .ok (.iastore, 1) := by decide +kernel
theorem dX12_refuse_8 : decode cX12_refuse 8 = .ok (.if_icmp .lt 10, 3) := by decide +kernel
theorem dX12_refuse_18 : decode cX12_refuse 18 = .ok (.iload_n 1, 1) := by decide +kernel
theorem dX12_refuse_19 : decode cX12_refuse 19 = .ok (.ineg, 1) := by decide +kernel
theorem dX12_refuse_20 : decode cX12_refuse 20 = .ok (.iconst 2, 1) := by decide +kernel
theorem dX12_refuse_21 : decode cX12_refuse 21 = .ok (.isub, 1) := by decide +kernel
theorem dX12_refuse_11 : decode cX12_refuse 11 = .ok (.iload_n 1, 1) := by decide +kernel
theorem dX12_refuse_12 : decode cX12_refuse 12 = .ok (.ineg, 1) := by decide +kernel
theorem dX12_refuse_13 : decode cX12_refuse 13 = .ok (.iconst 1, 1) := by decide +kernel
theorem dX12_refuse_14 : decode cX12_refuse 14 = .ok (.isub, 1) := by decide +kernel
theorem dX12_refuse_15 : decode cX12_refuse 15 = .ok (.goto 7, 3) := by decide +kernel
theorem dX12_tell_0 : decode cX12_tell 0 = .ok (.iload_n 1, 1) := by decide +kernel
theorem dX12_tell_1 : decode cX12_tell 1 = .ok (.ifCond .ge 11, 3) := by decide +kernel
theorem dX12_tell_12 : decode cX12_tell 12 = .ok (.aload_n 0, 1) := by decide +kernel
theorem dX12_tell_13 : decode cX12_tell 13 = .ok (.iload_n 1, 1) := by decide +kernel
theorem dX12_tell_14 : decode cX12_tell 14 = .ok (.invokevirtual 165, 3) := by decide +kernel
theorem dX12_tell_17 : decode cX12_tell 17 = .ok (.ireturn, 1) := by decide +kernel
theorem dX12_tell_4 : decode cX12_tell 4 = .ok (.aload_n 0, 1) := by decide +kernel
theorem dX12_tell_5 : decode cX12_tell 5 = .ok (.iload_n 1, 1) := by decide +kernel
theorem dX12_tell_6 : decode cX12_tell 6 = .ok (.invokevirtual 159, 3) := by decide +kernel
theorem dX12_tell_9 : decode cX12_tell 9 = .ok (.goto 8, 3) := by decide +kernel
theorem dX12_singer_0 : decode cX12_singer 0 = .ok (.aload_n 0, 1) := by decide +kernel
theorem dX12_singer_1 : decode cX12_singer 1 = .ok (.getfield 10, 3) := by decide +kernel
theorem dX12_singer_4 : decode cX12_singer 4 = .ok (.iload_n 1, 1) := by decide +kernel
theorem dX12_singer_5 : decode cX12_singer 5 = .ok (.iload_n 2, 1) := by decide +kernel
theorem dX12_singer_6 : decode cX12_singer 6 = .ok (.iload_n 3, 1) := by decide +kernel
theorem dX12_singer_7 : decode cX12_singer 7 = .ok (.invokevirtual 103, 3) := by decide +kernel
theorem dX12_singer_10 : decode cX12_singer 10 = .ok (.istore 4, 2) := by decide +kernel
theorem dX12_singer_12 : decode cX12_singer 12 = .ok (.iload 4, 2) := by decide +kernel
theorem dX12_singer_24 : decode cX12_singer 24 = .ok (.aload_n 0, 1) := by decide +kernel
theorem dX12_singer_25 : decode cX12_singer 25 = .ok (.iload 4, 2) := by decide +kernel
theorem dX12_singer_27 : decode cX12_singer 27 = .ok (.invokevirtual 110, 3) := by decide +kernel
theorem dX12_singer_30 : decode cX12_singer 30 = .ok (.ireturn, 1) := by decide +kernel
theorem dX12_singer_14 : decode cX12_singer 14 = .ok (.ifCond .lt 10, 3) := by decide +kernel
theorem dX12_singer_17 : decode cX12_singer 17 = .ok (.aload_n 0, 1) := by decide +kernel
theorem dX12_singer_18 : decode cX12_singer 18 = .ok (.getfield 38, 3) := by decide +kernel
theorem dX12_singer_21 : decode cX12_singer 21 = .ok (.invokevirtual 107, 3) := by decide +kernel
