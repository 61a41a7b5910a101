theorem dX8_howWakes_0 : decode cX8_howWakes 0 = .ok (.aload_n 0, 1) := by decide +kernel
theorem dX8_howWakes_1 : decode cX8_howWakes 1 = .ok (.getfield 12, 3) := by decide +kernel
theorem dX8_howWakes_4 : decode cX8_howWakes 4 = .ok (.getfield 48, 3) := by decide +kernel
theorem dX8_howWakes_7 : decode cX8_howWakes 7 = .ok (.astore_n 3, 1) := by decide +kernel
theorem dX8_howWakes_8 : decode cX8_howWakes 8 = .ok (.aload_n 3, 1) := by decide +kernel
theorem dX8_howWakes_9 : decode cX8_howWakes 9 = .ok (.iconst 0, 1) := by decide +kernel
theorem dX8_howWakes_10 : decode cX8_howWakes 10 = .ok (.aload_n 0, 1) := by decide +kernel
theorem dX8_howWakes_11 : decode cX8_howWakes 11 = .ok (.getfield 18, 3) := by decide +kernel
theorem dX8_howWakes_14 : decode cX8_howWakes 14 = .ok (.getfield 52, 3) := by decide +kernel
theorem dX8_howWakes_17 : decode cX8_howWakes 17 = .ok (.iload_n 2, 1) := by decide +kernel
theorem dX8_howWakes_18 : decode cX8_howWakes 18 = .ok (.iaload, 1) := by decide +kernel
theorem dX8_howWakes_19 : decode cX8_howWakes 19 = .ok (.iastore, 1) := by decide +kernel
theorem dX8_howWakes_20 : decode cX8_howWakes 20 = .ok (.aload_n 3, 1) := by decide +kernel
theorem dX8_howWakes_21 : decode cX8_howWakes 21 = .ok (.iconst 1, 1) := by decide +kernel
theorem dX8_howWakes_22 : decode cX8_howWakes 22 = .ok (.iconst (-1), 1) := by decide +kernel
theorem dX8_howWakes_23 : decode cX8_howWakes 23 = .ok (.iastore, 1) := by decide +kernel
theorem dX8_howWakes_24 : decode cX8_howWakes 24 = .ok (.aload_n 3, 1) := by decide +kernel
theorem dX8_howWakes_25 : decode cX8_howWakes 25 = .ok (.iconst 2, 1) := by decide +kernel
theorem dX8_howWakes_26 : decode cX8_howWakes 26 = .ok (.iconst (-1), 1) := by decide +kernel
theorem dX8_howWakes_27 : decode cX8_howWakes 27 = .ok (.iastore, 1) := by decide +kernel
theorem dX8_howWakes_28 : decode cX8_howWakes 28 = .ok (.aload_n 3, 1) := by decide +kernel
theorem dX8_howWakes_29 : decode cX8_howWakes 29 = .ok (.iconst 3, 1) := by decide +kernel
theorem dX8_howWakes_30 : decode cX8_howWakes 30 = .ok (.iconst (-1), 1) := by decide +kernel
theorem dX8_howWakes_31 : decode cX8_howWakes 31 = .ok (.iastore, 1) := by decide +kernel
theorem dX8_howWakes_32 : decode cX8_howWakes 32 = .ok (.aload_n 3, 1) := by decide +kernel
theorem dX8_howWakes_33 : decode cX8_howWakes 33 = .ok (.iconst 4, 1) := by decide +kernel
theorem dX8_howWakes_34 : decode cX8_howWakes 34 = .ok (.iconst (-1), 1) := by decide +kernel
theorem dX8_howWakes_35 : decode cX8_howWakes 35 = .ok (.iastore, 1) := by decide +kernel
theorem dX8_howWakes_36 : decode cX8_howWakes 36 = .ok (.aload_n 3, 1) := by decide +kernel
theorem dX8_howWakes_37 : decode cX8_howWakes 37 = .ok (.iconst 5, 1) := by decide +kernel
theorem dX8_howWakes_38 : decode cX8_howWakes 38 = .ok (.aload_n 1, 1) := by decide +kernel
theorem dX8_howWakes_39 : decode cX8_howWakes 39 = .ok (.getfield 55, 3) := by decide +kernel
theorem dX8_howWakes_42 : decode cX8_howWakes 42 = .ok (.iload_n 2, 1) := by decide +kernel
theorem dX8_howWakes_43 : decode cX8_howWakes 43 = .ok (.iaload, 1) := by decide +kernel
theorem dX8_howWakes_44 : decode cX8_howWakes 44 = .ok (.iastore, 1) := by decide +kernel
theorem dX8_howWakes_45 : decode cX8_howWakes 45 = .ok (.aload_n 3, 1) := by decide +kernel
theorem dX8_howWakes_46 : decode cX8_howWakes 46 = .ok (.bipush 6, 2) := by decide +kernel
theorem dX8_howWakes_48 : decode cX8_howWakes 48 = .ok (.iconst (-1), 1) := by decide +kernel
theorem dX8_howWakes_49 : decode cX8_howWakes 49 = .ok (.iastore, 1) := by decide +kernel
theorem dX8_howWakes_50 : decode cX8_howWakes 50 = .ok (.aload_n 3, 1) := by decide +kernel
theorem dX8_howWakes_51 : decode cX8_howWakes 51 = .ok (.bipush 7, 2) := by decide +kernel
theorem dX8_howWakes_53 : decode cX8_howWakes 53 = .ok (.aload_n 1, 1) := by decide +kernel
theorem dX8_howWakes_54 : decode cX8_howWakes 54 = .ok (.getfield 60, 3) := by decide +kernel
theorem dX8_howWakes_57 : decode cX8_howWakes 57 = .ok (.iastore, 1) := by decide +kernel
theorem dX8_howWakes_58 : decode cX8_howWakes 58 = .ok (.aload_n 3, 1) := by decide +kernel
theorem dX8_howWakes_59 : decode cX8_howWakes 59 = .ok (.bipush 8, 2) := by decide +kernel
theorem dX8_howWakes_61 : decode cX8_howWakes 61 = .ok (.aload_n 0, 1) := by decide +kernel
theorem dX8_howWakes_62 : decode cX8_howWakes 62 = .ok (.getfield 18, 3) := by decide +kernel
theorem dX8_howWakes_65 : decode cX8_howWakes 65 = .ok (.getfield 64, 3) := by decide +kernel
theorem dX8_howWakes_68 : decode cX8_howWakes 68 = .ok (.iastore, 1) := by decide +kernel
theorem dX8_howWakes_69 : decode cX8_howWakes 69 = .ok (.aload_n 0, 1) := by decide +kernel
theorem dX8_howWakes_70 : decode cX8_howWakes 70 = .ok (.iconst 2, 1) := by decide +kernel
theorem dX8_howWakes_71 : decode cX8_howWakes 71 = .ok (.invokevirtual 45, 3) := by decide +kernel
theorem dX8_howWakes_74 : decode cX8_howWakes 74 = .ok (.ifCond .eq 16, 3) := by decide +kernel
theorem dX8_howWakes_90 : decode cX8_howWakes 90 = .ok (.bipush 100, 2) := by decide +kernel
theorem dX8_howWakes_92 : decode cX8_howWakes 92 = .ok (.ireturn, 1) := by decide +kernel
theorem dX8_howWakes_77 : decode cX8_howWakes 77 = .ok (.aload_n 0, 1) := by decide +kernel
theorem dX8_howWakes_78 : decode cX8_howWakes 78 = .ok (.getfield 67, 3) := by decide +kernel
theorem dX8_howWakes_81 : decode cX8_howWakes 81 = .ok (.sipush 999, 3) := by decide +kernel
theorem dX8_howWakes_84 : decode cX8_howWakes 84 = .ok (.invokestatic 70, 3) := by decide +kernel
theorem dX8_howWakes_87 : decode cX8_howWakes 87 = .ok (.goto 5, 3) := by decide +kernel
set_option maxHeartbeats 4000000 in
set_option maxRecDepth 100000 in
theorem k_X8_howWakes (l : Launch) (D : va_G) (cy : Nat → ClassId) (ld : Nat → Nat) (t : tk_T) (rg1 : Nat) (a0 : Nat) (a1 : Nat) (p2 : Int32) (ht_a0 : t a0 = (9, 0, 0)) (ht_a1 : t a1 = (10, 0, rg1)) (hp_0 : 0 ≤ p2.toInt) (hp_1 : p2.toInt ≤ 7) : Met l yX8_howWakes (wl yX8_howWakes cX8_howWakes 4 (some .int)) ({ frames := 5, cells := 0, slots := 0, locals := 280 }) (tp D cy ld t [] [.ref a0, .ref a1, .int p2] (fun H => True)) (ti D cy ld t [] (fun r H => 0 ≤ r.toInt) (tk_w t [(20, 0, 0), (12, 0, 0), (9, 0, 0)])) 0 0 (tk_w t [(20, 0, 0), (12, 0, 0), (9, 0, 0)]) := by
  refine tk_met (y := yX8_howWakes) (cc := cX8_howWakes) (maxL := 4) (ret := (some .int)) (av := [.ref a0, .ref a1, .int p2]) _ _ (by decide) (Nat.le_of_ble_eq_true rfl) ?_
  intro p e s m args below meth c hx hb hr hml hts htl hown hlocks hK H locs hH hG hS hB hZ ls hl
  have hown : s.vm.findClass RX8 = some m.cls := hown
  have hl : lv_has ls 4 [(0, .ref a0), (1, .ref a1), (2, .int p2)] := hl
  have hr_p2 := tk_rng p2
  refine lv_aload_n hx hb dX8_howWakes_0 rfl (lv_at hl 0 rfl) ?_
  refine tk_get (ci := 8) (C := RX8) (T := TX8) (N := 3) (sp := (6, 12, 0, 0)) hx hb htl inX8 hown hK hG ht_a0 (by decide) tk_no rfl 0 (by decide) (htl _ mw_96) (fun _ h9 => h9) rfl dX8_howWakes_1 (fun v9 hf1 hV9 => ?_)
  obtain ⟨b2, rfl, ht_b2⟩ := hV9
  have ht_b2 : t b2 = (12, 0, 0) := ht_b2
  refine tk_get (ci := 11) (C := RX11) (T := TX11) (N := 3) (sp := (6, 20, 15, 0)) hx hb htl inX11 hown hK hG ht_b2 (by decide) tk_no rfl 0 (by decide) (htl _ mw_917) (fun _ h9 => h9) rfl dX8_howWakes_4 (fun v9 hf3 hV9 => ?_)
  obtain ⟨b4, rfl, ht_b4⟩ := hV9
  have ht_b4 : t b4 = (20, 15, 0) := ht_b4
  refine lv_astore_n (lv' := [(3, .ref b4), (0, .ref a0), (1, .ref a1), (2, .int p2)]) hx hb dX8_howWakes_7 rfl hl (by decide) rfl (fun ls hl => ?_)
  refine lv_aload_n hx hb dX8_howWakes_8 rfl (lv_at hl 0 rfl) ?_
  refine lv_iconst (v := 0) hx hb dX8_howWakes_9 (by decide) ?_
  refine lv_aload_n hx hb dX8_howWakes_10 rfl (lv_at hl 1 rfl) ?_
  refine tk_get (ci := 8) (C := RX8) (T := TX8) (N := 3) (sp := (8, 20, 3, 0)) hx hb htl inX8 hown hK hG ht_a0 (by decide) tk_no rfl 1 (by decide) (htl _ mw_97) (fun _ h9 => h9) rfl dX8_howWakes_11 (fun v9 hf5 hV9 => ?_)
  obtain ⟨rfl, ht_ld20⟩ := hV9
  have ht_ld20 : t (ld 20) = (3, 0, 0) := ht_ld20
  refine fx_top (v := .ref (ld 20)) rfl ?_
  refine tk_get (ci := 2) (C := RX2) (T := TX2) (N := 20) (sp := (1, 20, 8, 0)) hx hb htl inX2 hown hK hG ht_ld20 (by decide) tk_no rfl 1 (by decide) (htl _ mw_919) (fun _ h9 => h9) rfl dX8_howWakes_14 (fun v9 hf6 hV9 => ?_)
  obtain ⟨b7, rfl, ht_b7⟩ := hV9
  have ht_b7 : t b7 = (20, 8, 0) := ht_b7
  refine lv_iload_n hx hb dX8_howWakes_17 rfl (lv_at hl 3 rfl) ?_
  refine tk_iald hx hb hK hG ht_b7 (by decide) (fun _ h => h) tk_no rfl (by omega) (by omega) dX8_howWakes_18 (fun v8 _ _ => ?_)
  have hr_v8 := tk_rng v8
  refine tk_iast hx hb hK hG hS ht_b4 (by decide) (fun _ => Iff.rfl) tk_no (I := 0) (by decide) (by decide) (by decide) trivial (tk_w.of ht_b4 (by decide) (List.mem_of_getElem? (i := 0) rfl) (Nat.le_refl _) (Nat.le_refl _)) dX8_howWakes_19 (fun H locs hG hS hq9 => ?_)
  refine lv_aload_n hx hb dX8_howWakes_20 rfl (lv_at hl 0 rfl) ?_
  refine lv_iconst (v := 1) hx hb dX8_howWakes_21 (by decide) ?_
  refine lv_iconst (v := (-1)) hx hb dX8_howWakes_22 (by decide) ?_
  refine tk_iast hx hb hK hG hS ht_b4 (by decide) (fun _ => Iff.rfl) tk_no (I := 1) (by decide) (by decide) (by decide) trivial (tk_w.of ht_b4 (by decide) (List.mem_of_getElem? (i := 0) rfl) (Nat.le_refl _) (Nat.le_refl _)) dX8_howWakes_23 (fun H locs hG hS hq9 => ?_)
  refine lv_aload_n hx hb dX8_howWakes_24 rfl (lv_at hl 0 rfl) ?_
  refine lv_iconst (v := 2) hx hb dX8_howWakes_25 (by decide) ?_
  refine lv_iconst (v := (-1)) hx hb dX8_howWakes_26 (by decide) ?_
  refine tk_iast hx hb hK hG hS ht_b4 (by decide) (fun _ => Iff.rfl) tk_no (I := 2) (by decide) (by decide) (by decide) trivial (tk_w.of ht_b4 (by decide) (List.mem_of_getElem? (i := 0) rfl) (Nat.le_refl _) (Nat.le_refl _)) dX8_howWakes_27 (fun H locs hG hS hq9 => ?_)
  refine lv_aload_n hx hb dX8_howWakes_28 rfl (lv_at hl 0 rfl) ?_
  refine lv_iconst (v := 3) hx hb dX8_howWakes_29 (by decide) ?_
  refine lv_iconst (v := (-1)) hx hb dX8_howWakes_30 (by decide) ?_
  refine tk_iast hx hb hK hG hS ht_b4 (by decide) (fun _ => Iff.rfl) tk_no (I := 3) (by decide) (by decide) (by decide) trivial (tk_w.of ht_b4 (by decide) (List.mem_of_getElem? (i := 0) rfl) (Nat.le_refl _) (Nat.le_refl _)) dX8_howWakes_31 (fun H locs hG hS hq9 => ?_)
  refine lv_aload_n hx hb dX8_howWakes_32 rfl (lv_at hl 0 rfl) ?_
  refine lv_iconst (v := 4) hx hb dX8_howWakes_33 (by decide) ?_
  refine lv_iconst (v := (-1)) hx hb dX8_howWakes_34 (by decide) ?_
  refine tk_iast hx hb hK hG hS ht_b4 (by decide) (fun _ => Iff.rfl) tk_no (I := 4) (by decide) (by decide) (by decide) trivial (tk_w.of ht_b4 (by decide) (List.mem_of_getElem? (i := 0) rfl) (Nat.le_refl _) (Nat.le_refl _)) dX8_howWakes_35 (fun H locs hG hS hq9 => ?_)
  refine lv_aload_n hx hb dX8_howWakes_36 rfl (lv_at hl 0 rfl) ?_
  refine lv_iconst (v := 5) hx hb dX8_howWakes_37 (by decide) ?_
  refine lv_aload_n hx hb dX8_howWakes_38 rfl (lv_at hl 2 rfl) ?_
  refine tk_get (ci := 9) (C := RX9) (T := TX9) (N := 11) (sp := (1, 20, 8, 0)) hx hb htl inX9 hown hK hG ht_a1 (by decide) tk_no rfl 0 (by decide) (htl _ mw_918) (fun _ h9 => h9) rfl dX8_howWakes_39 (fun v9 hf14 hV9 => ?_)
  obtain ⟨b15, rfl, ht_b15⟩ := hV9
  have ht_b15 : t b15 = (20, 8, rg1) := ht_b15
  refine lv_iload_n hx hb dX8_howWakes_42 rfl (lv_at hl 3 rfl) ?_
  refine tk_iald hx hb hK hG ht_b15 (by decide) (fun _ h => h) tk_no rfl (by omega) (by omega) dX8_howWakes_43 (fun v16 _ _ => ?_)
  have hr_v16 := tk_rng v16
  refine tk_iast hx hb hK hG hS ht_b4 (by decide) (fun _ => Iff.rfl) tk_no (I := 5) (by decide) (by decide) (by decide) trivial (tk_w.of ht_b4 (by decide) (List.mem_of_getElem? (i := 0) rfl) (Nat.le_refl _) (Nat.le_refl _)) dX8_howWakes_44 (fun H locs hG hS hq9 => ?_)
  refine lv_aload_n hx hb dX8_howWakes_45 rfl (lv_at hl 0 rfl) ?_
  refine lv_bipush (v := 6) hx hb dX8_howWakes_46 (by decide) ?_
  refine lv_iconst (v := (-1)) hx hb dX8_howWakes_48 (by decide) ?_
  refine tk_iast hx hb hK hG hS ht_b4 (by decide) (fun _ => Iff.rfl) tk_no (I := 6) (by decide) (by decide) (by decide) trivial (tk_w.of ht_b4 (by decide) (List.mem_of_getElem? (i := 0) rfl) (Nat.le_refl _) (Nat.le_refl _)) dX8_howWakes_49 (fun H locs hG hS hq9 => ?_)
  refine lv_aload_n hx hb dX8_howWakes_50 rfl (lv_at hl 0 rfl) ?_
  refine lv_bipush (v := 7) hx hb dX8_howWakes_51 (by decide) ?_
  refine lv_aload_n hx hb dX8_howWakes_53 rfl (lv_at hl 2 rfl) ?_
  refine tk_get (ci := 9) (C := RX9) (T := TX9) (N := 11) (sp := (0, (-2147483648), 2147483647, 0)) hx hb htl inX9 hown hK hG ht_a1 (by decide) tk_no rfl 4 (by decide) (htl _ mw_920) (fun _ h9 => h9) rfl dX8_howWakes_54 (fun v9 hf19 hV9 => ?_)
  obtain ⟨v20, rfl, (ha_v20 : (-2147483648) ≤ v20.toInt), (hb_v20 : v20.toInt ≤ 2147483647)⟩ := hV9
  refine tk_iast hx hb hK hG hS ht_b4 (by decide) (fun _ => Iff.rfl) tk_no (I := 7) (by decide) (by decide) (by decide) trivial (tk_w.of ht_b4 (by decide) (List.mem_of_getElem? (i := 0) rfl) (Nat.le_refl _) (Nat.le_refl _)) dX8_howWakes_57 (fun H locs hG hS hq9 => ?_)
  refine lv_aload_n hx hb dX8_howWakes_58 rfl (lv_at hl 0 rfl) ?_
  refine lv_bipush (v := 8) hx hb dX8_howWakes_59 (by decide) ?_
  refine lv_aload_n hx hb dX8_howWakes_61 rfl (lv_at hl 1 rfl) ?_
  refine tk_get (ci := 8) (C := RX8) (T := TX8) (N := 3) (sp := (8, 20, 3, 0)) hx hb htl inX8 hown hK hG ht_a0 (by decide) tk_no rfl 1 (by decide) (htl _ mw_97) (fun _ h9 => h9) rfl dX8_howWakes_62 (fun v9 hf22 hV9 => ?_)
  obtain ⟨rfl, ht_ld20⟩ := hV9
  have ht_ld20 : t (ld 20) = (3, 0, 0) := ht_ld20
  refine fx_top (v := .ref (ld 20)) rfl ?_
  refine tk_get (ci := 2) (C := RX2) (T := TX2) (N := 20) (sp := (0, (-2147483648), 2147483647, 0)) hx hb htl inX2 hown hK hG ht_ld20 (by decide) tk_no rfl 18 (by decide) (htl _ mw_931) (fun _ h9 => h9) rfl dX8_howWakes_65 (fun v9 hf23 hV9 => ?_)
  obtain ⟨v24, rfl, (ha_v24 : (-2147483648) ≤ v24.toInt), (hb_v24 : v24.toInt ≤ 2147483647)⟩ := hV9
  refine tk_iast hx hb hK hG hS ht_b4 (by decide) (fun _ => Iff.rfl) tk_no (I := 8) (by decide) (by decide) (by decide) trivial (tk_w.of ht_b4 (by decide) (List.mem_of_getElem? (i := 0) rfl) (Nat.le_refl _) (Nat.le_refl _)) dX8_howWakes_68 (fun H locs hG hS hq9 => ?_)
  refine lv_aload_n hx hb dX8_howWakes_69 rfl (lv_at hl 1 rfl) ?_
  refine lv_iconst (v := 2) hx hb dX8_howWakes_70 (by decide) ?_
  have hk_2 : (2 : Int32).toInt = 2 := by decide
  refine tk_Vi (As := [.int 2]) (rest := []) (ci := 8) ⟨hx, hb, hml, hown, hts⟩ hK hG hZ hS (k_X8_isTold l D cy ld t a0 2 ht_a0) trivial ⟨callB_of 1 hts (wl_in mw_935) rfl rfl rfl (htl _ mw_21) (htl _ mw_932) hd_yX8_isTold ⟨(Nat.le_of_ble_eq_true rfl), (Nat.le_of_ble_eq_true rfl)⟩, htl _ mw_933, htl _ mw_934⟩ ht_a0 (by decide) tk_no rfl (tk_w.pick [1, 0, 2] rfl) rfl hl.1 rfl (Nat.le_of_ble_eq_true rfl) dX8_howWakes_71 ⟨(Nat.le_of_ble_eq_true rfl), (Nat.le_of_ble_eq_true rfl)⟩ (fun v26 H locs hpo hG hS hq9 => ?_)
  obtain ⟨hpo28, hpo29, hpo30, hpo31⟩ := hpo
  refine lv_if_eq (tgt := 90) hx hb dX8_howWakes_74 (by decide) (fun c9 => ?_) (fun c9 => ?_)
  · have hc32 : v26.toInt = 0 := (fi_eq rfl (show (0 : Int32).toInt = 0 by decide)).mp c9
    refine lv_bipush (v := 100) hx hb dX8_howWakes_90 (by decide) ?_
    have hk_100 : (100 : Int32).toInt = 100 := by decide
    exact tk_iret (v := 100) hx hb hr rfl hlocks (show 0 ≤ (100 : Int32).toInt from (by omega)) hG hS dX8_howWakes_92
  · have hc32 : ¬ (v26.toInt = 0) := fun h9 => c9 ((fi_eq rfl (show (0 : Int32).toInt = 0 by decide)).mpr h9)
    refine lv_aload_n hx hb dX8_howWakes_77 rfl (lv_at hl 1 rfl) ?_
    refine tk_get (ci := 8) (C := RX8) (T := TX8) (N := 3) (sp := (0, (-2147483648), 2147483647, 0)) hx hb htl inX8 hown hK hG ht_a0 (by decide) tk_no rfl 2 (by decide) (htl _ mw_939) (fun _ h9 => h9) rfl dX8_howWakes_78 (fun v9 hf33 hV9 => ?_)
    obtain ⟨v34, rfl, (ha_v34 : (-2147483648) ≤ v34.toInt), (hb_v34 : v34.toInt ≤ 2147483647)⟩ := hV9
    refine lv_sipush (v := 999) hx hb dX8_howWakes_81 (by decide) ?_
    have hk_999 : (999 : Int32).toInt = 999 := by decide
    refine tk_Si (As := [.int v34, .int 999]) (rest := []) ⟨hx, hb, hml, hown, hts⟩ hK hG hZ hS (k_X8_nearest l D cy ld t _ v34 999) trivial ⟨callB_of 2 hts (wl_in mw_960) rfl rfl rfl (htl _ mw_21) (htl _ mw_958) hd_yX8_nearest ⟨(Nat.le_of_ble_eq_true rfl), (Nat.le_of_ble_eq_true rfl)⟩, htl _ mw_959⟩ (tk_w.pick [] rfl) rfl hl.1 rfl (Nat.le_of_ble_eq_true rfl) dX8_howWakes_84 ⟨(Nat.le_of_ble_eq_true rfl), (Nat.le_of_ble_eq_true rfl)⟩ (fun v35 H locs hpo hG hS hq9 => ?_)
    have hpo37 := hpo
    refine lv_goto (tgt := 92) hx hb dX8_howWakes_87 (by decide) ?_
    exact tk_iret (v := v35) hx hb hr rfl hlocks (show 0 ≤ v35.toInt from (by omega)) hG hS dX8_howWakes_92
theorem dX8_dawnOn_0 : decode cX8_dawnOn 0 = .ok (.iconst 0, 1) := by decide +kernel
theorem dX8_dawnOn_1 : decode cX8_dawnOn 1 = .ok (.istore_n 2, 1) := by decide +kernel
theorem dX8_dawnOn_2 : decode cX8_dawnOn 2 = .ok (.aload_n 1, 1) := by decide +kernel
theorem dX8_dawnOn_3 : decode cX8_dawnOn 3 = .ok (.dup, 1) := by decide +kernel
theorem dX8_dawnOn_4 : decode cX8_dawnOn 4 = .ok (.getfield 60, 3) := by decide +kernel
theorem dX8_dawnOn_7 : decode cX8_dawnOn 7 = .ok (.iconst 1, 1) := by decide +kernel
theorem dX8_dawnOn_8 : decode cX8_dawnOn 8 = .ok (.iadd, 1) := by decide +kernel
theorem dX8_dawnOn_9 : decode cX8_dawnOn 9 = .ok (.putfield 60, 3) := by decide +kernel
theorem dX8_dawnOn_12 : decode cX8_dawnOn 12 = .ok (.iconst 0, 1) := by decide +kernel
theorem dX8_dawnOn_13 : decode cX8_dawnOn 13 = .ok (.istore_n 3, 1) := by decide +kernel
theorem dX8_dawnOn_14 : decode cX8_dawnOn 14 = .ok (.iload_n 3, 1) := by decide +kernel
theorem dX8_dawnOn_15 : decode cX8_dawnOn 15 = .ok (.aload_n 0, 1) := by decide +kernel
theorem dX8_dawnOn_16 : decode cX8_dawnOn 16 = .ok (.getfield 18, 3) := by decide +kernel
theorem dX8_dawnOn_19 : decode cX8_dawnOn 19 = .ok (.getfield 125, 3) := by decide +kernel
theorem dX8_dawnOn_22 : decode cX8_dawnOn 22 = .ok (.if_icmp .ge 50, 3) := by decide +kernel
theorem dX8_dawnOn_72 : decode cX8_dawnOn 72 = .ok (.iload_n 2, 1) := by decide +kernel
theorem dX8_dawnOn_73 : decode cX8_dawnOn 73 = .ok (.ireturn, 1) := by decide +kernel
theorem dX8_dawnOn_25 : decode cX8_dawnOn 25 = .ok (.iload_n 2, 1) := by decide +kernel
theorem dX8_dawnOn_26 : decode cX8_dawnOn 26 = .ok (.aload_n 1, 1) := by decide +kernel
theorem dX8_dawnOn_27 : decode cX8_dawnOn 27 = .ok (.getfield 109, 3) := by decide +kernel
theorem dX8_dawnOn_30 : decode cX8_dawnOn 30 = .ok (.iload_n 3, 1) := by decide +kernel
theorem dX8_dawnOn_31 : decode cX8_dawnOn 31 = .ok (.iaload, 1) := by decide +kernel
theorem dX8_dawnOn_32 : decode cX8_dawnOn 32 = .ok (.iadd, 1) := by decide +kernel
theorem dX8_dawnOn_33 : decode cX8_dawnOn 33 = .ok (.istore_n 2, 1) := by decide +kernel
theorem dX8_dawnOn_34 : decode cX8_dawnOn 34 = .ok (.aload_n 1, 1) := by decide +kernel
theorem dX8_dawnOn_35 : decode cX8_dawnOn 35 = .ok (.getfield 55, 3) := by decide +kernel
theorem dX8_dawnOn_38 : decode cX8_dawnOn 38 = .ok (.iload_n 3, 1) := by decide +kernel
theorem dX8_dawnOn_39 : decode cX8_dawnOn 39 = .ok (.sipush 999, 3) := by decide +kernel
theorem dX8_dawnOn_42 : decode cX8_dawnOn 42 = .ok (.aload_n 1, 1) := by decide +kernel
theorem dX8_dawnOn_43 : decode cX8_dawnOn 43 = .ok (.getfield 55, 3) := by decide +kernel
theorem dX8_dawnOn_46 : decode cX8_dawnOn 46 = .ok (.iload_n 3, 1) := by decide +kernel
theorem dX8_dawnOn_47 : decode cX8_dawnOn 47 = .ok (.iaload, 1) := by decide +kernel
theorem dX8_dawnOn_48 : decode cX8_dawnOn 48 = .ok (.aload_n 0, 1) := by decide +kernel
theorem dX8_dawnOn_49 : decode cX8_dawnOn 49 = .ok (.aload_n 1, 1) := by decide +kernel
theorem dX8_dawnOn_50 : decode cX8_dawnOn 50 = .ok (.iload_n 3, 1) := by decide +kernel
theorem dX8_dawnOn_51 : decode cX8_dawnOn 51 = .ok (.invokevirtual 128, 3) := by decide +kernel
theorem dX8_dawnOn_54 : decode cX8_dawnOn 54 = .ok (.iadd, 1) := by decide +kernel
theorem dX8_dawnOn_55 : decode cX8_dawnOn 55 = .ok (.invokestatic 132, 3) := by decide +kernel
theorem dX8_dawnOn_58 : decode cX8_dawnOn 58 = .ok (.iastore, 1) := by decide +kernel
theorem dX8_dawnOn_59 : decode cX8_dawnOn 59 = .ok (.aload_n 1, 1) := by decide +kernel
theorem dX8_dawnOn_60 : decode cX8_dawnOn 60 = .ok (.getfield 109, 3) := by decide +kernel
theorem dX8_dawnOn_63 : decode cX8_dawnOn 63 = .ok (.iload_n 3, 1) := by decide +kernel
theorem dX8_dawnOn_64 : decode cX8_dawnOn 64 = .ok (.iconst 0, 1) := by decide +kernel
theorem dX8_dawnOn_65 : decode cX8_dawnOn 65 = .ok (.iastore, 1) := by decide +kernel
theorem dX8_dawnOn_66 : decode cX8_dawnOn 66 = .ok (.iinc 3 1, 3) := by decide +kernel
theorem dX8_dawnOn_69 : decode cX8_dawnOn 69 = .ok (.goto (-55), 3) := by decide +kernel
set_option maxHeartbeats 4000000 in
set_option maxRecDepth 100000 in
theorem k_X8_dawnOn (l : Launch) (D : va_G) (cy : Nat → ClassId) (ld : Nat → Nat) (t : tk_T) (rg1 : Nat) (a0 : Nat) (a1 : Nat) (ht_a0 : t a0 = (9, 0, 0)) (ht_a1 : t a1 = (10, 0, rg1)) : Met l yX8_dawnOn (wl yX8_dawnOn cX8_dawnOn 4 (some .int)) ({ frames := 6, cells := 0, slots := 0, locals := 350 }) (tp D cy ld t [] [.ref a0, .ref a1] (fun H => True)) (ti D cy ld t [] (fun r H => True) (tk_w t [(10, rg1, rg1), (20, 0, 0), (12, 0, 0), (9, 0, 0), (20, rg1, rg1)])) 0 0 (tk_w t [(10, rg1, rg1), (20, 0, 0), (12, 0, 0), (9, 0, 0), (20, rg1, rg1)]) := by
  refine tk_met (y := yX8_dawnOn) (cc := cX8_dawnOn) (maxL := 4) (ret := (some .int)) (av := [.ref a0, .ref a1]) _ _ (by decide) (Nat.le_of_ble_eq_true rfl) ?_
  intro p e s m args below meth c hx hb hr hml hts htl hown hlocks hK H locs hH hG hS hB hZ ls hl
  have hown : s.vm.findClass RX8 = some m.cls := hown
  have hl : lv_has ls 4 [(0, .ref a0), (1, .ref a1)] := hl
  refine lv_iconst (v := 0) hx hb dX8_dawnOn_0 (by decide) ?_
  refine lv_istore_n (lv' := [(2, .int 0), (0, .ref a0), (1, .ref a1)]) hx hb dX8_dawnOn_1 rfl hl (by decide) rfl (fun ls hl => ?_)
  refine lv_aload_n hx hb dX8_dawnOn_2 rfl (lv_at hl 2 rfl) ?_
  refine lv_dup hx hb dX8_dawnOn_3 rfl ?_
  refine tk_get (ci := 9) (C := RX9) (T := TX9) (N := 11) (sp := (0, (-2147483648), 2147483647, 0)) hx hb htl inX9 hown hK hG ht_a1 (by decide) tk_no rfl 4 (by decide) (htl _ mw_920) (fun _ h9 => h9) rfl dX8_dawnOn_4 (fun v9 hf1 hV9 => ?_)
  obtain ⟨v2, rfl, (ha_v2 : (-2147483648) ≤ v2.toInt), (hb_v2 : v2.toInt ≤ 2147483647)⟩ := hV9
  refine lv_iconst (v := 1) hx hb dX8_dawnOn_7 (by decide) ?_
  refine lv_iadd hx hb dX8_dawnOn_8 ?_
  obtain ⟨v3, hm_v3⟩ : ∃ z : Int32, v2 + 1 = z := ⟨_, rfl⟩
  refine fx_ti hm_v3 ?_
  refine tk_put (ci := 9) (v := .int v3) (ty := .int) (C := RX9) (T := TX9) (N := 11) (sp := (0, (-2147483648), 2147483647, 0)) hx hb htl inX9 tyX9 tyX9_ok nmX9 hown hK hG hS ht_a1 (by decide) tk_no rfl 4 (by decide) (htl _ mw_920) (fun _ h9 => h9) rfl (tyX9_ok 4 (by decide)) rfl rfl rfl (tk_V0 (tk_rng _).1 (tk_rng _).2) (fun _ h => tk_X10 h (by decide) (by decide)) (tk_w.of ht_a1 (by decide) (List.mem_of_getElem? (i := 0) rfl) (Nat.le_refl _) (Nat.le_refl _)) dX8_dawnOn_9 (fun H locs hG hS hf4 hq9 hj9 => ?_)
  refine lv_iconst (v := 0) hx hb dX8_dawnOn_12 (by decide) ?_
  refine lv_istore_n (lv' := [(3, .int 0), (2, .int 0), (0, .ref a0), (1, .ref a1)]) hx hb dX8_dawnOn_13 rfl hl (by decide) rfl (fun ls hl => ?_)
  have hl303 : ∀ (N_l303 : Nat) (v6 : Int32) (v7 : Int32) (H : Heap) (locs : List Loc), v6.toInt ≤ 8 → 0 ≤ v6.toInt → (-1) * v6.toInt + 8 < (N_l303 : Int) → tk_G D cy ld t [] H → va_S (tk_w t [(10, rg1, rg1), (20, 0, 0), (12, 0, 0), (9, 0, 0), (20, rg1, rg1)]) s.heap H locs → ∀ ls : Array Slot, lv_has ls 4 [(3, .int v6), (2, .int v7), (0, .ref a0), (1, .ref a1)] → W p l e ({ frames := 6, cells := 0, slots := 0, locals := 350 }) s m args below meth c H locs 0 0 (MQ below (ti D cy ld t [] (fun r H => True) (tk_w t [(10, rg1, rg1), (20, 0, 0), (12, 0, 0), (9, 0, 0), (20, rg1, rg1)])) args s 0 0 (tk_w t [(10, rg1, rg1), (20, 0, 0), (12, 0, 0), (9, 0, 0), (20, rg1, rg1)])) (F0 m 14 ls []) := by
    intro N_l303
    induction N_l303 with
    | zero => intro v6 v7 H locs hq0_l303 hq1_l303 hm_l303 hG hS ls hl; exfalso; omega
    | succ N_l303 ih_l303 =>
      intro v6 v7 H locs hq0_l303 hq1_l303 hm_l303 hG hS ls hl
      refine lv_iload_n hx hb dX8_dawnOn_14 rfl (lv_at hl 0 rfl) ?_
      refine lv_aload_n hx hb dX8_dawnOn_15 rfl (lv_at hl 2 rfl) ?_
      refine tk_get (ci := 8) (C := RX8) (T := TX8) (N := 3) (sp := (8, 20, 3, 0)) hx hb htl inX8 hown hK hG ht_a0 (by decide) tk_no rfl 1 (by decide) (htl _ mw_97) (fun _ h9 => h9) rfl dX8_dawnOn_16 (fun v9 hf304 hV9 => ?_)
      obtain ⟨rfl, ht_ld20⟩ := hV9
      have ht_ld20 : t (ld 20) = (3, 0, 0) := ht_ld20
      refine fx_top (v := .ref (ld 20)) rfl ?_
      refine tk_get (ci := 2) (C := RX2) (T := TX2) (N := 20) (sp := (0, 0, 8, 0)) hx hb htl inX2 hown hK hG ht_ld20 (by decide) tk_no rfl 0 (by decide) (htl _ mw_996) (fun _ h9 => h9) rfl dX8_dawnOn_19 (fun v9 hf305 hV9 => ?_)
      obtain ⟨v306, rfl, (ha_v306 : 0 ≤ v306.toInt), (hb_v306 : v306.toInt ≤ 8)⟩ := hV9
      refine lv_icmp_ge (tgt := 72) hx hb dX8_dawnOn_22 (by decide) (fun c9 => ?_) (fun c9 => ?_)
      · have hc307 : v306.toInt ≤ v6.toInt := (fi_le rfl rfl).mp c9
        refine lv_iload_n hx hb dX8_dawnOn_72 rfl (lv_at hl 1 rfl) ?_
        exact tk_iret (v := v7) hx hb hr rfl hlocks trivial hG hS dX8_dawnOn_73
      · have hc307 : ¬ (v306.toInt ≤ v6.toInt) := fun h9 => c9 ((fi_le rfl rfl).mpr h9)
        refine lv_iload_n hx hb dX8_dawnOn_25 rfl (lv_at hl 1 rfl) ?_
        refine lv_aload_n hx hb dX8_dawnOn_26 rfl (lv_at hl 3 rfl) ?_
        refine tk_get (ci := 9) (C := RX9) (T := TX9) (N := 11) (sp := (1, 20, 8, 0)) hx hb htl inX9 hown hK hG ht_a1 (by decide) tk_no rfl 1 (by decide) (htl _ mw_952) (fun _ h9 => h9) rfl dX8_dawnOn_27 (fun v9 hf327 hV9 => ?_)
        obtain ⟨b328, rfl, ht_b328⟩ := hV9
        have ht_b328 : t b328 = (20, 8, rg1) := ht_b328
        refine lv_iload_n hx hb dX8_dawnOn_30 rfl (lv_at hl 0 rfl) ?_
        refine tk_iald hx hb hK hG ht_b328 (by decide) (fun _ h => h) tk_no rfl (by omega) (by omega) dX8_dawnOn_31 (fun v329 _ _ => ?_)
        have hr_v329 := tk_rng v329
        refine lv_iadd hx hb dX8_dawnOn_32 ?_
        obtain ⟨v330, hm_v330⟩ : ∃ z : Int32, v7 + v329 = z := ⟨_, rfl⟩
        refine fx_ti hm_v330 ?_
        refine lv_istore_n (lv' := [(2, .int v330), (3, .int v6), (0, .ref a0), (1, .ref a1)]) hx hb dX8_dawnOn_33 rfl hl (by decide) rfl (fun ls hl => ?_)
        refine lv_aload_n hx hb dX8_dawnOn_34 rfl (lv_at hl 3 rfl) ?_
        refine tk_get (ci := 9) (C := RX9) (T := TX9) (N := 11) (sp := (1, 20, 8, 0)) hx hb htl inX9 hown hK hG ht_a1 (by decide) tk_no rfl 0 (by decide) (htl _ mw_918) (fun _ h9 => h9) rfl dX8_dawnOn_35 (fun v9 hf331 hV9 => ?_)
        obtain ⟨b332, rfl, ht_b332⟩ := hV9
        have ht_b332 : t b332 = (20, 8, rg1) := ht_b332
        refine lv_iload_n hx hb dX8_dawnOn_38 rfl (lv_at hl 1 rfl) ?_
        refine lv_sipush (v := 999) hx hb dX8_dawnOn_39 (by decide) ?_
        refine lv_aload_n hx hb dX8_dawnOn_42 rfl (lv_at hl 3 rfl) ?_
        refine tk_get (ci := 9) (C := RX9) (T := TX9) (N := 11) (sp := (1, 20, 8, 0)) hx hb htl inX9 hown hK hG ht_a1 (by decide) tk_no rfl 0 (by decide) (htl _ mw_918) (fun _ h9 => h9) rfl dX8_dawnOn_43 (fun v9 hf333 hV9 => ?_)
        obtain ⟨b334, rfl, ht_b334⟩ := hV9
        have ht_b334 : t b334 = (20, 8, rg1) := ht_b334
        refine lv_iload_n hx hb dX8_dawnOn_46 rfl (lv_at hl 1 rfl) ?_
        refine tk_iald hx hb hK hG ht_b334 (by decide) (fun _ h => h) tk_no rfl (by omega) (by omega) dX8_dawnOn_47 (fun v335 _ _ => ?_)
        have hr_v335 := tk_rng v335
        refine lv_aload_n hx hb dX8_dawnOn_48 rfl (lv_at hl 2 rfl) ?_
        refine lv_aload_n hx hb dX8_dawnOn_49 rfl (lv_at hl 3 rfl) ?_
        refine lv_iload_n hx hb dX8_dawnOn_50 rfl (lv_at hl 1 rfl) ?_
        refine tk_Vi (As := [.ref a1, .int v6]) (rest := [.int v335, .int 999, .int v6, .ref b332]) (ci := 8) ⟨hx, hb, hml, hown, hts⟩ hK hG hZ hS (k_X8_howWakes l D cy ld t rg1 a0 a1 v6 ht_a0 ht_a1 (by omega) (by omega)) trivial ⟨callB_of 2 hts (wl_in mw_1000) rfl rfl rfl (htl _ mw_21) (htl _ mw_997) hd_yX8_howWakes ⟨(Nat.le_of_ble_eq_true rfl), (Nat.le_of_ble_eq_true rfl)⟩, htl _ mw_998, htl _ mw_999⟩ ht_a0 (by decide) tk_no rfl (tk_w.pick [1, 2, 3] rfl) rfl hl.1 rfl (Nat.le_of_ble_eq_true rfl) dX8_dawnOn_51 ⟨(Nat.le_of_ble_eq_true rfl), (Nat.le_of_ble_eq_true rfl)⟩ (fun v336 H locs hpo hG hS hq9 => ?_)
        have hf305 := hf305.call hq9 (tk_w.no ht_ld20 (by decide))
        have hpo338 := hpo
        refine lv_iadd hx hb dX8_dawnOn_54 ?_
        obtain ⟨v339, hm_v339⟩ : ∃ z : Int32, v335 + v336 = z := ⟨_, rfl⟩
        refine fx_ti hm_v339 ?_
        refine va_mmin hx hb (by rw [hml]; exact hl.1.symm) hown (htl _ mw_961) (htl _ mw_473) (htl _ mw_474) (htl _ mw_475) (Nat.le_of_ble_eq_true rfl) (Nat.le_of_ble_eq_true rfl) (Nat.le_of_ble_eq_true rfl) (Nat.le_of_ble_eq_true rfl) dX8_dawnOn_55 ?_
        refine tk_say (P := fun z => z.toInt ≤ 999 ∧ z.toInt ≤ v339.toInt ∧ (z.toInt = 999 ∨ z.toInt = v339.toInt)) (tk_min (show (999 : Int32).toInt = 999 by decide) rfl) (fun v340 h_v340 => ?_)
        refine tk_iast hx hb hK hG hS ht_b332 (by decide) (fun _ => Iff.rfl) tk_no rfl (by omega) (by omega) trivial (tk_w.of ht_b332 (by decide) (List.mem_of_getElem? (i := 4) rfl) (Nat.le_refl _) (Nat.le_refl _)) dX8_dawnOn_58 (fun H locs hG hS hq9 => ?_)
        have hf305 := hf305.kept (hq9 _ (tk_ne ht_ld20 ht_b332 (Or.inl (by decide))))
        refine lv_aload_n hx hb dX8_dawnOn_59 rfl (lv_at hl 3 rfl) ?_
        refine tk_get (ci := 9) (C := RX9) (T := TX9) (N := 11) (sp := (1, 20, 8, 0)) hx hb htl inX9 hown hK hG ht_a1 (by decide) tk_no rfl 1 (by decide) (htl _ mw_952) (fun _ h9 => h9) rfl dX8_dawnOn_60 (fun v9 hf342 hV9 => ?_)
        obtain ⟨b343, rfl, ht_b343⟩ := hV9
        have ht_b343 : t b343 = (20, 8, rg1) := ht_b343
        refine lv_iload_n hx hb dX8_dawnOn_63 rfl (lv_at hl 1 rfl) ?_
        refine lv_iconst (v := 0) hx hb dX8_dawnOn_64 (by decide) ?_
        refine tk_iast hx hb hK hG hS ht_b343 (by decide) (fun _ => Iff.rfl) tk_no rfl (by omega) (by omega) trivial (tk_w.of ht_b343 (by decide) (List.mem_of_getElem? (i := 4) rfl) (Nat.le_refl _) (Nat.le_refl _)) dX8_dawnOn_65 (fun H locs hG hS hq9 => ?_)
        have hf305 := hf305.kept (hq9 _ (tk_ne ht_ld20 ht_b343 (Or.inl (by decide))))
        obtain ⟨v345, h_v345, e_v345⟩ := tk_inc v6 1 (by decide) (by omega) (by omega)
        refine lv_iinc (v := v345) (lv' := [(3, .int v345), (2, .int v330), (0, .ref a0), (1, .ref a1)]) hx hb dX8_dawnOn_66 hl (k := 1) rfl e_v345 (by decide) rfl (fun ls hl => ?_)
        refine lv_goto (tgt := 14) hx hb dX8_dawnOn_69 (by decide) ?_
        exact ih_l303 v345 v330 _ _ (by omega) (by omega) (by omega) hG hS _ (lv_sub hl [0, 1, 2, 3] rfl)
  have hk_0 : (0 : Int32).toInt = 0 := by decide
  have hk_0 : (0 : Int32).toInt = 0 := by decide
  exact hl303 9 0 0 _ _ (by omega) (by omega) (by omega) hG hS _ (lv_sub hl [0, 1, 2, 3] rfl)
theorem dX9_copyFrom_0 : decode cX9_copyFrom 0 = .ok (.aload_n 1, 1) := by decide +kernel
theorem dX9_copyFrom_1 : decode cX9_copyFrom 1 = .ok (.getfield 9, 3) := by decide +kernel
theorem dX9_copyFrom_4 : decode cX9_copyFrom 4 = .ok (.iconst 0, 1) := by decide +kernel
theorem dX9_copyFrom_5 : decode cX9_copyFrom 5 = .ok (.aload_n 0, 1) := by decide +kernel
theorem dX9_copyFrom_6 : decode cX9_copyFrom 6 = .ok (.getfield 9, 3) := by decide +kernel
theorem dX9_copyFrom_9 : decode cX9_copyFrom 9 = .ok (.iconst 0, 1) := by decide +kernel
theorem dX9_copyFrom_10 : decode cX9_copyFrom 10 = .ok (.aload_n 0, 1) := by decide +kernel
theorem dX9_copyFrom_11 : decode cX9_copyFrom 11 = .ok (.getfield 9, 3) := by decide +kernel
theorem dX9_copyFrom_14 : decode cX9_copyFrom 14 = .ok (.arraylength, 1) := by decide +kernel
theorem dX9_copyFrom_15 : decode cX9_copyFrom 15 = .ok (.invokestatic 34, 3) := by decide +kernel
theorem dX9_copyFrom_18 : decode cX9_copyFrom 18 = .ok (.aload_n 1, 1) := by decide +kernel
theorem dX9_copyFrom_19 : decode cX9_copyFrom 19 = .ok (.getfield 15, 3) := by decide +kernel
theorem dX9_copyFrom_22 : decode cX9_copyFrom 22 = .ok (.iconst 0, 1) := by decide +kernel
theorem dX9_copyFrom_23 : decode cX9_copyFrom 23 = .ok (.aload_n 0, 1) := by decide +kernel
theorem dX9_copyFrom_24 : decode cX9_copyFrom 24 = .ok (.getfield 15, 3) := by decide +kernel
theorem dX9_copyFrom_27 : decode cX9_copyFrom 27 = .ok (.iconst 0, 1) := by decide +kernel
theorem dX9_copyFrom_28 : decode cX9_copyFrom 28 = .ok (.aload_n 0, 1) := by decide +kernel
theorem dX9_copyFrom_29 : decode cX9_copyFrom 29 = .ok (.getfield 15, 3) := by decide +kernel
theorem dX9_copyFrom_32 : decode cX9_copyFrom 32 = .ok (.arraylength, 1) := by decide +kernel
theorem dX9_copyFrom_33 : decode cX9_copyFrom 33 = .ok (.invokestatic 34, 3) := by decide +kernel
theorem dX9_copyFrom_36 : decode cX9_copyFrom 36 = .ok (.aload_n 1, 1) := by decide +kernel
theorem dX9_copyFrom_37 : decode cX9_copyFrom 37 = .ok (.getfield 18, 3) := by decide +kernel
theorem dX9_copyFrom_40 : decode cX9_copyFrom 40 = .ok (.iconst 0, 1) := by decide +kernel
theorem dX9_copyFrom_41 : decode cX9_copyFrom 41 = .ok (.aload_n 0, 1) := by decide +kernel
theorem dX9_copyFrom_42 : decode cX9_copyFrom 42 = .ok (.getfield 18, 3) := by decide +kernel
theorem dX9_copyFrom_45 : decode cX9_copyFrom 45 = .ok (.iconst 0, 1) := by decide +kernel
theorem dX9_copyFrom_46 : decode cX9_copyFrom 46 = .ok (.aload_n 0, 1) := by decide +kernel
theorem dX9_copyFrom_47 : decode cX9_copyFrom 47 = .ok (.getfield 18, 3) := by decide +kernel
theorem dX9_copyFrom_50 : decode cX9_copyFrom 50 = .ok (.arraylength, 1) := by decide +kernel
theorem dX9_copyFrom_51 : decode cX9_copyFrom 51 = .ok (.invokestatic 34, 3) := by decide +kernel
theorem dX9_copyFrom_54 : decode cX9_copyFrom 54 = .ok (.aload_n 0, 1) := by decide +kernel
theorem dX9_copyFrom_55 : decode cX9_copyFrom 55 = .ok (.getfield 21, 3) := by decide +kernel
theorem dX9_copyFrom_58 : decode cX9_copyFrom 58 = .ok (.iconst 0, 1) := by decide +kernel
theorem dX9_copyFrom_59 : decode cX9_copyFrom 59 = .ok (.aload_n 1, 1) := by decide +kernel
theorem dX9_copyFrom_60 : decode cX9_copyFrom 60 = .ok (.getfield 21, 3) := by decide +kernel
theorem dX9_copyFrom_63 : decode cX9_copyFrom 63 = .ok (.iconst 0, 1) := by decide +kernel
theorem dX9_copyFrom_64 : decode cX9_copyFrom 64 = .ok (.iaload, 1) := by decide +kernel
theorem dX9_copyFrom_65 : decode cX9_copyFrom 65 = .ok (.iastore, 1) := by decide +kernel
theorem dX9_copyFrom_66 : decode cX9_copyFrom 66 = .ok (.aload_n 0, 1) := by decide +kernel
theorem dX9_copyFrom_67 : decode cX9_copyFrom 67 = .ok (.getfield 21, 3) := by decide +kernel
theorem dX9_copyFrom_70 : decode cX9_copyFrom 70 = .ok (.iconst 1, 1) := by decide +kernel
theorem dX9_copyFrom_71 : decode cX9_copyFrom 71 = .ok (.aload_n 1, 1) := by decide +kernel
theorem dX9_copyFrom_72 : decode cX9_copyFrom 72 = .ok (.getfield 21, 3) := by decide +kernel
theorem dX9_copyFrom_75 : decode cX9_copyFrom 75 = .ok (.iconst 1, 1) := by decide +kernel
theorem dX9_copyFrom_76 : decode cX9_copyFrom 76 = .ok (.iaload, 1) := by decide +kernel
theorem dX9_copyFrom_77 : decode cX9_copyFrom 77 = .ok (.iastore, 1) := by decide +kernel
theorem dX9_copyFrom_78 : decode cX9_copyFrom 78 = .ok (.aload_n 0, 1) := by decide +kernel
theorem dX9_copyFrom_79 : decode cX9_copyFrom 79 = .ok (.aload_n 1, 1) := by decide +kernel
theorem dX9_copyFrom_80 : decode cX9_copyFrom 80 = .ok (.getfield 40, 3) := by decide +kernel
theorem dX9_copyFrom_83 : decode cX9_copyFrom 83 = .ok (.putfield 40, 3) := by decide +kernel
theorem dX9_copyFrom_86 : decode cX9_copyFrom 86 = .ok (.aload_n 0, 1) := by decide +kernel
theorem dX9_copyFrom_87 : decode cX9_copyFrom 87 = .ok (.aload_n 1, 1) := by decide +kernel
theorem dX9_copyFrom_88 : decode cX9_copyFrom 88 = .ok (.getfield 24, 3) := by decide +kernel
theorem dX9_copyFrom_91 : decode cX9_copyFrom 91 = .ok (.putfield 24, 3) := by decide +kernel
theorem dX9_copyFrom_94 : decode cX9_copyFrom 94 = .ok (.aload_n 0, 1) := by decide +kernel
theorem dX9_copyFrom_95 : decode cX9_copyFrom 95 = .ok (.aload_n 1, 1) := by decide +kernel
theorem dX9_copyFrom_96 : decode cX9_copyFrom 96 = .ok (.getfield 28, 3) := by decide +kernel
theorem dX9_copyFrom_99 : decode cX9_copyFrom 99 = .ok (.putfield 28, 3) := by decide +kernel
theorem dX9_copyFrom_102 : decode cX9_copyFrom 102 = .ok (.aload_n 0, 1) := by decide +kernel
theorem dX9_copyFrom_103 : decode cX9_copyFrom 103 = .ok (.aload_n 1, 1) := by decide +kernel
theorem dX9_copyFrom_104 : decode cX9_copyFrom 104 = .ok (.getfield 43, 3) := by decide +kernel
theorem dX9_copyFrom_107 : decode cX9_copyFrom 107 = .ok (.putfield 43, 3) := by decide +kernel
theorem dX9_copyFrom_110 : decode cX9_copyFrom 110 = .ok (.aload_n 0, 1) := by decide +kernel
theorem dX9_copyFrom_111 : decode cX9_copyFrom 111 = .ok (.aload_n 1, 1) := by decide +kernel
theorem dX9_copyFrom_112 : decode cX9_copyFrom 112 = .ok (.getfield 46, 3) := by decide +kernel
theorem dX9_copyFrom_115 : decode cX9_copyFrom 115 = .ok (.putfield 46, 3) := by decide +kernel
theorem dX9_copyFrom_118 : decode cX9_copyFrom 118 = .ok (.aload_n 0, 1) := by decide +kernel
theorem dX9_copyFrom_119 : decode cX9_copyFrom 119 = .ok (.aload_n 1, 1) := by decide +kernel
theorem dX9_copyFrom_120 : decode cX9_copyFrom 120 = .ok (.getfield 49, 3) := by decide +kernel
theorem dX9_copyFrom_123 : decode cX9_copyFrom 123 = .ok (.putfield 49, 3) := by decide +kernel
theorem dX9_copyFrom_126 : decode cX9_copyFrom 126 = .ok (.aload_n 0, 1) := by decide +kernel
theorem dX9_copyFrom_127 : decode cX9_copyFrom 127 = .ok (.aload_n 1, 1) := by decide +kernel
theorem dX9_copyFrom_128 : decode cX9_copyFrom 128 = .ok (.getfield 31, 3) := by decide +kernel
theorem dX9_copyFrom_131 : decode cX9_copyFrom 131 = .ok (.putfield 31, 3) := by decide +kernel
theorem dX9_copyFrom_134 : decode cX9_copyFrom 134 = .ok (.return_, 1) := by decide +kernel
set_option maxHeartbeats 4000000 in
set_option maxRecDepth 100000 in
theorem k_X9_copyFrom (l : Launch) (D : va_G) (cy : Nat → ClassId) (ld : Nat → Nat) (t : tk_T) (rg0 : Nat) (rg1 : Nat) (a0 : Nat) (a1 : Nat) (g0 : Int32) (ht_a0 : t a0 = (10, 0, rg0)) (ht_a1 : t a1 = (10, 0, rg1)) (hi_0 : rg0 ≠ rg1) (hp_0 : (-1) ≤ g0.toInt) (hp_1 : g0.toInt ≤ 7) : Met l yX9_copyFrom (wl yX9_copyFrom cX9_copyFrom 2 none) ({ frames := 4, cells := 0, slots := 0, locals := 210 }) (tp D cy ld t [] [.ref a0, .ref a1] (fun H => tk_f D H a1 9 5 (.int g0))) (tv D cy ld t [] (fun H => tk_f D H a0 9 5 (.int g0)) (tk_w t [(20, rg0, rg0), (10, rg0, rg0)])) 0 0 (tk_w t [(20, rg0, rg0), (10, rg0, rg0)]) := by
  refine tk_met (y := yX9_copyFrom) (cc := cX9_copyFrom) (maxL := 2) (ret := none) (av := [.ref a0, .ref a1]) _ _ (by decide) (Nat.le_of_ble_eq_true rfl) ?_
  intro p e s m args below meth c hx hb hr hml hts htl hown hlocks hK H locs hH hG hS hB hZ ls hl
  have hown : s.vm.findClass RX9 = some m.cls := hown
  have hl : lv_has ls 2 [(0, .ref a0), (1, .ref a1)] := hl
  have hg_0 := hB
  obtain ⟨b1, b2, b3, b4, v5, v6, v7, v8, v9, v10, v11, hat, ht_b1, ht_b2, ht_b3, ht_b4, ha_v5, hb_v5, ha_v6, hb_v6, ha_v7, hb_v7, ha_v8, hb_v8, ha_v9, hb_v9, ha_v10, hb_v10, ha_v11, hb_v11, hxx9⟩ := tk_op9 hG ht_a0
  have hG := hG.hole (a := a0)
  refine lv_aload_n hx hb dX9_copyFrom_0 rfl (lv_at hl 1 rfl) ?_
  refine tk_get (ci := 9) (C := RX9) (T := TX9) (N := 11) (sp := (1, 20, 8, 0)) hx hb htl inX9 hown hK hG ht_a1 (by decide) (tk_out (tk_ne ht_a1 ht_a0 (Or.inr (Or.inr (by omega))))) rfl 0 (by decide) (htl _ mw_82) (fun _ h9 => h9) rfl dX9_copyFrom_1 (fun v9 hf12 hV9 => ?_)
  obtain ⟨b13, rfl, ht_b13⟩ := hV9
  have ht_b13 : t b13 = (20, 8, rg1) := ht_b13
  refine lv_iconst (v := 0) hx hb dX9_copyFrom_4 (by decide) ?_
  refine lv_aload_n hx hb dX9_copyFrom_5 rfl (lv_at hl 0 rfl) ?_
  refine va_get (ci := 9) (v := .ref b1) (C := RX9) (T := TX9) (N := 11) hx hb htl inX9 hown hK.1 (tk_one hat) 0 rfl rfl 0 (by decide) (htl _ mw_82) (fun _ h9 => h9) rfl dX9_copyFrom_6 ?_
  refine lv_iconst (v := 0) hx hb dX9_copyFrom_9 (by decide) ?_
  refine lv_aload_n hx hb dX9_copyFrom_10 rfl (lv_at hl 0 rfl) ?_
  refine va_get (ci := 9) (v := .ref b1) (C := RX9) (T := TX9) (N := 11) hx hb htl inX9 hown hK.1 (tk_one hat) 0 rfl rfl 0 (by decide) (htl _ mw_82) (fun _ h9 => h9) rfl dX9_copyFrom_11 ?_
  refine tk_alen hx hb hK hG 0 rfl ht_b1 (by decide) (fun _ h => by obtain ⟨f, h, _⟩ := h; exact ⟨_, h⟩) (tk_out (tk_ne ht_b1 ht_a0 (Or.inl (by decide)))) (by decide) dX9_copyFrom_14 (fun z hz => ?_)
  obtain rfl : z = 8 := (fi_eq hz (by decide)).mpr rfl
  refine tk_copy (SP := 0) (DP := 0) (NC := 8) hx hb (by rw [hml]; exact hl.1.symm) hown (htl _ mw_822) (htl _ mw_655) (htl _ mw_656) (htl _ mw_657) hK hG hS ht_b13 ht_b1 (by decide) (by decide) (fun _ h => h) (fun _ => Iff.rfl) (tk_out (tk_ne ht_b13 ht_a0 (Or.inl (by decide)))) (tk_out (tk_ne ht_b1 ht_a0 (Or.inl (by decide)))) (show (0 : Int32).toInt = 0 by decide) (show (0 : Int32).toInt = 0 by decide) (show (8 : Int32).toInt = 8 by decide) (by decide) (by decide) (by decide) (by decide) (by decide) (fun _ _ _ _ _ => trivial) (tk_w.of ht_b1 (by decide) (List.mem_of_getElem? (i := 0) rfl) (Nat.le_refl _) (Nat.le_refl _)) (Nat.le_of_ble_eq_true rfl) (Nat.le_of_ble_eq_true rfl) dX9_copyFrom_15 (fun H locs hG hS hq9 => ?_)
  have hat := hat.kept (hq9 _ (tk_ne ht_a0 ht_b1 (Or.inl (by decide))))
  have hg_0 := hg_0.kept (hq9 _ (tk_ne ht_a1 ht_b1 (Or.inl (by decide))))
  refine lv_aload_n hx hb dX9_copyFrom_18 rfl (lv_at hl 1 rfl) ?_
  refine tk_get (ci := 9) (C := RX9) (T := TX9) (N := 11) (sp := (1, 20, 8, 0)) hx hb htl inX9 hown hK hG ht_a1 (by decide) (tk_out (tk_ne ht_a1 ht_a0 (Or.inr (Or.inr (by omega))))) rfl 1 (by decide) (htl _ mw_83) (fun _ h9 => h9) rfl dX9_copyFrom_19 (fun v9 hf15 hV9 => ?_)
  obtain ⟨b16, rfl, ht_b16⟩ := hV9
  have ht_b16 : t b16 = (20, 8, rg1) := ht_b16
  refine lv_iconst (v := 0) hx hb dX9_copyFrom_22 (by decide) ?_
  refine lv_aload_n hx hb dX9_copyFrom_23 rfl (lv_at hl 0 rfl) ?_
  refine va_get (ci := 9) (v := .ref b2) (C := RX9) (T := TX9) (N := 11) hx hb htl inX9 hown hK.1 (tk_one hat) 0 rfl rfl 1 (by decide) (htl _ mw_83) (fun _ h9 => h9) rfl dX9_copyFrom_24 ?_
  refine lv_iconst (v := 0) hx hb dX9_copyFrom_27 (by decide) ?_
  refine lv_aload_n hx hb dX9_copyFrom_28 rfl (lv_at hl 0 rfl) ?_
  refine va_get (ci := 9) (v := .ref b2) (C := RX9) (T := TX9) (N := 11) hx hb htl inX9 hown hK.1 (tk_one hat) 0 rfl rfl 1 (by decide) (htl _ mw_83) (fun _ h9 => h9) rfl dX9_copyFrom_29 ?_
  refine tk_alen hx hb hK hG 0 rfl ht_b2 (by decide) (fun _ h => by obtain ⟨f, h, _⟩ := h; exact ⟨_, h⟩) (tk_out (tk_ne ht_b2 ht_a0 (Or.inl (by decide)))) (by decide) dX9_copyFrom_32 (fun z hz => ?_)
  obtain rfl : z = 8 := (fi_eq hz (by decide)).mpr rfl
  refine tk_copy (SP := 0) (DP := 0) (NC := 8) hx hb (by rw [hml]; exact hl.1.symm) hown (htl _ mw_822) (htl _ mw_655) (htl _ mw_656) (htl _ mw_657) hK hG hS ht_b16 ht_b2 (by decide) (by decide) (fun _ h => h) (fun _ => Iff.rfl) (tk_out (tk_ne ht_b16 ht_a0 (Or.inl (by decide)))) (tk_out (tk_ne ht_b2 ht_a0 (Or.inl (by decide)))) (show (0 : Int32).toInt = 0 by decide) (show (0 : Int32).toInt = 0 by decide) (show (8 : Int32).toInt = 8 by decide) (by decide) (by decide) (by decide) (by decide) (by decide) (fun _ _ _ _ _ => trivial) (tk_w.of ht_b2 (by decide) (List.mem_of_getElem? (i := 0) rfl) (Nat.le_refl _) (Nat.le_refl _)) (Nat.le_of_ble_eq_true rfl) (Nat.le_of_ble_eq_true rfl) dX9_copyFrom_33 (fun H locs hG hS hq9 => ?_)
  have hat := hat.kept (hq9 _ (tk_ne ht_a0 ht_b2 (Or.inl (by decide))))
  have hg_0 := hg_0.kept (hq9 _ (tk_ne ht_a1 ht_b2 (Or.inl (by decide))))
  refine lv_aload_n hx hb dX9_copyFrom_36 rfl (lv_at hl 1 rfl) ?_
  refine tk_get (ci := 9) (C := RX9) (T := TX9) (N := 11) (sp := (1, 20, 8, 0)) hx hb htl inX9 hown hK hG ht_a1 (by decide) (tk_out (tk_ne ht_a1 ht_a0 (Or.inr (Or.inr (by omega))))) rfl 2 (by decide) (htl _ mw_84) (fun _ h9 => h9) rfl dX9_copyFrom_37 (fun v9 hf18 hV9 => ?_)
  obtain ⟨b19, rfl, ht_b19⟩ := hV9
  have ht_b19 : t b19 = (20, 8, rg1) := ht_b19
  refine lv_iconst (v := 0) hx hb dX9_copyFrom_40 (by decide) ?_
  refine lv_aload_n hx hb dX9_copyFrom_41 rfl (lv_at hl 0 rfl) ?_
  refine va_get (ci := 9) (v := .ref b3) (C := RX9) (T := TX9) (N := 11) hx hb htl inX9 hown hK.1 (tk_one hat) 0 rfl rfl 2 (by decide) (htl _ mw_84) (fun _ h9 => h9) rfl dX9_copyFrom_42 ?_
  refine lv_iconst (v := 0) hx hb dX9_copyFrom_45 (by decide) ?_
  refine lv_aload_n hx hb dX9_copyFrom_46 rfl (lv_at hl 0 rfl) ?_
  refine va_get (ci := 9) (v := .ref b3) (C := RX9) (T := TX9) (N := 11) hx hb htl inX9 hown hK.1 (tk_one hat) 0 rfl rfl 2 (by decide) (htl _ mw_84) (fun _ h9 => h9) rfl dX9_copyFrom_47 ?_
  refine tk_alen hx hb hK hG 0 rfl ht_b3 (by decide) (fun _ h => by obtain ⟨f, h, _⟩ := h; exact ⟨_, h⟩) (tk_out (tk_ne ht_b3 ht_a0 (Or.inl (by decide)))) (by decide) dX9_copyFrom_50 (fun z hz => ?_)
  obtain rfl : z = 8 := (fi_eq hz (by decide)).mpr rfl
  refine tk_copy (SP := 0) (DP := 0) (NC := 8) hx hb (by rw [hml]; exact hl.1.symm) hown (htl _ mw_822) (htl _ mw_655) (htl _ mw_656) (htl _ mw_657) hK hG hS ht_b19 ht_b3 (by decide) (by decide) (fun _ h => h) (fun _ => Iff.rfl) (tk_out (tk_ne ht_b19 ht_a0 (Or.inl (by decide)))) (tk_out (tk_ne ht_b3 ht_a0 (Or.inl (by decide)))) (show (0 : Int32).toInt = 0 by decide) (show (0 : Int32).toInt = 0 by decide) (show (8 : Int32).toInt = 8 by decide) (by decide) (by decide) (by decide) (by decide) (by decide) (fun _ _ _ _ _ => trivial) (tk_w.of ht_b3 (by decide) (List.mem_of_getElem? (i := 0) rfl) (Nat.le_refl _) (Nat.le_refl _)) (Nat.le_of_ble_eq_true rfl) (Nat.le_of_ble_eq_true rfl) dX9_copyFrom_51 (fun H locs hG hS hq9 => ?_)
  have hat := hat.kept (hq9 _ (tk_ne ht_a0 ht_b3 (Or.inl (by decide))))
  have hg_0 := hg_0.kept (hq9 _ (tk_ne ht_a1 ht_b3 (Or.inl (by decide))))
  refine lv_aload_n hx hb dX9_copyFrom_54 rfl (lv_at hl 0 rfl) ?_
  refine va_get (ci := 9) (v := .ref b4) (C := RX9) (T := TX9) (N := 11) hx hb htl inX9 hown hK.1 (tk_one hat) 0 rfl rfl 3 (by decide) (htl _ mw_85) (fun _ h9 => h9) rfl dX9_copyFrom_55 ?_
  refine lv_iconst (v := 0) hx hb dX9_copyFrom_58 (by decide) ?_
  refine lv_aload_n hx hb dX9_copyFrom_59 rfl (lv_at hl 1 rfl) ?_
  refine tk_get (ci := 9) (C := RX9) (T := TX9) (N := 11) (sp := (1, 20, 2, 0)) hx hb htl inX9 hown hK hG ht_a1 (by decide) (tk_out (tk_ne ht_a1 ht_a0 (Or.inr (Or.inr (by omega))))) rfl 3 (by decide) (htl _ mw_85) (fun _ h9 => h9) rfl dX9_copyFrom_60 (fun v9 hf21 hV9 => ?_)
  obtain ⟨b22, rfl, ht_b22⟩ := hV9
  have ht_b22 : t b22 = (20, 2, rg1) := ht_b22
  refine lv_iconst (v := 0) hx hb dX9_copyFrom_63 (by decide) ?_
  refine tk_iald hx hb hK hG ht_b22 (by decide) (fun _ h => h) (tk_out (tk_ne ht_b22 ht_a0 (Or.inl (by decide)))) (I := 0) (by decide) (by decide) (by decide) dX9_copyFrom_64 (fun v23 _ _ => ?_)
  have hr_v23 := tk_rng v23
  refine tk_iast hx hb hK hG hS ht_b4 (by decide) (fun _ => Iff.rfl) (tk_out (tk_ne ht_b4 ht_a0 (Or.inl (by decide)))) (I := 0) (by decide) (by decide) (by decide) trivial (tk_w.of ht_b4 (by decide) (List.mem_of_getElem? (i := 0) rfl) (Nat.le_refl _) (Nat.le_refl _)) dX9_copyFrom_65 (fun H locs hG hS hq9 => ?_)
  have hat := hat.kept (hq9 _ (tk_ne ht_a0 ht_b4 (Or.inl (by decide))))
  have hg_0 := hg_0.kept (hq9 _ (tk_ne ht_a1 ht_b4 (Or.inl (by decide))))
  refine lv_aload_n hx hb dX9_copyFrom_66 rfl (lv_at hl 0 rfl) ?_
  refine va_get (ci := 9) (v := .ref b4) (C := RX9) (T := TX9) (N := 11) hx hb htl inX9 hown hK.1 (tk_one hat) 0 rfl rfl 3 (by decide) (htl _ mw_85) (fun _ h9 => h9) rfl dX9_copyFrom_67 ?_
  refine lv_iconst (v := 1) hx hb dX9_copyFrom_70 (by decide) ?_
  refine lv_aload_n hx hb dX9_copyFrom_71 rfl (lv_at hl 1 rfl) ?_
  refine tk_get (ci := 9) (C := RX9) (T := TX9) (N := 11) (sp := (1, 20, 2, 0)) hx hb htl inX9 hown hK hG ht_a1 (by decide) (tk_out (tk_ne ht_a1 ht_a0 (Or.inr (Or.inr (by omega))))) rfl 3 (by decide) (htl _ mw_85) (fun _ h9 => h9) rfl dX9_copyFrom_72 (fun v9 hf25 hV9 => ?_)
  obtain ⟨b26, rfl, ht_b26⟩ := hV9
  have ht_b26 : t b26 = (20, 2, rg1) := ht_b26
  refine lv_iconst (v := 1) hx hb dX9_copyFrom_75 (by decide) ?_
  refine tk_iald hx hb hK hG ht_b26 (by decide) (fun _ h => h) (tk_out (tk_ne ht_b26 ht_a0 (Or.inl (by decide)))) (I := 1) (by decide) (by decide) (by decide) dX9_copyFrom_76 (fun v27 _ _ => ?_)
  have hr_v27 := tk_rng v27
  refine tk_iast hx hb hK hG hS ht_b4 (by decide) (fun _ => Iff.rfl) (tk_out (tk_ne ht_b4 ht_a0 (Or.inl (by decide)))) (I := 1) (by decide) (by decide) (by decide) trivial (tk_w.of ht_b4 (by decide) (List.mem_of_getElem? (i := 0) rfl) (Nat.le_refl _) (Nat.le_refl _)) dX9_copyFrom_77 (fun H locs hG hS hq9 => ?_)
  have hat := hat.kept (hq9 _ (tk_ne ht_a0 ht_b4 (Or.inl (by decide))))
  have hg_0 := hg_0.kept (hq9 _ (tk_ne ht_a1 ht_b4 (Or.inl (by decide))))
  refine lv_aload_n hx hb dX9_copyFrom_78 rfl (lv_at hl 0 rfl) ?_
  refine lv_aload_n hx hb dX9_copyFrom_79 rfl (lv_at hl 1 rfl) ?_
  refine tk_get (ci := 9) (C := RX9) (T := TX9) (N := 11) (sp := (0, (-2147483648), 2147483647, 0)) hx hb htl inX9 hown hK hG ht_a1 (by decide) (tk_out (tk_ne ht_a1 ht_a0 (Or.inr (Or.inr (by omega))))) rfl 4 (by decide) (htl _ mw_823) (fun _ h9 => h9) rfl dX9_copyFrom_80 (fun v9 hf29 hV9 => ?_)
  obtain ⟨v30, rfl, (ha_v30 : (-2147483648) ≤ v30.toInt), (hb_v30 : v30.toInt ≤ 2147483647)⟩ := hV9
  refine tk_put0 (ci := 9) (v := .int v30) (ty := .int) (C := RX9) (T := TX9) (N := 11) hx hb htl inX9 tyX9 tyX9_ok nmX9 hown hK hat rfl 4 (by decide) (htl _ mw_823) (fun _ h9 => h9) rfl (tyX9_ok 4 (by decide)) rfl rfl (Nat.le_of_ble_eq_true rfl) dX9_copyFrom_83 (fun H j9 hat z9 hq9 => ?_)
  have hS := hS.put (k := j9) z9 hq9 (tk_w.of ht_a0 (by decide) (List.mem_of_getElem? (i := 1) rfl) (Nat.le_refl _) (Nat.le_refl _))
  have hG := hG.ajar (List.mem_singleton.mpr rfl) hq9
  have hat : va_at D vwCl (a0, .inr (9, [.ref b1, .ref b2, .ref b3, .ref b4, .int v30, .int v6, .int v7, .int v8, .int v9, .int v10, .int v11])) H := hat
  generalize locs ++ [_] = locs at hS ⊢
  have hg_0 := hg_0.kept (hq9 _ (tk_ne ht_a1 ht_a0 (Or.inr (Or.inr (by omega)))))
  refine lv_aload_n hx hb dX9_copyFrom_86 rfl (lv_at hl 0 rfl) ?_
  refine lv_aload_n hx hb dX9_copyFrom_87 rfl (lv_at hl 1 rfl) ?_
  refine tk_getk (ci := 9) (C := RX9) (T := TX9) (N := 11) (sp := (0, (-1), 7, 0)) hx hb htl inX9 hown hK hG ht_a1 (by decide) (tk_out (tk_ne ht_a1 ht_a0 (Or.inr (Or.inr (by omega))))) rfl 5 (by decide) (htl _ mw_86) (fun _ h9 => h9) rfl hg_0 dX9_copyFrom_88 ?_
  refine tk_put0 (ci := 9) (v := .int g0) (ty := .int) (C := RX9) (T := TX9) (N := 11) hx hb htl inX9 tyX9 tyX9_ok nmX9 hown hK hat rfl 5 (by decide) (htl _ mw_86) (fun _ h9 => h9) rfl (tyX9_ok 5 (by decide)) rfl rfl (Nat.le_of_ble_eq_true rfl) dX9_copyFrom_91 (fun H j9 hat z9 hq9 => ?_)
  have hS := hS.put (k := j9) z9 hq9 (tk_w.of ht_a0 (by decide) (List.mem_of_getElem? (i := 1) rfl) (Nat.le_refl _) (Nat.le_refl _))
  have hG := hG.ajar (List.mem_singleton.mpr rfl) hq9
  have hat : va_at D vwCl (a0, .inr (9, [.ref b1, .ref b2, .ref b3, .ref b4, .int v30, .int g0, .int v7, .int v8, .int v9, .int v10, .int v11])) H := hat
  generalize locs ++ [_] = locs at hS ⊢
  have hg_0 := hg_0.kept (hq9 _ (tk_ne ht_a1 ht_a0 (Or.inr (Or.inr (by omega)))))
  refine lv_aload_n hx hb dX9_copyFrom_94 rfl (lv_at hl 0 rfl) ?_
  refine lv_aload_n hx hb dX9_copyFrom_95 rfl (lv_at hl 1 rfl) ?_
  refine tk_get (ci := 9) (C := RX9) (T := TX9) (N := 11) (sp := (0, (-1), 7, 0)) hx hb htl inX9 hown hK hG ht_a1 (by decide) (tk_out (tk_ne ht_a1 ht_a0 (Or.inr (Or.inr (by omega))))) rfl 6 (by decide) (htl _ mw_87) (fun _ h9 => h9) rfl dX9_copyFrom_96 (fun v9 hf33 hV9 => ?_)
  obtain ⟨v34, rfl, (ha_v34 : (-1) ≤ v34.toInt), (hb_v34 : v34.toInt ≤ 7)⟩ := hV9
  have hs_v34 := tk_snd hG ht_a1 (tk_out (tk_ne ht_a1 ht_a0 (Or.inr (Or.inr (by omega))))) hg_0 hf33
  refine tk_put0 (ci := 9) (v := .int v34) (ty := .int) (C := RX9) (T := TX9) (N := 11) hx hb htl inX9 tyX9 tyX9_ok nmX9 hown hK hat rfl 6 (by decide) (htl _ mw_87) (fun _ h9 => h9) rfl (tyX9_ok 6 (by decide)) rfl rfl (Nat.le_of_ble_eq_true rfl) dX9_copyFrom_99 (fun H j9 hat z9 hq9 => ?_)
  have hS := hS.put (k := j9) z9 hq9 (tk_w.of ht_a0 (by decide) (List.mem_of_getElem? (i := 1) rfl) (Nat.le_refl _) (Nat.le_refl _))
  have hG := hG.ajar (List.mem_singleton.mpr rfl) hq9
  have hat : va_at D vwCl (a0, .inr (9, [.ref b1, .ref b2, .ref b3, .ref b4, .int v30, .int g0, .int v34, .int v8, .int v9, .int v10, .int v11])) H := hat
  generalize locs ++ [_] = locs at hS ⊢
  have hg_0 := hg_0.kept (hq9 _ (tk_ne ht_a1 ht_a0 (Or.inr (Or.inr (by omega)))))
  refine lv_aload_n hx hb dX9_copyFrom_102 rfl (lv_at hl 0 rfl) ?_
  refine lv_aload_n hx hb dX9_copyFrom_103 rfl (lv_at hl 1 rfl) ?_
  refine tk_get (ci := 9) (C := RX9) (T := TX9) (N := 11) (sp := (0, (-2147483648), 2147483647, 0)) hx hb htl inX9 hown hK hG ht_a1 (by decide) (tk_out (tk_ne ht_a1 ht_a0 (Or.inr (Or.inr (by omega))))) rfl 7 (by decide) (htl _ mw_824) (fun _ h9 => h9) rfl dX9_copyFrom_104 (fun v9 hf36 hV9 => ?_)
  obtain ⟨v37, rfl, (ha_v37 : (-2147483648) ≤ v37.toInt), (hb_v37 : v37.toInt ≤ 2147483647)⟩ := hV9
  refine tk_put0 (ci := 9) (v := .int v37) (ty := .int) (C := RX9) (T := TX9) (N := 11) hx hb htl inX9 tyX9 tyX9_ok nmX9 hown hK hat rfl 7 (by decide) (htl _ mw_824) (fun _ h9 => h9) rfl (tyX9_ok 7 (by decide)) rfl rfl (Nat.le_of_ble_eq_true rfl) dX9_copyFrom_107 (fun H j9 hat z9 hq9 => ?_)
  have hS := hS.put (k := j9) z9 hq9 (tk_w.of ht_a0 (by decide) (List.mem_of_getElem? (i := 1) rfl) (Nat.le_refl _) (Nat.le_refl _))
  have hG := hG.ajar (List.mem_singleton.mpr rfl) hq9
  have hat : va_at D vwCl (a0, .inr (9, [.ref b1, .ref b2, .ref b3, .ref b4, .int v30, .int g0, .int v34, .int v37, .int v9, .int v10, .int v11])) H := hat
  generalize locs ++ [_] = locs at hS ⊢
  have hg_0 := hg_0.kept (hq9 _ (tk_ne ht_a1 ht_a0 (Or.inr (Or.inr (by omega)))))
  refine lv_aload_n hx hb dX9_copyFrom_110 rfl (lv_at hl 0 rfl) ?_
  refine lv_aload_n hx hb dX9_copyFrom_111 rfl (lv_at hl 1 rfl) ?_
  refine tk_get (ci := 9) (C := RX9) (T := TX9) (N := 11) (sp := (0, (-2147483648), 2147483647, 0)) hx hb htl inX9 hown hK hG ht_a1 (by decide) (tk_out (tk_ne ht_a1 ht_a0 (Or.inr (Or.inr (by omega))))) rfl 8 (by decide) (htl _ mw_825) (fun _ h9 => h9) rfl dX9_copyFrom_112 (fun v9 hf39 hV9 => ?_)
  obtain ⟨v40, rfl, (ha_v40 : (-2147483648) ≤ v40.toInt), (hb_v40 : v40.toInt ≤ 2147483647)⟩ := hV9
  refine tk_put0 (ci := 9) (v := .int v40) (ty := .int) (C := RX9) (T := TX9) (N := 11) hx hb htl inX9 tyX9 tyX9_ok nmX9 hown hK hat rfl 8 (by decide) (htl _ mw_825) (fun _ h9 => h9) rfl (tyX9_ok 8 (by decide)) rfl rfl (Nat.le_of_ble_eq_true rfl) dX9_copyFrom_115 (fun H j9 hat z9 hq9 => ?_)
  have hS := hS.put (k := j9) z9 hq9 (tk_w.of ht_a0 (by decide) (List.mem_of_getElem? (i := 1) rfl) (Nat.le_refl _) (Nat.le_refl _))
  have hG := hG.ajar (List.mem_singleton.mpr rfl) hq9
  have hat : va_at D vwCl (a0, .inr (9, [.ref b1, .ref b2, .ref b3, .ref b4, .int v30, .int g0, .int v34, .int v37, .int v40, .int v10, .int v11])) H := hat
  generalize locs ++ [_] = locs at hS ⊢
  have hg_0 := hg_0.kept (hq9 _ (tk_ne ht_a1 ht_a0 (Or.inr (Or.inr (by omega)))))
  refine lv_aload_n hx hb dX9_copyFrom_118 rfl (lv_at hl 0 rfl) ?_
  refine lv_aload_n hx hb dX9_copyFrom_119 rfl (lv_at hl 1 rfl) ?_
  refine tk_get (ci := 9) (C := RX9) (T := TX9) (N := 11) (sp := (0, 0, 1, 0)) hx hb htl inX9 hown hK hG ht_a1 (by decide) (tk_out (tk_ne ht_a1 ht_a0 (Or.inr (Or.inr (by omega))))) rfl 9 (by decide) (htl _ mw_826) (fun _ h9 => h9) rfl dX9_copyFrom_120 (fun v9 hf42 hV9 => ?_)
  obtain ⟨v43, rfl, (ha_v43 : 0 ≤ v43.toInt), (hb_v43 : v43.toInt ≤ 1)⟩ := hV9
  refine tk_put0 (ci := 9) (v := .int v43) (ty := .boolean) (C := RX9) (T := TX9) (N := 11) hx hb htl inX9 tyX9 tyX9_ok nmX9 hown hK hat rfl 9 (by decide) (htl _ mw_826) (fun _ h9 => h9) rfl (tyX9_ok 9 (by decide)) (tk_nz (by omega) (by omega)) (tk_fz (by omega) (by omega)) (Nat.le_of_ble_eq_true rfl) dX9_copyFrom_123 (fun H j9 hat z9 hq9 => ?_)
  have hS := hS.put (k := j9) z9 hq9 (tk_w.of ht_a0 (by decide) (List.mem_of_getElem? (i := 1) rfl) (Nat.le_refl _) (Nat.le_refl _))
  have hG := hG.ajar (List.mem_singleton.mpr rfl) hq9
  have hat : va_at D vwCl (a0, .inr (9, [.ref b1, .ref b2, .ref b3, .ref b4, .int v30, .int g0, .int v34, .int v37, .int v40, .int v43, .int v11])) H := hat
  generalize locs ++ [_] = locs at hS ⊢
  have hg_0 := hg_0.kept (hq9 _ (tk_ne ht_a1 ht_a0 (Or.inr (Or.inr (by omega)))))
  refine lv_aload_n hx hb dX9_copyFrom_126 rfl (lv_at hl 0 rfl) ?_
  refine lv_aload_n hx hb dX9_copyFrom_127 rfl (lv_at hl 1 rfl) ?_
  refine tk_get (ci := 9) (C := RX9) (T := TX9) (N := 11) (sp := (0, (-2147483648), 2147483647, 0)) hx hb htl inX9 hown hK hG ht_a1 (by decide) (tk_out (tk_ne ht_a1 ht_a0 (Or.inr (Or.inr (by omega))))) rfl 10 (by decide) (htl _ mw_88) (fun _ h9 => h9) rfl dX9_copyFrom_128 (fun v9 hf45 hV9 => ?_)
  obtain ⟨v46, rfl, (ha_v46 : (-2147483648) ≤ v46.toInt), (hb_v46 : v46.toInt ≤ 2147483647)⟩ := hV9
  refine tk_put0 (ci := 9) (v := .int v46) (ty := .int) (C := RX9) (T := TX9) (N := 11) hx hb htl inX9 tyX9 tyX9_ok nmX9 hown hK hat rfl 10 (by decide) (htl _ mw_88) (fun _ h9 => h9) rfl (tyX9_ok 10 (by decide)) rfl rfl (Nat.le_of_ble_eq_true rfl) dX9_copyFrom_131 (fun H j9 hat z9 hq9 => ?_)
  have hS := hS.put (k := j9) z9 hq9 (tk_w.of ht_a0 (by decide) (List.mem_of_getElem? (i := 1) rfl) (Nat.le_refl _) (Nat.le_refl _))
  have hG := hG.ajar (List.mem_singleton.mpr rfl) hq9
  have hat : va_at D vwCl (a0, .inr (9, [.ref b1, .ref b2, .ref b3, .ref b4, .int v30, .int g0, .int v34, .int v37, .int v40, .int v43, .int v46])) H := hat
  generalize locs ++ [_] = locs at hS ⊢
  have hg_0 := hg_0.kept (hq9 _ (tk_ne ht_a1 ht_a0 (Or.inr (Or.inr (by omega)))))
  have hG := tk_cl9 hG ht_a0 hat ht_b1 ht_b2 ht_b3 ht_b4 (tk_rng _).1 (tk_rng _).2 (by omega) (by omega) (by omega) (by omega) (tk_rng _).1 (tk_rng _).2 (tk_rng _).1 (tk_rng _).2 (by omega) (by omega) (tk_rng _).1 (tk_rng _).2 (by omega)
  have hf48 : tk_f D H a0 9 5 (.int g0) := tk_f.of hat (C := RX9) (T := TX9) (N := 11) rfl (by decide) rfl
  exact tk_vret hx hb hr hlocks (show tk_f D H a0 9 5 (.int g0) from hf48) hG hS dX9_copyFrom_134
theorem dX0_run_0 : decode cX0_run 0 = .ok (.aload_n 0, 1) := by decide +kernel
theorem dX0_run_1 : decode cX0_run 1 = .ok (.iload_n 1, 1) := by decide +kernel
theorem dX0_run_2 : decode cX0_run 2 = .ok (.putfield 33, 3) := by decide +kernel
theorem dX0_run_5 : decode cX0_run 5 = .ok (.aload_n 0, 1) := by decide +kernel
theorem dX0_run_6 : decode cX0_run 6 = .ok (.aload_n 0, 1) := by decide +kernel
theorem dX0_run_7 : decode cX0_run 7 = .ok (.getfield 25, 3) := by decide +kernel
theorem dX0_run_10 : decode cX0_run 10 = .ok (.getfield 37, 3) := by decide +kernel
theorem dX0_run_13 : decode cX0_run 13 = .ok (.putfield 42, 3) := by decide +kernel
theorem dX0_run_16 : decode cX0_run 16 = .ok (.aload_n 0, 1) := by decide +kernel
theorem dX0_run_17 : decode cX0_run 17 = .ok (.getfield 12, 3) := by decide +kernel
theorem dX0_run_20 : decode cX0_run 20 = .ok (.aload_n 0, 1) := by decide +kernel
theorem dX0_run_21 : decode cX0_run 21 = .ok (.getfield 25, 3) := by decide +kernel
theorem dX0_run_24 : decode cX0_run 24 = .ok (.getfield 43, 3) := by decide +kernel
theorem dX0_run_27 : decode cX0_run 27 = .ok (.invokevirtual 44, 3) := by decide +kernel
theorem dX0_run_30 : decode cX0_run 30 = .ok (.aload_n 0, 1) := by decide +kernel
theorem dX0_run_31 : decode cX0_run 31 = .ok (.getfield 12, 3) := by decide +kernel
theorem dX0_run_34 : decode cX0_run 34 = .ok (.invokevirtual 48, 3) := by decide +kernel
theorem dX0_run_37 : decode cX0_run 37 = .ok (.aload_n 0, 1) := by decide +kernel
theorem dX0_run_38 : decode cX0_run 38 = .ok (.getfield 18, 3) := by decide +kernel
theorem dX0_run_41 : decode cX0_run 41 = .ok (.iconst 0, 1) := by decide +kernel
theorem dX0_run_42 : decode cX0_run 42 = .ok (.invokestatic 51, 3) := by decide +kernel
theorem dX0_run_45 : decode cX0_run 45 = .ok (.iconst 0, 1) := by decide +kernel
theorem dX0_run_46 : decode cX0_run 46 = .ok (.istore_n 3, 1) := by decide +kernel
theorem dX0_run_47 : decode cX0_run 47 = .ok (.iconst 0, 1) := by decide +kernel
theorem dX0_run_48 : decode cX0_run 48 = .ok (.istore 4, 2) := by decide +kernel
theorem dX0_run_50 : decode cX0_run 50 = .ok (.iload 4, 2) := by decide +kernel
theorem dX0_run_52 : decode cX0_run 52 = .ok (.iload_n 2, 1) := by decide +kernel
theorem dX0_run_97 : decode cX0_run 97 = .ok (.iload_n 3, 1) := by decide +kernel
theorem dX0_run_98 : decode cX0_run 98 = .ok (.ireturn, 1) := by decide +kernel
theorem dX0_run_53 : decode cX0_run 53 = .ok (.if_icmp .ge 44, 3) := by decide +kernel
theorem dX0_run_56 : decode cX0_run 56 = .ok (.iload_n 3, 1) := by decide +kernel
theorem dX0_run_57 : decode cX0_run 57 = .ok (.aload_n 0, 1) := by decide +kernel
theorem dX0_run_58 : decode cX0_run 58 = .ok (.invokevirtual 57, 3) := by decide +kernel
theorem dX0_run_61 : decode cX0_run 61 = .ok (.iadd, 1) := by decide +kernel
theorem dX0_run_62 : decode cX0_run 62 = .ok (.istore_n 3, 1) := by decide +kernel
theorem dX0_run_63 : decode cX0_run 63 = .ok (.aload_n 0, 1) := by decide +kernel
theorem dX0_run_64 : decode cX0_run 64 = .ok (.getfield 12, 3) := by decide +kernel
theorem dX0_run_67 : decode cX0_run 67 = .ok (.getfield 61, 3) := by decide +kernel
theorem dX0_run_70 : decode cX0_run 70 = .ok (.sipush 999, 3) := by decide +kernel
theorem dX0_run_73 : decode cX0_run 73 = .ok (.if_icmp .lt 6, 3) := by decide +kernel
theorem dX0_run_79 : decode cX0_run 79 = .ok (.aload_n 0, 1) := by decide +kernel
theorem dX0_run_80 : decode cX0_run 80 = .ok (.getfield 29, 3) := by decide +kernel
theorem dX0_run_83 : decode cX0_run 83 = .ok (.aload_n 0, 1) := by decide +kernel
theorem dX0_run_84 : decode cX0_run 84 = .ok (.getfield 12, 3) := by decide +kernel
theorem dX0_run_87 : decode cX0_run 87 = .ok (.invokevirtual 64, 3) := by decide +kernel
theorem dX0_run_90 : decode cX0_run 90 = .ok (.pop, 1) := by decide +kernel
theorem dX0_run_91 : decode cX0_run 91 = .ok (.iinc 4 1, 3) := by decide +kernel
theorem dX0_run_94 : decode cX0_run 94 = .ok (.goto (-44), 3) := by decide +kernel
theorem dX0_run_76 : decode cX0_run 76 = .ok (.goto 21, 3) := by decide +kernel
set_option maxHeartbeats 4000000 in
set_option maxRecDepth 100000 in
theorem k_X0_run (l : Launch) (D : va_G) (cy : Nat → ClassId) (ld : Nat → Nat) (t : tk_T) (a0 : Nat) (p1 : Int32) (p2 : Int32) (ht_a0 : t a0 = (1, 0, 0)) (hp_0 : 0 ≤ p1.toInt) (hp_1 : p1.toInt ≤ 1000000) (hp_2 : 1 ≤ p2.toInt) (hp_3 : p2.toInt ≤ 60) : Met l yX0_run (wl yX0_run cX0_run 5 (some .int)) ({ frames := 8, cells := 0, slots := 0, locals := 490 }) (tp D cy ld t [] [.ref a0, .int p1, .int p2] (fun H => True)) (ti D cy ld t [] (fun r H => 0 ≤ r.toInt ∧ r.toInt ≤ 60) (tk_w t [(1, 0, 0), (20, 5, 5), (10, 5, 5), (20, 0, 0), (12, 0, 0), (9, 0, 0), (22, 0, 0)])) 0 0 (tk_w t [(1, 0, 0), (20, 5, 5), (10, 5, 5), (20, 0, 0), (12, 0, 0), (9, 0, 0), (22, 0, 0)]) := by
  refine tk_met (y := yX0_run) (cc := cX0_run) (maxL := 5) (ret := (some .int)) (av := [.ref a0, .int p1, .int p2]) _ _ (by decide) (Nat.le_of_ble_eq_true rfl) ?_
  intro p e s m args below meth c hx hb hr hml hts htl hown hlocks hK H locs hH hG hS hB hZ ls hl
  have hown : s.vm.findClass RX0 = some m.cls := hown
  have hl : lv_has ls 5 [(0, .ref a0), (1, .int p1), (2, .int p2)] := hl
  have hr_p1 := tk_rng p1
  have hr_p2 := tk_rng p2
  refine lv_aload_n hx hb dX0_run_0 rfl (lv_at hl 0 rfl) ?_
  refine lv_iload_n hx hb dX0_run_1 rfl (lv_at hl 1 rfl) ?_
  refine tk_put (ci := 0) (v := .int p1) (ty := .int) (C := RX0) (T := TX0) (N := 7) (sp := (0, 0, 1000002, 0)) hx hb htl inX0 tyX0 tyX0_ok nmX0 hown hK hG hS ht_a0 (by decide) tk_no rfl 6 (by decide) (htl _ mw_1640) (fun _ h9 => h9) rfl (tyX0_ok 6 (by decide)) rfl rfl rfl (tk_V0 (by omega) (by omega)) (fun _ h => h) (tk_w.of ht_a0 (by decide) (List.mem_of_getElem? (i := 0) rfl) (Nat.le_refl _) (Nat.le_refl _)) dX0_run_2 (fun H locs hG hS hf1 hq9 hj9 => ?_)
  refine lv_aload_n hx hb dX0_run_5 rfl (lv_at hl 0 rfl) ?_
  refine lv_aload_n hx hb dX0_run_6 rfl (lv_at hl 0 rfl) ?_
  refine tk_get (ci := 0) (C := RX0) (T := TX0) (N := 7) (sp := (8, 20, 3, 0)) hx hb htl inX0 hown hK hG ht_a0 (by decide) tk_no rfl 3 (by decide) (htl _ mw_166) (fun _ h9 => h9) rfl dX0_run_7 (fun v9 hf3 hV9 => ?_)
  obtain ⟨rfl, ht_ld20⟩ := hV9
  have ht_ld20 : t (ld 20) = (3, 0, 0) := ht_ld20
  refine fx_top (v := .ref (ld 20)) rfl ?_
  refine tk_get (ci := 2) (C := RX2) (T := TX2) (N := 20) (sp := (0, 0, 8, 0)) hx hb htl inX2 hown hK hG ht_ld20 (by decide) tk_no rfl 0 (by decide) (htl _ mw_1641) (fun _ h9 => h9) rfl dX0_run_10 (fun v9 hf4 hV9 => ?_)
  obtain ⟨v5, rfl, (ha_v5 : 0 ≤ v5.toInt), (hb_v5 : v5.toInt ≤ 8)⟩ := hV9
  refine tk_put (ci := 0) (v := .int v5) (ty := .int) (C := RX0) (T := TX0) (N := 7) (sp := (0, 0, 8, 0)) hx hb htl inX0 tyX0 tyX0_ok nmX0 hown hK hG hS ht_a0 (by decide) tk_no rfl 2 (by decide) (htl _ mw_1642) (fun _ h9 => h9) rfl (tyX0_ok 2 (by decide)) rfl rfl rfl (tk_V0 (by omega) (by omega)) (fun _ h => h) (tk_w.of ht_a0 (by decide) (List.mem_of_getElem? (i := 0) rfl) (Nat.le_refl _) (Nat.le_refl _)) dX0_run_13 (fun H locs hG hS hf6 hq9 hj9 => ?_)
  have hf4 := hf4.kept (hq9 _ (tk_ne ht_ld20 ht_a0 (Or.inl (by decide))))
  refine lv_aload_n hx hb dX0_run_16 rfl (lv_at hl 0 rfl) ?_
  refine tk_get (ci := 0) (C := RX0) (T := TX0) (N := 7) (sp := (8, 22, 10, 5)) hx hb htl inX0 hown hK hG ht_a0 (by decide) tk_no rfl 0 (by decide) (htl _ mw_163) (fun _ h9 => h9) rfl dX0_run_17 (fun v9 hf8 hV9 => ?_)
  obtain ⟨rfl, ht_ld22⟩ := hV9
  have ht_ld22 : t (ld 22) = (10, 0, 5) := ht_ld22
  refine fx_top (v := .ref (ld 22)) rfl ?_
  refine lv_aload_n hx hb dX0_run_20 rfl (lv_at hl 0 rfl) ?_
  refine tk_get (ci := 0) (C := RX0) (T := TX0) (N := 7) (sp := (8, 20, 3, 0)) hx hb htl inX0 hown hK hG ht_a0 (by decide) tk_no rfl 3 (by decide) (htl _ mw_166) (fun _ h9 => h9) rfl dX0_run_21 (fun v9 hf9 hV9 => ?_)
  obtain ⟨rfl, ht_ld20⟩ := hV9
  have ht_ld20 : t (ld 20) = (3, 0, 0) := ht_ld20
  refine fx_top (v := .ref (ld 20)) rfl ?_
  refine tk_get (ci := 2) (C := RX2) (T := TX2) (N := 20) (sp := (9, 40, 10, 0)) hx hb htl inX2 hown hK hG ht_ld20 (by decide) tk_no rfl 19 (by decide) (htl _ mw_1643) (fun _ h9 => h9) rfl dX0_run_24 (fun v9 hf10 hV9 => ?_)
  obtain ⟨rfl, ht_ld40⟩ := hV9
  have ht_ld40 : t (ld 40) = (10, 0, 0) := ht_ld40
  refine fx_top (v := .ref (ld 40)) rfl ?_
  obtain ⟨v9, hf11, hV9⟩ := tk_peek (ci := 9) (C := RX9) (T := TX9) (N := 11) (sp := (0, (-1), 7, 0)) hG ht_ld40 (by decide) tk_no rfl 5 (by decide) rfl
  obtain ⟨v12, rfl, (ha_v12 : (-1) ≤ v12.toInt), (hb_v12 : v12.toInt ≤ 7)⟩ := hV9
  refine tk_Vv (As := [.ref (ld 40)]) (rest := []) (ci := 9) ⟨hx, hb, hml, hown, hts⟩ hK hG hZ hS (k_X9_copyFrom l D cy ld t 5 0 (ld 22) (ld 40) v12 ht_ld22 ht_ld40 (by omega) (by omega) (by omega)) hf11 ⟨callB_of 1 hts (wl_in mw_821) rfl rfl rfl (htl _ mw_76) (htl _ mw_1645) hd_yX9_copyFrom ⟨(Nat.le_of_ble_eq_true rfl), (Nat.le_of_ble_eq_true rfl)⟩, htl _ mw_819, htl _ mw_820⟩ ht_ld22 (by decide) tk_no rfl (tk_w.pick [1, 2] rfl) rfl hl.1 rfl (Nat.le_of_ble_eq_true rfl) dX0_run_27 ⟨(Nat.le_of_ble_eq_true rfl), (Nat.le_of_ble_eq_true rfl)⟩ (fun H locs hpo hG hS hq9 => ?_)
  have hf4 := hf4.call hq9 (tk_w.no ht_ld20 (by decide))
  have hf11 := hf11.call hq9 (tk_w.no ht_ld40 (by decide))
  have hf14 := hpo
  refine lv_aload_n hx hb dX0_run_30 rfl (lv_at hl 0 rfl) ?_
  refine tk_get (ci := 0) (C := RX0) (T := TX0) (N := 7) (sp := (8, 22, 10, 5)) hx hb htl inX0 hown hK hG ht_a0 (by decide) tk_no rfl 0 (by decide) (htl _ mw_163) (fun _ h9 => h9) rfl dX0_run_31 (fun v9 hf15 hV9 => ?_)
  obtain ⟨rfl, ht_ld22⟩ := hV9
  have ht_ld22 : t (ld 22) = (10, 0, 5) := ht_ld22
  refine fx_top (v := .ref (ld 22)) rfl ?_
  refine tk_Vv (As := []) (rest := []) (ci := 9) ⟨hx, hb, hml, hown, hts⟩ hK hG hZ hS (k_X9_closeDuel l D cy ld t 5 (ld 22) ht_ld22) trivial ⟨callB_of 0 hts (wl_in mw_975) rfl rfl rfl (htl _ mw_76) (htl _ mw_1646) hd_yX9_closeDuel ⟨(Nat.le_of_ble_eq_true rfl), (Nat.le_of_ble_eq_true rfl)⟩, htl _ mw_973, htl _ mw_974⟩ ht_ld22 (by decide) tk_no rfl (tk_w.pick [2] rfl) rfl hl.1 rfl (Nat.le_of_ble_eq_true rfl) dX0_run_34 ⟨(Nat.le_of_ble_eq_true rfl), (Nat.le_of_ble_eq_true rfl)⟩ (fun H locs hpo hG hS hq9 => ?_)
  have hf4 := hf4.call hq9 (tk_w.no ht_ld20 (by decide))
  have hf11 := hf11.call hq9 (tk_w.no ht_ld40 (by decide))
  have hf17 := hpo
  refine lv_aload_n hx hb dX0_run_37 rfl (lv_at hl 0 rfl) ?_
  refine tk_get (ci := 0) (C := RX0) (T := TX0) (N := 7) (sp := (6, 20, 8, 0)) hx hb htl inX0 hown hK hG ht_a0 (by decide) tk_no rfl 1 (by decide) (htl _ mw_164) (fun _ h9 => h9) rfl dX0_run_38 (fun v9 hf18 hV9 => ?_)
  obtain ⟨b19, rfl, ht_b19⟩ := hV9
  have ht_b19 : t b19 = (20, 8, 0) := ht_b19
  refine lv_iconst (v := 0) hx hb dX0_run_41 (by decide) ?_
  have hk_0 : (0 : Int32).toInt = 0 := by decide
  refine tk_Sv (As := [.ref b19, .int 0]) (rest := []) ⟨hx, hb, hml, hown, hts⟩ hK hG hZ hS (k_J7_fill_53178 l D cy ld t b19 0 ht_b19) trivial ⟨callB_of 2 hts (wl_in mw_1650) rfl rfl rfl (htl _ mw_1649) (htl _ mw_1647) hd_yJ7_fill_53178 ⟨(Nat.le_of_ble_eq_true rfl), (Nat.le_of_ble_eq_true rfl)⟩, htl _ mw_1648⟩ (tk_w.pick [3] rfl) rfl hl.1 rfl (Nat.le_of_ble_eq_true rfl) dX0_run_42 ⟨(Nat.le_of_ble_eq_true rfl), (Nat.le_of_ble_eq_true rfl)⟩ (fun H locs hpo hG hS hq9 => ?_)
  have hf4 := hf4.call hq9 (tk_w.no ht_ld20 (by decide))
  have hf11 := hf11.call hq9 (tk_w.no ht_ld40 (by decide))
  have hf17 := hf17.call hq9 (tk_w.no ht_ld22 (by decide))
  refine lv_iconst (v := 0) hx hb dX0_run_45 (by decide) ?_
  refine lv_istore_n (lv' := [(3, .int 0), (0, .ref a0), (1, .int p1), (2, .int p2)]) hx hb dX0_run_46 rfl hl (by decide) rfl (fun ls hl => ?_)
  refine lv_iconst (v := 0) hx hb dX0_run_47 (by decide) ?_
  refine lv_istore (lv' := [(4, .int 0), (3, .int 0), (0, .ref a0), (1, .int p1), (2, .int p2)]) hx hb dX0_run_48 hl (by decide) rfl (fun ls hl => ?_)
  have hl336 : ∀ (N_l336 : Nat) (v60 : Int32) (v61 : Int32) (H : Heap) (locs : List Loc), 0 ≤ p2.toInt + (-1) * v60.toInt → 0 ≤ v61.toInt → 0 ≤ v60.toInt + (-1) * v61.toInt → (-1) * v60.toInt + 60 < (N_l336 : Int) → tk_G D cy ld t [] H → va_S (tk_w t [(1, 0, 0), (20, 5, 5), (10, 5, 5), (20, 0, 0), (12, 0, 0), (9, 0, 0), (22, 0, 0)]) s.heap H locs → tk_f D H (ld 20) 2 0 (.int v5) → tk_f D H (ld 40) 9 5 (.int v12) → ∀ ls : Array Slot, lv_has ls 5 [(4, .int v60), (3, .int v61), (0, .ref a0), (2, .int p2)] → W p l e ({ frames := 8, cells := 0, slots := 0, locals := 490 }) s m args below meth c H locs 0 0 (MQ below (ti D cy ld t [] (fun r H => 0 ≤ r.toInt ∧ r.toInt ≤ 60) (tk_w t [(1, 0, 0), (20, 5, 5), (10, 5, 5), (20, 0, 0), (12, 0, 0), (9, 0, 0), (22, 0, 0)])) args s 0 0 (tk_w t [(1, 0, 0), (20, 5, 5), (10, 5, 5), (20, 0, 0), (12, 0, 0), (9, 0, 0), (22, 0, 0)])) (F0 m 50 ls []) := by
    intro N_l336
    induction N_l336 with
    | zero => intro v60 v61 H locs hq0_l336 hq1_l336 hq2_l336 hm_l336 hG hS hf4 hf11 ls hl; exfalso; omega
    | succ N_l336 ih_l336 =>
      intro v60 v61 H locs hq0_l336 hq1_l336 hq2_l336 hm_l336 hG hS hf4 hf11 ls hl
      refine lv_iload hx hb dX0_run_50 (lv_at hl 0 rfl) ?_
      refine lv_iload_n hx hb dX0_run_52 rfl (lv_at hl 3 rfl) ?_
      have hj357 : ∀ (v355 : Int32) (H : Heap) (locs : List Loc), 0 ≤ (-1) * v355.toInt + v61.toInt + 1 → 0 ≤ v355.toInt + (-1) * v61.toInt → 0 ≤ p2.toInt + (-1) * v355.toInt → tk_G D cy ld t [] H → va_S (tk_w t [(1, 0, 0), (20, 5, 5), (10, 5, 5), (20, 0, 0), (12, 0, 0), (9, 0, 0), (22, 0, 0)]) s.heap H locs → tk_f D H (ld 20) 2 0 (.int v5) → tk_f D H (ld 40) 9 5 (.int v12) → ∀ ls : Array Slot, lv_has ls 5 [(3, .int v355)] → W p l e ({ frames := 8, cells := 0, slots := 0, locals := 490 }) s m args below meth c H locs 0 0 (MQ below (ti D cy ld t [] (fun r H => 0 ≤ r.toInt ∧ r.toInt ≤ 60) (tk_w t [(1, 0, 0), (20, 5, 5), (10, 5, 5), (20, 0, 0), (12, 0, 0), (9, 0, 0), (22, 0, 0)])) args s 0 0 (tk_w t [(1, 0, 0), (20, 5, 5), (10, 5, 5), (20, 0, 0), (12, 0, 0), (9, 0, 0), (22, 0, 0)])) (F0 m 97 ls []) := by
        intro v355 H locs hq0_j357 hq1_j357 hq2_j357 hG hS hf4 hf11 ls hl
        refine lv_iload_n hx hb dX0_run_97 rfl (lv_at hl 0 rfl) ?_
        exact tk_iret (v := v355) hx hb hr rfl hlocks (show 0 ≤ v355.toInt ∧ v355.toInt ≤ 60 from ⟨(by omega), (by omega)⟩) hG hS dX0_run_98
      refine lv_icmp_ge (tgt := 97) hx hb dX0_run_53 (by decide) (fun c9 => ?_) (fun c9 => ?_)
      · have hc337 : p2.toInt ≤ v60.toInt := (fi_le rfl rfl).mp c9
        exact hj357 v61 _ _ (by omega) (by omega) (by omega) hG hS hf4 hf11 _ (lv_sub hl [1] rfl)
      · have hc337 : ¬ (p2.toInt ≤ v60.toInt) := fun h9 => c9 ((fi_le rfl rfl).mpr h9)
        refine lv_iload_n hx hb dX0_run_56 rfl (lv_at hl 1 rfl) ?_
        refine lv_aload_n hx hb dX0_run_57 rfl (lv_at hl 2 rfl) ?_
        refine tk_Vi (As := []) (rest := [.int v61]) (ci := 0) ⟨hx, hb, hml, hown, hts⟩ hK hG hZ hS (k_X0_singDay l D cy ld t a0 ht_a0) trivial ⟨callB_of 0 hts (wl_in mw_1654) rfl rfl rfl (htl _ mw_44) (htl _ mw_1651) hd_yX0_singDay ⟨(Nat.le_of_ble_eq_true rfl), (Nat.le_of_ble_eq_true rfl)⟩, htl _ mw_1652, htl _ mw_1653⟩ ht_a0 (by decide) tk_no rfl (tk_w.pick [0, 2, 3, 4, 5, 6, 1] rfl) rfl hl.1 rfl (Nat.le_of_ble_eq_true rfl) dX0_run_58 ⟨(Nat.le_of_ble_eq_true rfl), (Nat.le_of_ble_eq_true rfl)⟩ (fun v358 H locs hpo hG hS hq9 => ?_)
        have hf4 := hf4.call hq9 (tk_w.no ht_ld20 (by decide))
        have hf11 := hf11.call hq9 (tk_w.no ht_ld40 (by decide))
        obtain ⟨hpo360, hpo361⟩ := hpo
        refine lv_iadd hx hb dX0_run_61 ?_
        refine tk_add rfl rfl (by omega) (by omega) (fun v362 h_v362 => ?_)
        refine lv_istore_n (lv' := [(3, .int v362), (4, .int v60), (0, .ref a0), (2, .int p2)]) hx hb dX0_run_62 rfl hl (by decide) rfl (fun ls hl => ?_)
        refine lv_aload_n hx hb dX0_run_63 rfl (lv_at hl 2 rfl) ?_
        refine tk_get (ci := 0) (C := RX0) (T := TX0) (N := 7) (sp := (8, 22, 10, 5)) hx hb htl inX0 hown hK hG ht_a0 (by decide) tk_no rfl 0 (by decide) (htl _ mw_163) (fun _ h9 => h9) rfl dX0_run_64 (fun v9 hf363 hV9 => ?_)
        obtain ⟨rfl, ht_ld22⟩ := hV9
        have ht_ld22 : t (ld 22) = (10, 0, 5) := ht_ld22
        refine fx_top (v := .ref (ld 22)) rfl ?_
        refine tk_get (ci := 9) (C := RX9) (T := TX9) (N := 11) (sp := (0, (-2147483648), 2147483647, 0)) hx hb htl inX9 hown hK hG ht_ld22 (by decide) tk_no rfl 4 (by decide) (htl _ mw_1644) (fun _ h9 => h9) rfl dX0_run_67 (fun v9 hf364 hV9 => ?_)
        obtain ⟨v365, rfl, (ha_v365 : (-2147483648) ≤ v365.toInt), (hb_v365 : v365.toInt ≤ 2147483647)⟩ := hV9
        refine lv_sipush (v := 999) hx hb dX0_run_70 (by decide) ?_
        refine lv_icmp_lt (tgt := 79) hx hb dX0_run_73 (by decide) (fun c9 => ?_) (fun c9 => ?_)
        · have hc366 : v365.toInt < 999 := (fi_lt rfl (show (999 : Int32).toInt = 999 by decide)).mp c9
          refine lv_aload_n hx hb dX0_run_79 rfl (lv_at hl 2 rfl) ?_
          refine tk_get (ci := 0) (C := RX0) (T := TX0) (N := 7) (sp := (6, 9, 0, 0)) hx hb htl inX0 hown hK hG ht_a0 (by decide) tk_no rfl 4 (by decide) (htl _ mw_167) (fun _ h9 => h9) rfl dX0_run_80 (fun v9 hf367 hV9 => ?_)
          obtain ⟨b368, rfl, ht_b368⟩ := hV9
          have ht_b368 : t b368 = (9, 0, 0) := ht_b368
          refine lv_aload_n hx hb dX0_run_83 rfl (lv_at hl 2 rfl) ?_
          refine tk_get (ci := 0) (C := RX0) (T := TX0) (N := 7) (sp := (8, 22, 10, 5)) hx hb htl inX0 hown hK hG ht_a0 (by decide) tk_no rfl 0 (by decide) (htl _ mw_163) (fun _ h9 => h9) rfl dX0_run_84 (fun v9 hf369 hV9 => ?_)
          obtain ⟨rfl, ht_ld22⟩ := hV9
          have ht_ld22 : t (ld 22) = (10, 0, 5) := ht_ld22
          refine fx_top (v := .ref (ld 22)) rfl ?_
          refine tk_Vi (As := [.ref (ld 22)]) (rest := []) (ci := 8) ⟨hx, hb, hml, hown, hts⟩ hK hG hZ hS (k_X8_dawnOn l D cy ld t 5 b368 (ld 22) ht_b368 ht_ld22) trivial ⟨callB_of 1 hts (wl_in mw_995) rfl rfl rfl (htl _ mw_21) (htl _ mw_1679) hd_yX8_dawnOn ⟨(Nat.le_of_ble_eq_true rfl), (Nat.le_of_ble_eq_true rfl)⟩, htl _ mw_993, htl _ mw_994⟩ ht_b368 (by decide) tk_no rfl (tk_w.pick [2, 3, 4, 5, 1] rfl) rfl hl.1 rfl (Nat.le_of_ble_eq_true rfl) dX0_run_87 ⟨(Nat.le_of_ble_eq_true rfl), (Nat.le_of_ble_eq_true rfl)⟩ (fun v370 H locs hpo hG hS hq9 => ?_)
          have hf4 := hf4.call hq9 (tk_w.no ht_ld20 (by decide))
          have hf11 := hf11.call hq9 (tk_w.no ht_ld40 (by decide))
          refine lv_pop hx hb dX0_run_90 rfl ?_
          obtain ⟨v372, h_v372, e_v372⟩ := tk_inc v60 1 (by decide) (by omega) (by omega)
          refine lv_iinc (v := v372) (lv' := [(4, .int v372), (3, .int v362), (0, .ref a0), (2, .int p2)]) hx hb dX0_run_91 hl (k := 1) rfl e_v372 (by decide) rfl (fun ls hl => ?_)
          refine lv_goto (tgt := 50) hx hb dX0_run_94 (by decide) ?_
          exact ih_l336 v372 v362 _ _ (by omega) (by omega) (by omega) (by omega) hG hS hf4 hf11 _ (lv_sub hl [0, 1, 2, 3] rfl)
        · have hc366 : ¬ (v365.toInt < 999) := fun h9 => c9 ((fi_lt rfl (show (999 : Int32).toInt = 999 by decide)).mpr h9)
          refine lv_goto (tgt := 97) hx hb dX0_run_76 (by decide) ?_
          exact hj357 v362 _ _ (by omega) (by omega) (by omega) hG hS hf4 hf11 _ (lv_sub hl [0] rfl)
  have hk_0 : (0 : Int32).toInt = 0 := by decide
  have hk_0 : (0 : Int32).toInt = 0 := by decide
  exact hl336 61 0 0 _ _ (by omega) (by omega) (by omega) (by omega) hG hS hf4 hf11 _ (lv_sub hl [0, 1, 2, 4] rfl)
theorem dX1_remember_0 : decode cX1_remember 0 = .ok (.aload_n 0, 1) := by decide +kernel
theorem dX1_remember_1 : decode cX1_remember 1 = .ok (.getfield 99, 3) := by decide +kernel
theorem dX1_remember_4 : decode cX1_remember 4 = .ok (.bipush 16, 2) := by decide +kernel
theorem dX1_remember_32 : decode cX1_remember 32 = .ok (.aload_n 0, 1) := by decide +kernel
theorem dX1_remember_33 : decode cX1_remember 33 = .ok (.getfield 102, 3) := by decide +kernel
theorem dX1_remember_36 : decode cX1_remember 36 = .ok (.aload_n 0, 1) := by decide +kernel
theorem dX1_remember_37 : decode cX1_remember 37 = .ok (.getfield 99, 3) := by decide +kernel
theorem dX1_remember_40 : decode cX1_remember 40 = .ok (.iadd, 1) := by decide +kernel
theorem dX1_remember_41 : decode cX1_remember 41 = .ok (.bipush 16, 2) := by decide +kernel
theorem dX1_remember_43 : decode cX1_remember 43 = .ok (.irem, 1) := by decide +kernel
theorem dX1_remember_44 : decode cX1_remember 44 = .ok (.istore_n 2, 1) := by decide +kernel
theorem dX1_remember_45 : decode cX1_remember 45 = .ok (.aload_n 0, 1) := by decide +kernel
theorem dX1_remember_46 : decode cX1_remember 46 = .ok (.getfield 11, 3) := by decide +kernel
theorem dX1_remember_49 : decode cX1_remember 49 = .ok (.iload_n 2, 1) := by decide +kernel
theorem dX1_remember_50 : decode cX1_remember 50 = .ok (.aaload, 1) := by decide +kernel
theorem dX1_remember_51 : decode cX1_remember 51 = .ok (.aload_n 0, 1) := by decide +kernel
theorem dX1_remember_52 : decode cX1_remember 52 = .ok (.getfield 32, 3) := by decide +kernel
theorem dX1_remember_55 : decode cX1_remember 55 = .ok (.getfield 50, 3) := by decide +kernel
theorem dX1_remember_58 : decode cX1_remember 58 = .ok (.invokevirtual 105, 3) := by decide +kernel
theorem dX1_remember_61 : decode cX1_remember 61 = .ok (.aload_n 0, 1) := by decide +kernel
theorem dX1_remember_62 : decode cX1_remember 62 = .ok (.getfield 17, 3) := by decide +kernel
theorem dX1_remember_65 : decode cX1_remember 65 = .ok (.iload_n 2, 1) := by decide +kernel
theorem dX1_remember_66 : decode cX1_remember 66 = .ok (.iload_n 1, 1) := by decide +kernel
theorem dX1_remember_67 : decode cX1_remember 67 = .ok (.iastore, 1) := by decide +kernel
theorem dX1_remember_68 : decode cX1_remember 68 = .ok (.aload_n 0, 1) := by decide +kernel
theorem dX1_remember_69 : decode cX1_remember 69 = .ok (.dup, 1) := by decide +kernel
theorem dX1_remember_70 : decode cX1_remember 70 = .ok (.getfield 99, 3) := by decide +kernel
theorem dX1_remember_73 : decode cX1_remember 73 = .ok (.iconst 1, 1) := by decide +kernel
theorem dX1_remember_74 : decode cX1_remember 74 = .ok (.iadd, 1) := by decide +kernel
theorem dX1_remember_75 : decode cX1_remember 75 = .ok (.putfield 99, 3) := by decide +kernel
theorem dX1_remember_78 : decode cX1_remember 78 = .ok (.return_, 1) := by decide +kernel
theorem dX1_remember_6 : decode cX1_remember 6 = .ok (.if_icmp .ne 26, 3) := by decide +kernel
theorem dX1_remember_9 : decode cX1_remember 9 = .ok (.aload_n 0, 1) := by decide +kernel
theorem dX1_remember_10 : decode cX1_remember 10 = .ok (.aload_n 0, 1) := by decide +kernel
theorem dX1_remember_11 : decode cX1_remember 11 = .ok (.getfield 102, 3) := by decide +kernel
theorem dX1_remember_14 : decode cX1_remember 14 = .ok (.iconst 1, 1) := by decide +kernel
theorem dX1_remember_15 : decode cX1_remember 15 = .ok (.iadd, 1) := by decide +kernel
theorem dX1_remember_16 : decode cX1_remember 16 = .ok (.bipush 16, 2) := by decide +kernel
theorem dX1_remember_18 : decode cX1_remember 18 = .ok (.irem, 1) := by decide +kernel
theorem dX1_remember_19 : decode cX1_remember 19 = .ok (.putfield 102, 3) := by decide +kernel
theorem dX1_remember_22 : decode cX1_remember 22 = .ok (.aload_n 0, 1) := by decide +kernel
theorem dX1_remember_23 : decode cX1_remember 23 = .ok (.dup, 1) := by decide +kernel
theorem dX1_remember_24 : decode cX1_remember 24 = .ok (.getfield 99, 3) := by decide +kernel
theorem dX1_remember_27 : decode cX1_remember 27 = .ok (.iconst 1, 1) := by decide +kernel
theorem dX1_remember_28 : decode cX1_remember 28 = .ok (.isub, 1) := by decide +kernel
theorem dX1_remember_29 : decode cX1_remember 29 = .ok (.putfield 99, 3) := by decide +kernel
set_option maxHeartbeats 4000000 in
set_option maxRecDepth 100000 in
theorem k_X1_remember (l : Launch) (D : va_G) (cy : Nat → ClassId) (ld : Nat → Nat) (t : tk_T) (a0 : Nat) (p1 : Int32) (ht_a0 : t a0 = (2, 0, 0)) : Met l yX1_remember (wl yX1_remember cX1_remember 3 none) ({ frames := 5, cells := 0, slots := 0, locals := 280 }) (tp D cy ld t [] [.ref a0, .int p1] (fun H => True)) (tv D cy ld t [] (fun H => True) (tk_w t [(2, 0, 0), (20, 1, 1), (10, 1, 1), (20, 0, 0)])) 0 0 (tk_w t [(2, 0, 0), (20, 1, 1), (10, 1, 1), (20, 0, 0)]) := by
  refine tk_met (y := yX1_remember) (cc := cX1_remember) (maxL := 3) (ret := none) (av := [.ref a0, .int p1]) _ _ (by decide) (Nat.le_of_ble_eq_true rfl) ?_
  intro p e s m args below meth c hx hb hr hml hts htl hown hlocks hK H locs hH hG hS hB hZ ls hl
  have hown : s.vm.findClass RX1 = some m.cls := hown
  have hl : lv_has ls 3 [(0, .ref a0), (1, .int p1)] := hl
  have hr_p1 := tk_rng p1
  refine lv_aload_n hx hb dX1_remember_0 rfl (lv_at hl 0 rfl) ?_
  refine tk_get (ci := 1) (C := RX1) (T := TX1) (N := 11) (sp := (0, 0, 16, 0)) hx hb htl inX1 hown hK hG ht_a0 (by decide) tk_no rfl 0 (by decide) (htl _ mw_267) (fun _ h9 => h9) rfl dX1_remember_1 (fun v9 hf1 hV9 => ?_)
  obtain ⟨v2, rfl, (ha_v2 : 0 ≤ v2.toInt), (hb_v2 : v2.toInt ≤ 16)⟩ := hV9
  refine lv_bipush (v := 16) hx hb dX1_remember_4 (by decide) ?_
  have hj17 : ∀ (v15 : Int32) (H : Heap) (locs : List Loc), 0 ≤ v15.toInt → v15.toInt ≤ 15 → tk_G D cy ld t [] H → va_S (tk_w t [(2, 0, 0), (20, 1, 1), (10, 1, 1), (20, 0, 0)]) s.heap H locs → tk_f D H a0 1 0 (.int v15) → ∀ ls : Array Slot, lv_has ls 3 [(0, .ref a0), (1, .int p1)] → W p l e ({ frames := 5, cells := 0, slots := 0, locals := 280 }) s m args below meth c H locs 0 0 (MQ below (tv D cy ld t [] (fun H => True) (tk_w t [(2, 0, 0), (20, 1, 1), (10, 1, 1), (20, 0, 0)])) args s 0 0 (tk_w t [(2, 0, 0), (20, 1, 1), (10, 1, 1), (20, 0, 0)])) (F0 m 32 ls []) := by
    intro v15 H locs hq0_j17 hq1_j17 hG hS hf1 ls hl
    refine lv_aload_n hx hb dX1_remember_32 rfl (lv_at hl 0 rfl) ?_
    refine tk_get (ci := 1) (C := RX1) (T := TX1) (N := 11) (sp := (0, 0, 15, 0)) hx hb htl inX1 hown hK hG ht_a0 (by decide) tk_no rfl 5 (by decide) (htl _ mw_815) (fun _ h9 => h9) rfl dX1_remember_33 (fun v9 hf18 hV9 => ?_)
    obtain ⟨v19, rfl, (ha_v19 : 0 ≤ v19.toInt), (hb_v19 : v19.toInt ≤ 15)⟩ := hV9
    refine lv_aload_n hx hb dX1_remember_36 rfl (lv_at hl 0 rfl) ?_
    refine tk_getk (ci := 1) (C := RX1) (T := TX1) (N := 11) (sp := (0, 0, 16, 0)) hx hb htl inX1 hown hK hG ht_a0 (by decide) tk_no rfl 0 (by decide) (htl _ mw_267) (fun _ h9 => h9) rfl hf1 dX1_remember_37 ?_
    refine lv_iadd hx hb dX1_remember_40 ?_
    refine tk_add rfl rfl (by omega) (by omega) (fun v20 h_v20 => ?_)
    refine lv_bipush (v := 16) hx hb dX1_remember_41 (by decide) ?_
    refine lv_irem hx hb dX1_remember_43 (by decide) ?_
    refine tk_say (P := fun z => 0 ≤ z.toInt ∧ z.toInt < 16) (tk_rem rfl (show (16 : Int32).toInt = 16 by decide) (by omega) (by omega)) (fun v21 h_v21 => ?_)
    refine lv_istore_n (lv' := [(2, .int v21), (0, .ref a0), (1, .int p1)]) hx hb dX1_remember_44 rfl hl (by decide) rfl (fun ls hl => ?_)
    refine lv_aload_n hx hb dX1_remember_45 rfl (lv_at hl 1 rfl) ?_
    refine tk_get (ci := 1) (C := RX1) (T := TX1) (N := 11) (sp := (6, 25, 16, 1)) hx hb htl inX1 hown hK hG ht_a0 (by decide) tk_no rfl 3 (by decide) (htl _ mw_109) (fun _ h9 => h9) rfl dX1_remember_46 (fun v9 hf22 hV9 => ?_)
    obtain ⟨b23, rfl, ht_b23⟩ := hV9
    have ht_b23 : t b23 = (25, 16, 1) := ht_b23
    refine lv_iload_n hx hb dX1_remember_49 rfl (lv_at hl 0 rfl) ?_
    refine tk_aald hx hb hK hG 3 rfl rfl ht_b23 (by decide) (fun _ h => h) tk_no rfl (by omega) (by omega) dX1_remember_50 (fun o24 ht_o24 => ?_)
    obtain ⟨b25, rfl, ht_b25⟩ := ht_o24
    have ht_b25 : t b25 = (10, 0, 1) := ht_b25
    refine fx_top (v := .ref b25) rfl ?_
    refine lv_aload_n hx hb dX1_remember_51 rfl (lv_at hl 1 rfl) ?_
    refine tk_get (ci := 1) (C := RX1) (T := TX1) (N := 11) (sp := (8, 20, 3, 0)) hx hb htl inX1 hown hK hG ht_a0 (by decide) tk_no rfl 1 (by decide) (htl _ mw_114) (fun _ h9 => h9) rfl dX1_remember_52 (fun v9 hf26 hV9 => ?_)
    obtain ⟨rfl, ht_ld20⟩ := hV9
    have ht_ld20 : t (ld 20) = (3, 0, 0) := ht_ld20
    refine fx_top (v := .ref (ld 20)) rfl ?_
    refine tk_get (ci := 2) (C := RX2) (T := TX2) (N := 20) (sp := (9, 40, 10, 0)) hx hb htl inX2 hown hK hG ht_ld20 (by decide) tk_no rfl 19 (by decide) (htl _ mw_814) (fun _ h9 => h9) rfl dX1_remember_55 (fun v9 hf27 hV9 => ?_)
    obtain ⟨rfl, ht_ld40⟩ := hV9
    have ht_ld40 : t (ld 40) = (10, 0, 0) := ht_ld40
    refine fx_top (v := .ref (ld 40)) rfl ?_
    obtain ⟨v9, hf28, hV9⟩ := tk_peek (ci := 9) (C := RX9) (T := TX9) (N := 11) (sp := (0, (-1), 7, 0)) hG ht_ld40 (by decide) tk_no rfl 5 (by decide) rfl
    obtain ⟨v29, rfl, (ha_v29 : (-1) ≤ v29.toInt), (hb_v29 : v29.toInt ≤ 7)⟩ := hV9
    refine tk_Vv (As := [.ref (ld 40)]) (rest := []) (ci := 9) ⟨hx, hb, hml, hown, hts⟩ hK hG hZ hS (k_X9_copyFrom l D cy ld t 1 0 b25 (ld 40) v29 ht_b25 ht_ld40 (by omega) (by omega) (by omega)) hf28 ⟨callB_of 1 hts (wl_in mw_821) rfl rfl rfl (htl _ mw_76) (htl _ mw_818) hd_yX9_copyFrom ⟨(Nat.le_of_ble_eq_true rfl), (Nat.le_of_ble_eq_true rfl)⟩, htl _ mw_819, htl _ mw_820⟩ ht_b25 (by decide) tk_no rfl (tk_w.pick [1, 2] rfl) rfl hl.1 rfl (Nat.le_of_ble_eq_true rfl) dX1_remember_58 ⟨(Nat.le_of_ble_eq_true rfl), (Nat.le_of_ble_eq_true rfl)⟩ (fun H locs hpo hG hS hq9 => ?_)
    have hf1 := hf1.call hq9 (tk_w.no ht_a0 (by decide))
    have hf28 := hf28.call hq9 (tk_w.no ht_ld40 (by decide))
    have hf31 := hpo
    refine lv_aload_n hx hb dX1_remember_61 rfl (lv_at hl 1 rfl) ?_
    refine tk_get (ci := 1) (C := RX1) (T := TX1) (N := 11) (sp := (6, 20, 16, 0)) hx hb htl inX1 hown hK hG ht_a0 (by decide) tk_no rfl 4 (by decide) (htl _ mw_110) (fun _ h9 => h9) rfl dX1_remember_62 (fun v9 hf32 hV9 => ?_)
    obtain ⟨b33, rfl, ht_b33⟩ := hV9
    have ht_b33 : t b33 = (20, 16, 0) := ht_b33
    refine lv_iload_n hx hb dX1_remember_65 rfl (lv_at hl 0 rfl) ?_
    refine lv_iload_n hx hb dX1_remember_66 rfl (lv_at hl 2 rfl) ?_
    refine tk_iast hx hb hK hG hS ht_b33 (by decide) (fun _ => Iff.rfl) tk_no rfl (by omega) (by omega) trivial (tk_w.of ht_b33 (by decide) (List.mem_of_getElem? (i := 3) rfl) (Nat.le_refl _) (Nat.le_refl _)) dX1_remember_67 (fun H locs hG hS hq9 => ?_)
    have hf1 := hf1.kept (hq9 _ (tk_ne ht_a0 ht_b33 (Or.inl (by decide))))
    have hf28 := hf28.kept (hq9 _ (tk_ne ht_ld40 ht_b33 (Or.inl (by decide))))
    have hf31 := hf31.kept (hq9 _ (tk_ne ht_b25 ht_b33 (Or.inl (by decide))))
    refine lv_aload_n hx hb dX1_remember_68 rfl (lv_at hl 1 rfl) ?_
    refine lv_dup hx hb dX1_remember_69 rfl ?_
    refine tk_getk (ci := 1) (C := RX1) (T := TX1) (N := 11) (sp := (0, 0, 16, 0)) hx hb htl inX1 hown hK hG ht_a0 (by decide) tk_no rfl 0 (by decide) (htl _ mw_267) (fun _ h9 => h9) rfl hf1 dX1_remember_70 ?_
    refine lv_iconst (v := 1) hx hb dX1_remember_73 (by decide) ?_
    refine lv_iadd hx hb dX1_remember_74 ?_
    refine tk_add rfl (show (1 : Int32).toInt = 1 by decide) (by omega) (by omega) (fun v35 h_v35 => ?_)
    refine tk_put (ci := 1) (v := .int v35) (ty := .int) (C := RX1) (T := TX1) (N := 11) (sp := (0, 0, 16, 0)) hx hb htl inX1 tyX1 tyX1_ok nmX1 hown hK hG hS ht_a0 (by decide) tk_no rfl 0 (by decide) (htl _ mw_267) (fun _ h9 => h9) rfl (tyX1_ok 0 (by decide)) rfl rfl rfl (tk_V0 (by omega) (by omega)) (fun _ h => h) (tk_w.of ht_a0 (by decide) (List.mem_of_getElem? (i := 0) rfl) (Nat.le_refl _) (Nat.le_refl _)) dX1_remember_75 (fun H locs hG hS hf36 hq9 hj9 => ?_)
    have hf28 := hf28.kept (hq9 _ (tk_ne ht_ld40 ht_a0 (Or.inl (by decide))))
    have hf31 := hf31.kept (hq9 _ (tk_ne ht_b25 ht_a0 (Or.inl (by decide))))
    exact tk_vret hx hb hr hlocks trivial hG hS dX1_remember_78
  refine lv_icmp_ne (tgt := 32) hx hb dX1_remember_6 (by decide) (fun c9 => ?_) (fun c9 => ?_)
  · have hc3 : ¬ (v2.toInt = 16) := fun h9 => c9 ((fi_eq rfl (show (16 : Int32).toInt = 16 by decide)).mpr h9)
    exact hj17 v2 _ _ (by omega) (by omega) hG hS hf1 _ (lv_sub hl [0, 1] rfl)
  · have hc3 : v2.toInt = 16 := (fi_eq rfl (show (16 : Int32).toInt = 16 by decide)).mp c9
    refine lv_aload_n hx hb dX1_remember_9 rfl (lv_at hl 0 rfl) ?_
    refine lv_aload_n hx hb dX1_remember_10 rfl (lv_at hl 0 rfl) ?_
    refine tk_get (ci := 1) (C := RX1) (T := TX1) (N := 11) (sp := (0, 0, 15, 0)) hx hb htl inX1 hown hK hG ht_a0 (by decide) tk_no rfl 5 (by decide) (htl _ mw_815) (fun _ h9 => h9) rfl dX1_remember_11 (fun v9 hf38 hV9 => ?_)
    obtain ⟨v39, rfl, (ha_v39 : 0 ≤ v39.toInt), (hb_v39 : v39.toInt ≤ 15)⟩ := hV9
    refine lv_iconst (v := 1) hx hb dX1_remember_14 (by decide) ?_
    refine lv_iadd hx hb dX1_remember_15 ?_
    refine tk_add rfl (show (1 : Int32).toInt = 1 by decide) (by omega) (by omega) (fun v40 h_v40 => ?_)
    refine lv_bipush (v := 16) hx hb dX1_remember_16 (by decide) ?_
    refine lv_irem hx hb dX1_remember_18 (by decide) ?_
    refine tk_say (P := fun z => 0 ≤ z.toInt ∧ z.toInt < 16) (tk_rem rfl (show (16 : Int32).toInt = 16 by decide) (by omega) (by omega)) (fun v41 h_v41 => ?_)
    refine tk_put (ci := 1) (v := .int v41) (ty := .int) (C := RX1) (T := TX1) (N := 11) (sp := (0, 0, 15, 0)) hx hb htl inX1 tyX1 tyX1_ok nmX1 hown hK hG hS ht_a0 (by decide) tk_no rfl 5 (by decide) (htl _ mw_815) (fun _ h9 => h9) rfl (tyX1_ok 5 (by decide)) rfl rfl rfl (tk_V0 (by omega) (by omega)) (fun _ h => h) (tk_w.of ht_a0 (by decide) (List.mem_of_getElem? (i := 0) rfl) (Nat.le_refl _) (Nat.le_refl _)) dX1_remember_19 (fun H locs hG hS hf42 hq9 hj9 => ?_)
    have hf1 := hj9 0 _ (by decide) (by decide) hf1
    refine lv_aload_n hx hb dX1_remember_22 rfl (lv_at hl 0 rfl) ?_
    refine lv_dup hx hb dX1_remember_23 rfl ?_
    refine tk_getk (ci := 1) (C := RX1) (T := TX1) (N := 11) (sp := (0, 0, 16, 0)) hx hb htl inX1 hown hK hG ht_a0 (by decide) tk_no rfl 0 (by decide) (htl _ mw_267) (fun _ h9 => h9) rfl hf1 dX1_remember_24 ?_
    refine lv_iconst (v := 1) hx hb dX1_remember_27 (by decide) ?_
    refine lv_isub hx hb dX1_remember_28 ?_
    refine tk_sub rfl (show (1 : Int32).toInt = 1 by decide) (by omega) (by omega) (fun v44 h_v44 => ?_)
    refine tk_put (ci := 1) (v := .int v44) (ty := .int) (C := RX1) (T := TX1) (N := 11) (sp := (0, 0, 16, 0)) hx hb htl inX1 tyX1 tyX1_ok nmX1 hown hK hG hS ht_a0 (by decide) tk_no rfl 0 (by decide) (htl _ mw_267) (fun _ h9 => h9) rfl (tyX1_ok 0 (by decide)) rfl rfl rfl (tk_V0 (by omega) (by omega)) (fun _ h => h) (tk_w.of ht_a0 (by decide) (List.mem_of_getElem? (i := 0) rfl) (Nat.le_refl _) (Nat.le_refl _)) dX1_remember_29 (fun H locs hG hS hf45 hq9 hj9 => ?_)
    exact hj17 v44 _ _ (by omega) (by omega) hG hS hf45 _ (lv_sub hl [0, 1] rfl)
theorem dX12_within_0 : decode cX12_within 0 = .ok (.iload_n 0, 1) := by decide +kernel
theorem dX12_within_1 : decode cX12_within 1 = .ok (.iload_n 1, 1) := by decide +kernel
theorem dX12_within_2 : decode cX12_within 2 = .ok (.if_icmp .lt 12, 3) := by decide +kernel
theorem dX12_within_14 : decode cX12_within 14 = .ok (.iconst 0, 1) := by decide +kernel
theorem dX12_within_15 : decode cX12_within 15 = .ok (.ireturn, 1) := by decide +kernel
theorem dX12_within_5 : decode cX12_within 5 = .ok (.iload_n 0, 1) := by decide +kernel
theorem dX12_within_6 : decode cX12_within 6 = .ok (.iload_n 2, 1) := by decide +kernel
theorem dX12_within_7 : decode cX12_within 7 = .ok (.if_icmp .gt 7, 3) := by decide +kernel
theorem dX12_within_10 : decode cX12_within 10 = .ok (.iconst 1, 1) := by decide +kernel
theorem dX12_within_11 : decode cX12_within 11 = .ok (.goto 4, 3) := by decide +kernel
set_option maxHeartbeats 4000000 in
set_option maxRecDepth 100000 in
theorem k_X12_within (l : Launch) (D : va_G) (cy : Nat → ClassId) (ld : Nat → Nat) (t : tk_T) (X : List Nat) (p0 : Int32) (p1 : Int32) (p2 : Int32) : Met l yX12_within (wl yX12_within cX12_within 3 (some .boolean)) ({ frames := 3, cells := 0, slots := 0, locals := 140 }) (tp D cy ld t X [.int p0, .int p1, .int p2] (fun H => True)) (ti D cy ld t X (fun r H => (1 ≤ r.toInt → 0 ≤ p0.toInt + (-1) * p1.toInt ∧ 0 ≤ (-1) * p0.toInt + p2.toInt) ∧ 0 ≤ r.toInt ∧ r.toInt ≤ 1 ∧ 0 ≤ r.toInt ∧ r.toInt ≤ 1) (tk_w t [])) 0 0 (tk_w t []) := by
  refine tk_met (y := yX12_within) (cc := cX12_within) (maxL := 3) (ret := (some .boolean)) (av := [.int p0, .int p1, .int p2]) _ _ (by decide) (Nat.le_of_ble_eq_true rfl) ?_
  intro p e s m args below meth c hx hb hr hml hts htl hown hlocks hK H locs hH hG hS hB hZ ls hl
  have hown : s.vm.findClass RX12 = some m.cls := hown
  have hl : lv_has ls 3 [(0, .int p0), (1, .int p1), (2, .int p2)] := hl
  have hr_p0 := tk_rng p0
  have hr_p1 := tk_rng p1
  have hr_p2 := tk_rng p2
  refine lv_iload_n hx hb dX12_within_0 rfl (lv_at hl 0 rfl) ?_
  refine lv_iload_n hx hb dX12_within_1 rfl (lv_at hl 1 rfl) ?_
  refine lv_icmp_lt (tgt := 14) hx hb dX12_within_2 (by decide) (fun c9 => ?_) (fun c9 => ?_)
  · have hc1 : p0.toInt < p1.toInt := (fi_lt rfl rfl).mp c9
    refine lv_iconst (v := 0) hx hb dX12_within_14 (by decide) ?_
    have hk_0 : (0 : Int32).toInt = 0 := by decide
    exact tk_iret (v := 0) hx hb hr rfl hlocks (show (1 ≤ (0 : Int32).toInt → 0 ≤ p0.toInt + (-1) * p1.toInt ∧ 0 ≤ (-1) * p0.toInt + p2.toInt) ∧ 0 ≤ (0 : Int32).toInt ∧ (0 : Int32).toInt ≤ 1 ∧ 0 ≤ (0 : Int32).toInt ∧ (0 : Int32).toInt ≤ 1 from ⟨(fun _ => ⟨by omega, by omega⟩), (by omega), (by omega), (by omega), (by omega)⟩) hG hS dX12_within_15
  · have hc1 : ¬ (p0.toInt < p1.toInt) := fun h9 => c9 ((fi_lt rfl rfl).mpr h9)
    refine lv_iload_n hx hb dX12_within_5 rfl (lv_at hl 0 rfl) ?_
    refine lv_iload_n hx hb dX12_within_6 rfl (lv_at hl 2 rfl) ?_
    refine lv_icmp_gt (tgt := 14) hx hb dX12_within_7 (by decide) (fun c9 => ?_) (fun c9 => ?_)
    · have hc2 : p2.toInt < p0.toInt := (fi_lt rfl rfl).mp c9
      refine lv_iconst (v := 0) hx hb dX12_within_14 (by decide) ?_
      have hk_0 : (0 : Int32).toInt = 0 := by decide
      exact tk_iret (v := 0) hx hb hr rfl hlocks (show (1 ≤ (0 : Int32).toInt → 0 ≤ p0.toInt + (-1) * p1.toInt ∧ 0 ≤ (-1) * p0.toInt + p2.toInt) ∧ 0 ≤ (0 : Int32).toInt ∧ (0 : Int32).toInt ≤ 1 ∧ 0 ≤ (0 : Int32).toInt ∧ (0 : Int32).toInt ≤ 1 from ⟨(fun _ => ⟨by omega, by omega⟩), (by omega), (by omega), (by omega), (by omega)⟩) hG hS dX12_within_15
    · have hc2 : ¬ (p2.toInt < p0.toInt) := fun h9 => c9 ((fi_lt rfl rfl).mpr h9)
      refine lv_iconst (v := 1) hx hb dX12_within_10 (by decide) ?_
      refine lv_goto (tgt := 15) hx hb dX12_within_11 (by decide) ?_
      have hk_1 : (1 : Int32).toInt = 1 := by decide
      exact tk_iret (v := 1) hx hb hr rfl hlocks (show (1 ≤ (1 : Int32).toInt → 0 ≤ p0.toInt + (-1) * p1.toInt ∧ 0 ≤ (-1) * p0.toInt + p2.toInt) ∧ 0 ≤ (1 : Int32).toInt ∧ (1 : Int32).toInt ≤ 1 ∧ 0 ≤ (1 : Int32).toInt ∧ (1 : Int32).toInt ≤ 1 from ⟨(fun _ => ⟨by omega, by omega⟩), (by omega), (by omega), (by omega), (by omega)⟩) hG hS dX12_within_15
theorem dX2_isSinger_0 : decode cX2_isSinger 0 = .ok (.iload_n 1, 1) := by decide +kernel
theorem dX2_isSinger_1 : decode cX2_isSinger 1 = .ok (.ifCond .lt 15, 3) := by decide +kernel
theorem dX2_isSinger_16 : decode cX2_isSinger 16 = .ok (.iconst 0, 1) := by decide +kernel
theorem dX2_isSinger_17 : decode cX2_isSinger 17 = .ok (.ireturn, 1) := by decide +kernel
theorem dX2_isSinger_4 : decode cX2_isSinger 4 = .ok (.iload_n 1, 1) := by decide +kernel
theorem dX2_isSinger_5 : decode cX2_isSinger 5 = .ok (.aload_n 0, 1) := by decide +kernel
theorem dX2_isSinger_6 : decode cX2_isSinger 6 = .ok (.getfield 62, 3) := by decide +kernel
theorem dX2_isSinger_9 : decode cX2_isSinger 9 = .ok (.if_icmp .ge 7, 3) := by decide +kernel
theorem dX2_isSinger_12 : decode cX2_isSinger 12 = .ok (.iconst 1, 1) := by decide +kernel
theorem dX2_isSinger_13 : decode cX2_isSinger 13 = .ok (.goto 4, 3) := by decide +kernel
set_option maxHeartbeats 4000000 in
set_option maxRecDepth 100000 in
theorem k_X2_isSinger (l : Launch) (D : va_G) (cy : Nat → ClassId) (ld : Nat → Nat) (t : tk_T) (a0 : Nat) (p1 : Int32) (ht_a0 : t a0 = (3, 0, 0)) : Met l yX2_isSinger (wl yX2_isSinger cX2_isSinger 2 (some .boolean)) ({ frames := 3, cells := 0, slots := 0, locals := 140 }) (tp D cy ld t [] [.ref a0, .int p1] (fun H => True)) (ti D cy ld t [] (fun r H => (1 ≤ r.toInt → 0 ≤ p1.toInt ∧ p1.toInt ≤ 7) ∧ 0 ≤ r.toInt ∧ r.toInt ≤ 1 ∧ 0 ≤ r.toInt ∧ r.toInt ≤ 1) (tk_w t [])) 0 0 (tk_w t []) := by
  refine tk_met (y := yX2_isSinger) (cc := cX2_isSinger) (maxL := 2) (ret := (some .boolean)) (av := [.ref a0, .int p1]) _ _ (by decide) (Nat.le_of_ble_eq_true rfl) ?_
  intro p e s m args below meth c hx hb hr hml hts htl hown hlocks hK H locs hH hG hS hB hZ ls hl
  have hown : s.vm.findClass RX2 = some m.cls := hown
  have hl : lv_has ls 2 [(0, .ref a0), (1, .int p1)] := hl
  have hr_p1 := tk_rng p1
  refine lv_iload_n hx hb dX2_isSinger_0 rfl (lv_at hl 1 rfl) ?_
  refine lv_if_lt (tgt := 16) hx hb dX2_isSinger_1 (by decide) (fun c9 => ?_) (fun c9 => ?_)
  · have hc1 : p1.toInt < 0 := (fi_lt rfl (show (0 : Int32).toInt = 0 by decide)).mp c9
    refine lv_iconst (v := 0) hx hb dX2_isSinger_16 (by decide) ?_
    have hk_0 : (0 : Int32).toInt = 0 := by decide
    exact tk_iret (v := 0) hx hb hr rfl hlocks (show (1 ≤ (0 : Int32).toInt → 0 ≤ p1.toInt ∧ p1.toInt ≤ 7) ∧ 0 ≤ (0 : Int32).toInt ∧ (0 : Int32).toInt ≤ 1 ∧ 0 ≤ (0 : Int32).toInt ∧ (0 : Int32).toInt ≤ 1 from ⟨(fun _ => ⟨by omega, by omega⟩), (by omega), (by omega), (by omega), (by omega)⟩) hG hS dX2_isSinger_17
  · have hc1 : ¬ (p1.toInt < 0) := fun h9 => c9 ((fi_lt rfl (show (0 : Int32).toInt = 0 by decide)).mpr h9)
    refine lv_iload_n hx hb dX2_isSinger_4 rfl (lv_at hl 1 rfl) ?_
    refine lv_aload_n hx hb dX2_isSinger_5 rfl (lv_at hl 0 rfl) ?_
    refine tk_get (ci := 2) (C := RX2) (T := TX2) (N := 20) (sp := (0, 0, 8, 0)) hx hb htl inX2 hown hK hG ht_a0 (by decide) tk_no rfl 0 (by decide) (htl _ mw_257) (fun _ h9 => h9) rfl dX2_isSinger_6 (fun v9 hf2 hV9 => ?_)
    obtain ⟨v3, rfl, (ha_v3 : 0 ≤ v3.toInt), (hb_v3 : v3.toInt ≤ 8)⟩ := hV9
    refine lv_icmp_ge (tgt := 16) hx hb dX2_isSinger_9 (by decide) (fun c9 => ?_) (fun c9 => ?_)
    · have hc4 : v3.toInt ≤ p1.toInt := (fi_le rfl rfl).mp c9
      refine lv_iconst (v := 0) hx hb dX2_isSinger_16 (by decide) ?_
      have hk_0 : (0 : Int32).toInt = 0 := by decide
      exact tk_iret (v := 0) hx hb hr rfl hlocks (show (1 ≤ (0 : Int32).toInt → 0 ≤ p1.toInt ∧ p1.toInt ≤ 7) ∧ 0 ≤ (0 : Int32).toInt ∧ (0 : Int32).toInt ≤ 1 ∧ 0 ≤ (0 : Int32).toInt ∧ (0 : Int32).toInt ≤ 1 from ⟨(fun _ => ⟨by omega, by omega⟩), (by omega), (by omega), (by omega), (by omega)⟩) hG hS dX2_isSinger_17
    · have hc4 : ¬ (v3.toInt ≤ p1.toInt) := fun h9 => c9 ((fi_le rfl rfl).mpr h9)
      refine lv_iconst (v := 1) hx hb dX2_isSinger_12 (by decide) ?_
      refine lv_goto (tgt := 17) hx hb dX2_isSinger_13 (by decide) ?_
      have hk_1 : (1 : Int32).toInt = 1 := by decide
      exact tk_iret (v := 1) hx hb hr rfl hlocks (show (1 ≤ (1 : Int32).toInt → 0 ≤ p1.toInt ∧ p1.toInt ≤ 7) ∧ 0 ≤ (1 : Int32).toInt ∧ (1 : Int32).toInt ≤ 1 ∧ 0 ≤ (1 : Int32).toInt ∧ (1 : Int32).toInt ≤ 1 from ⟨(fun _ => ⟨by omega, by omega⟩), (by omega), (by omega), (by omega), (by omega)⟩) hG hS dX2_isSinger_17
theorem dX2_areFoes_0 : decode cX2_areFoes 0 = .ok (.aload_n 0, 1) := by decide +kernel
theorem dX2_areFoes_1 : decode cX2_areFoes 1 = .ok (.iload_n 1, 1) := by decide +kernel
theorem dX2_areFoes_2 : decode cX2_areFoes 2 = .ok (.invokevirtual 90, 3) := by decide +kernel
theorem dX2_areFoes_5 : decode cX2_areFoes 5 = .ok (.ifCond .eq 30, 3) := by decide +kernel
theorem dX2_areFoes_35 : decode cX2_areFoes 35 = .ok (.iconst 0, 1) := by decide +kernel
theorem dX2_areFoes_36 : decode cX2_areFoes 36 = .ok (.ireturn, 1) := by decide +kernel
theorem dX2_areFoes_8 : decode cX2_areFoes 8 = .ok (.aload_n 0, 1) := by decide +kernel
theorem dX2_areFoes_9 : decode cX2_areFoes 9 = .ok (.iload_n 2, 1) := by decide +kernel
theorem dX2_areFoes_10 : decode cX2_areFoes 10 = .ok (.invokevirtual 90, 3) := by decide +kernel
theorem dX2_areFoes_13 : decode cX2_areFoes 13 = .ok (.ifCond .eq 22, 3) := by decide +kernel
theorem dX2_areFoes_16 : decode cX2_areFoes 16 = .ok (.aload_n 0, 1) := by decide +kernel
theorem dX2_areFoes_17 : decode cX2_areFoes 17 = .ok (.getfield 15, 3) := by decide +kernel
theorem dX2_areFoes_20 : decode cX2_areFoes 20 = .ok (.iload_n 1, 1) := by decide +kernel
theorem dX2_areFoes_21 : decode cX2_areFoes 21 = .ok (.iaload, 1) := by decide +kernel
theorem dX2_areFoes_22 : decode cX2_areFoes 22 = .ok (.aload_n 0, 1) := by decide +kernel
theorem dX2_areFoes_23 : decode cX2_areFoes 23 = .ok (.getfield 15, 3) := by decide +kernel
theorem dX2_areFoes_26 : decode cX2_areFoes 26 = .ok (.iload_n 2, 1) := by decide +kernel
theorem dX2_areFoes_27 : decode cX2_areFoes 27 = .ok (.iaload, 1) := by decide +kernel
theorem dX2_areFoes_28 : decode cX2_areFoes 28 = .ok (.if_icmp .eq 7, 3) := by decide +kernel
theorem dX2_areFoes_31 : decode cX2_areFoes 31 = .ok (.iconst 1, 1) := by decide +kernel
theorem dX2_areFoes_32 : decode cX2_areFoes 32 = .ok (.goto 4, 3) := by decide +kernel
set_option maxHeartbeats 4000000 in
set_option maxRecDepth 100000 in
theorem k_X2_areFoes (l : Launch) (D : va_G) (cy : Nat → ClassId) (ld : Nat → Nat) (t : tk_T) (a0 : Nat) (p1 : Int32) (p2 : Int32) (ht_a0 : t a0 = (3, 0, 0)) : Met l yX2_areFoes (wl yX2_areFoes cX2_areFoes 3 (some .boolean)) ({ frames := 4, cells := 0, slots := 0, locals := 210 }) (tp D cy ld t [] [.ref a0, .int p1, .int p2] (fun H => True)) (ti D cy ld t [] (fun r H => (1 ≤ r.toInt → 0 ≤ p1.toInt ∧ p1.toInt ≤ 7 ∧ 0 ≤ p2.toInt ∧ p2.toInt ≤ 7) ∧ 0 ≤ r.toInt ∧ r.toInt ≤ 1 ∧ 0 ≤ r.toInt ∧ r.toInt ≤ 1) (tk_w t [])) 0 0 (tk_w t []) := by
  refine tk_met (y := yX2_areFoes) (cc := cX2_areFoes) (maxL := 3) (ret := (some .boolean)) (av := [.ref a0, .int p1, .int p2]) _ _ (by decide) (Nat.le_of_ble_eq_true rfl) ?_
  intro p e s m args below meth c hx hb hr hml hts htl hown hlocks hK H locs hH hG hS hB hZ ls hl
  have hown : s.vm.findClass RX2 = some m.cls := hown
  have hl : lv_has ls 3 [(0, .ref a0), (1, .int p1), (2, .int p2)] := hl
  have hr_p1 := tk_rng p1
  have hr_p2 := tk_rng p2
  refine lv_aload_n hx hb dX2_areFoes_0 rfl (lv_at hl 0 rfl) ?_
  refine lv_iload_n hx hb dX2_areFoes_1 rfl (lv_at hl 1 rfl) ?_
  refine tk_Vi (As := [.int p1]) (rest := []) (ci := 2) ⟨hx, hb, hml, hown, hts⟩ hK hG hZ hS (k_X2_isSinger l D cy ld t a0 p1 ht_a0) trivial ⟨callB_of 1 hts (wl_in mw_311) rfl rfl rfl (htl _ mw_14) (htl _ mw_880) hd_yX2_isSinger ⟨(Nat.le_of_ble_eq_true rfl), (Nat.le_of_ble_eq_true rfl)⟩, htl _ mw_309, htl _ mw_310⟩ ht_a0 (by decide) tk_no rfl (tk_w.pick [] rfl) rfl hl.1 rfl (Nat.le_of_ble_eq_true rfl) dX2_areFoes_2 ⟨(Nat.le_of_ble_eq_true rfl), (Nat.le_of_ble_eq_true rfl)⟩ (fun v1 H locs hpo hG hS hq9 => ?_)
  obtain ⟨hpo3, hpo4, hpo5, hpo6, hpo7⟩ := hpo
  refine lv_if_eq (tgt := 35) hx hb dX2_areFoes_5 (by decide) (fun c9 => ?_) (fun c9 => ?_)
  · have hc8 : v1.toInt = 0 := (fi_eq rfl (show (0 : Int32).toInt = 0 by decide)).mp c9
    refine lv_iconst (v := 0) hx hb dX2_areFoes_35 (by decide) ?_
    have hk_0 : (0 : Int32).toInt = 0 := by decide
    exact tk_iret (v := 0) hx hb hr rfl hlocks (show (1 ≤ (0 : Int32).toInt → 0 ≤ p1.toInt ∧ p1.toInt ≤ 7 ∧ 0 ≤ p2.toInt ∧ p2.toInt ≤ 7) ∧ 0 ≤ (0 : Int32).toInt ∧ (0 : Int32).toInt ≤ 1 ∧ 0 ≤ (0 : Int32).toInt ∧ (0 : Int32).toInt ≤ 1 from ⟨(fun _ => ⟨by omega, by omega, by omega, by omega⟩), (by omega), (by omega), (by omega), (by omega)⟩) hG hS dX2_areFoes_36
  · have hc8 : ¬ (v1.toInt = 0) := fun h9 => c9 ((fi_eq rfl (show (0 : Int32).toInt = 0 by decide)).mpr h9)
    refine lv_aload_n hx hb dX2_areFoes_8 rfl (lv_at hl 0 rfl) ?_
    refine lv_iload_n hx hb dX2_areFoes_9 rfl (lv_at hl 2 rfl) ?_
    refine tk_Vi (As := [.int p2]) (rest := []) (ci := 2) ⟨hx, hb, hml, hown, hts⟩ hK hG hZ hS (k_X2_isSinger l D cy ld t a0 p2 ht_a0) trivial ⟨callB_of 1 hts (wl_in mw_311) rfl rfl rfl (htl _ mw_14) (htl _ mw_880) hd_yX2_isSinger ⟨(Nat.le_of_ble_eq_true rfl), (Nat.le_of_ble_eq_true rfl)⟩, htl _ mw_309, htl _ mw_310⟩ ht_a0 (by decide) tk_no rfl (tk_w.pick [] rfl) rfl hl.1 rfl (Nat.le_of_ble_eq_true rfl) dX2_areFoes_10 ⟨(Nat.le_of_ble_eq_true rfl), (Nat.le_of_ble_eq_true rfl)⟩ (fun v9 H locs hpo hG hS hq9 => ?_)
    obtain ⟨hpo11, hpo12, hpo13, hpo14, hpo15⟩ := hpo
    refine lv_if_eq (tgt := 35) hx hb dX2_areFoes_13 (by decide) (fun c9 => ?_) (fun c9 => ?_)
    · have hc16 : v9.toInt = 0 := (fi_eq rfl (show (0 : Int32).toInt = 0 by decide)).mp c9
      refine lv_iconst (v := 0) hx hb dX2_areFoes_35 (by decide) ?_
      have hk_0 : (0 : Int32).toInt = 0 := by decide
      exact tk_iret (v := 0) hx hb hr rfl hlocks (show (1 ≤ (0 : Int32).toInt → 0 ≤ p1.toInt ∧ p1.toInt ≤ 7 ∧ 0 ≤ p2.toInt ∧ p2.toInt ≤ 7) ∧ 0 ≤ (0 : Int32).toInt ∧ (0 : Int32).toInt ≤ 1 ∧ 0 ≤ (0 : Int32).toInt ∧ (0 : Int32).toInt ≤ 1 from ⟨(fun _ => ⟨by omega, by omega, by omega, by omega⟩), (by omega), (by omega), (by omega), (by omega)⟩) hG hS dX2_areFoes_36
    · have hc16 : ¬ (v9.toInt = 0) := fun h9 => c9 ((fi_eq rfl (show (0 : Int32).toInt = 0 by decide)).mpr h9)
      refine lv_aload_n hx hb dX2_areFoes_16 rfl (lv_at hl 0 rfl) ?_
      refine tk_get (ci := 2) (C := RX2) (T := TX2) (N := 20) (sp := (1, 21, 8, 0)) hx hb htl inX2 hown hK hG ht_a0 (by decide) tk_no rfl 2 (by decide) (htl _ mw_61) (fun _ h9 => h9) rfl dX2_areFoes_17 (fun v9 hf17 hV9 => ?_)
      obtain ⟨b18, rfl, ht_b18⟩ := hV9
      have ht_b18 : t b18 = (21, 8, 0) := ht_b18
      refine lv_iload_n hx hb dX2_areFoes_20 rfl (lv_at hl 1 rfl) ?_
      refine tk_iald hx hb hK hG ht_b18 (by decide) (fun _ h => h) tk_no rfl (by omega) (by omega) dX2_areFoes_21 (fun v19 hE9 _ => ?_)
      have he_v19 : 0 ≤ v19.toInt ∧ v19.toInt ≤ 1 := hE9
      refine lv_aload_n hx hb dX2_areFoes_22 rfl (lv_at hl 0 rfl) ?_
      refine tk_get (ci := 2) (C := RX2) (T := TX2) (N := 20) (sp := (1, 21, 8, 0)) hx hb htl inX2 hown hK hG ht_a0 (by decide) tk_no rfl 2 (by decide) (htl _ mw_61) (fun _ h9 => h9) rfl dX2_areFoes_23 (fun v9 hf20 hV9 => ?_)
      obtain ⟨b21, rfl, ht_b21⟩ := hV9
      have ht_b21 : t b21 = (21, 8, 0) := ht_b21
      refine lv_iload_n hx hb dX2_areFoes_26 rfl (lv_at hl 2 rfl) ?_
      refine tk_iald hx hb hK hG ht_b21 (by decide) (fun _ h => h) tk_no rfl (by omega) (by omega) dX2_areFoes_27 (fun v22 hE9 _ => ?_)
      have he_v22 : 0 ≤ v22.toInt ∧ v22.toInt ≤ 1 := hE9
      refine lv_icmp_eq (tgt := 35) hx hb dX2_areFoes_28 (by decide) (fun c9 => ?_) (fun c9 => ?_)
      · have hc23 : v19.toInt = v22.toInt := (fi_eq rfl rfl).mp c9
        refine lv_iconst (v := 0) hx hb dX2_areFoes_35 (by decide) ?_
        have hk_0 : (0 : Int32).toInt = 0 := by decide
        exact tk_iret (v := 0) hx hb hr rfl hlocks (show (1 ≤ (0 : Int32).toInt → 0 ≤ p1.toInt ∧ p1.toInt ≤ 7 ∧ 0 ≤ p2.toInt ∧ p2.toInt ≤ 7) ∧ 0 ≤ (0 : Int32).toInt ∧ (0 : Int32).toInt ≤ 1 ∧ 0 ≤ (0 : Int32).toInt ∧ (0 : Int32).toInt ≤ 1 from ⟨(fun _ => ⟨by omega, by omega, by omega, by omega⟩), (by omega), (by omega), (by omega), (by omega)⟩) hG hS dX2_areFoes_36
      · have hc23 : ¬ (v19.toInt = v22.toInt) := fun h9 => c9 ((fi_eq rfl rfl).mpr h9)
        refine lv_iconst (v := 1) hx hb dX2_areFoes_31 (by decide) ?_
        refine lv_goto (tgt := 36) hx hb dX2_areFoes_32 (by decide) ?_
        have hk_1 : (1 : Int32).toInt = 1 := by decide
        exact tk_iret (v := 1) hx hb hr rfl hlocks (show (1 ≤ (1 : Int32).toInt → 0 ≤ p1.toInt ∧ p1.toInt ≤ 7 ∧ 0 ≤ p2.toInt ∧ p2.toInt ≤ 7) ∧ 0 ≤ (1 : Int32).toInt ∧ (1 : Int32).toInt ≤ 1 ∧ 0 ≤ (1 : Int32).toInt ∧ (1 : Int32).toInt ≤ 1 from ⟨(fun _ => ⟨by omega, by omega, by omega, by omega⟩), (by omega), (by omega), (by omega), (by omega)⟩) hG hS dX2_areFoes_36
theorem dX9_canBegin_0 : decode cX9_canBegin 0 = .ok (.aload_n 0, 1) := by decide +kernel
theorem dX9_canBegin_1 : decode cX9_canBegin 1 = .ok (.getfield 15, 3) := by decide +kernel
theorem dX9_canBegin_4 : decode cX9_canBegin 4 = .ok (.iload_n 1, 1) := by decide +kernel
theorem dX9_canBegin_5 : decode cX9_canBegin 5 = .ok (.iaload, 1) := by decide +kernel
theorem dX9_canBegin_6 : decode cX9_canBegin 6 = .ok (.ifCond .ne 16, 3) := by decide +kernel
theorem dX9_canBegin_22 : decode cX9_canBegin 22 = .ok (.iconst 0, 1) := by decide +kernel
theorem dX9_canBegin_23 : decode cX9_canBegin 23 = .ok (.ireturn, 1) := by decide +kernel
theorem dX9_canBegin_9 : decode cX9_canBegin 9 = .ok (.aload_n 0, 1) := by decide +kernel
theorem dX9_canBegin_10 : decode cX9_canBegin 10 = .ok (.getfield 9, 3) := by decide +kernel
theorem dX9_canBegin_13 : decode cX9_canBegin 13 = .ok (.iload_n 1, 1) := by decide +kernel
theorem dX9_canBegin_14 : decode cX9_canBegin 14 = .ok (.iaload, 1) := by decide +kernel
theorem dX9_canBegin_15 : decode cX9_canBegin 15 = .ok (.ifCond .le 7, 3) := by decide +kernel
theorem dX9_canBegin_18 : decode cX9_canBegin 18 = .ok (.iconst 1, 1) := by decide +kernel
theorem dX9_canBegin_19 : decode cX9_canBegin 19 = .ok (.goto 4, 3) := by decide +kernel
set_option maxHeartbeats 4000000 in
set_option maxRecDepth 100000 in
theorem k_X9_canBegin (l : Launch) (D : va_G) (cy : Nat → ClassId) (ld : Nat → Nat) (t : tk_T) (rg0 : Nat) (a0 : Nat) (p1 : Int32) (ht_a0 : t a0 = (10, 0, rg0)) (hp_0 : 0 ≤ p1.toInt) (hp_1 : p1.toInt ≤ 7) : Met l yX9_canBegin (wl yX9_canBegin cX9_canBegin 2 (some .boolean)) ({ frames := 3, cells := 0, slots := 0, locals := 140 }) (tp D cy ld t [] [.ref a0, .int p1] (fun H => True)) (ti D cy ld t [] (fun r H => 0 ≤ r.toInt ∧ r.toInt ≤ 1 ∧ 0 ≤ r.toInt ∧ r.toInt ≤ 1) (tk_w t [])) 0 0 (tk_w t []) := by
  refine tk_met (y := yX9_canBegin) (cc := cX9_canBegin) (maxL := 2) (ret := (some .boolean)) (av := [.ref a0, .int p1]) _ _ (by decide) (Nat.le_of_ble_eq_true rfl) ?_
  intro p e s m args below meth c hx hb hr hml hts htl hown hlocks hK H locs hH hG hS hB hZ ls hl
  have hown : s.vm.findClass RX9 = some m.cls := hown
  have hl : lv_has ls 2 [(0, .ref a0), (1, .int p1)] := hl
  have hr_p1 := tk_rng p1
  refine lv_aload_n hx hb dX9_canBegin_0 rfl (lv_at hl 0 rfl) ?_
  refine tk_get (ci := 9) (C := RX9) (T := TX9) (N := 11) (sp := (1, 20, 8, 0)) hx hb htl inX9 hown hK hG ht_a0 (by decide) tk_no rfl 1 (by decide) (htl _ mw_83) (fun _ h9 => h9) rfl dX9_canBegin_1 (fun v9 hf1 hV9 => ?_)
  obtain ⟨b2, rfl, ht_b2⟩ := hV9
  have ht_b2 : t b2 = (20, 8, rg0) := ht_b2
  refine lv_iload_n hx hb dX9_canBegin_4 rfl (lv_at hl 1 rfl) ?_
  refine tk_iald hx hb hK hG ht_b2 (by decide) (fun _ h => h) tk_no rfl (by omega) (by omega) dX9_canBegin_5 (fun v3 _ _ => ?_)
  have hr_v3 := tk_rng v3
  refine lv_if_ne (tgt := 22) hx hb dX9_canBegin_6 (by decide) (fun c9 => ?_) (fun c9 => ?_)
  · have hc4 : ¬ (v3.toInt = 0) := fun h9 => c9 ((fi_eq rfl (show (0 : Int32).toInt = 0 by decide)).mpr h9)
    refine lv_iconst (v := 0) hx hb dX9_canBegin_22 (by decide) ?_
    have hk_0 : (0 : Int32).toInt = 0 := by decide
    exact tk_iret (v := 0) hx hb hr rfl hlocks (show 0 ≤ (0 : Int32).toInt ∧ (0 : Int32).toInt ≤ 1 ∧ 0 ≤ (0 : Int32).toInt ∧ (0 : Int32).toInt ≤ 1 from ⟨(by omega), (by omega), (by omega), (by omega)⟩) hG hS dX9_canBegin_23
  · have hc4 : v3.toInt = 0 := (fi_eq rfl (show (0 : Int32).toInt = 0 by decide)).mp c9
    refine lv_aload_n hx hb dX9_canBegin_9 rfl (lv_at hl 0 rfl) ?_
    refine tk_get (ci := 9) (C := RX9) (T := TX9) (N := 11) (sp := (1, 20, 8, 0)) hx hb htl inX9 hown hK hG ht_a0 (by decide) tk_no rfl 0 (by decide) (htl _ mw_82) (fun _ h9 => h9) rfl dX9_canBegin_10 (fun v9 hf5 hV9 => ?_)
    obtain ⟨b6, rfl, ht_b6⟩ := hV9
    have ht_b6 : t b6 = (20, 8, rg0) := ht_b6
    refine lv_iload_n hx hb dX9_canBegin_13 rfl (lv_at hl 1 rfl) ?_
    refine tk_iald hx hb hK hG ht_b6 (by decide) (fun _ h => h) tk_no rfl (by omega) (by omega) dX9_canBegin_14 (fun v7 _ _ => ?_)
    have hr_v7 := tk_rng v7
    refine lv_if_le (tgt := 22) hx hb dX9_canBegin_15 (by decide) (fun c9 => ?_) (fun c9 => ?_)
    · have hc8 : v7.toInt ≤ 0 := (fi_le rfl (show (0 : Int32).toInt = 0 by decide)).mp c9
      refine lv_iconst (v := 0) hx hb dX9_canBegin_22 (by decide) ?_
      have hk_0 : (0 : Int32).toInt = 0 := by decide
      exact tk_iret (v := 0) hx hb hr rfl hlocks (show 0 ≤ (0 : Int32).toInt ∧ (0 : Int32).toInt ≤ 1 ∧ 0 ≤ (0 : Int32).toInt ∧ (0 : Int32).toInt ≤ 1 from ⟨(by omega), (by omega), (by omega), (by omega)⟩) hG hS dX9_canBegin_23
    · have hc8 : ¬ (v7.toInt ≤ 0) := fun h9 => c9 ((fi_le rfl (show (0 : Int32).toInt = 0 by decide)).mpr h9)
      refine lv_iconst (v := 1) hx hb dX9_canBegin_18 (by decide) ?_
      refine lv_goto (tgt := 23) hx hb dX9_canBegin_19 (by decide) ?_
      have hk_1 : (1 : Int32).toInt = 1 := by decide
      exact tk_iret (v := 1) hx hb hr rfl hlocks (show 0 ≤ (1 : Int32).toInt ∧ (1 : Int32).toInt ≤ 1 ∧ 0 ≤ (1 : Int32).toInt ∧ (1 : Int32).toInt ≤ 1 from ⟨(by omega), (by omega), (by omega), (by omega)⟩) hG hS dX9_canBegin_23
theorem dX1_openDuel_0 : decode cX1_openDuel 0 = .ok (.iload_n 3, 1) := by decide +kernel
theorem dX1_openDuel_1 : decode cX1_openDuel 1 = .ok (.iconst 1, 1) := by decide +kernel
theorem dX1_openDuel_2 : decode cX1_openDuel 2 = .ok (.bipush 99, 2) := by decide +kernel
theorem dX1_openDuel_4 : decode cX1_openDuel 4 = .ok (.invokestatic 40, 3) := by decide +kernel
theorem dX1_openDuel_7 : decode cX1_openDuel 7 = .ok (.ifCond .ne 5, 3) := by decide +kernel
theorem dX1_openDuel_12 : decode cX1_openDuel 12 = .ok (.aload_n 0, 1) := by decide +kernel
theorem dX1_openDuel_13 : decode cX1_openDuel 13 = .ok (.getfield 32, 3) := by decide +kernel
theorem dX1_openDuel_16 : decode cX1_openDuel 16 = .ok (.iload_n 1, 1) := by decide +kernel
theorem dX1_openDuel_17 : decode cX1_openDuel 17 = .ok (.invokevirtual 44, 3) := by decide +kernel
theorem dX1_openDuel_20 : decode cX1_openDuel 20 = .ok (.ifCond .eq 14, 3) := by decide +kernel
theorem dX1_openDuel_34 : decode cX1_openDuel 34 = .ok (.bipush (-2), 2) := by decide +kernel
theorem dX1_openDuel_36 : decode cX1_openDuel 36 = .ok (.ireturn, 1) := by decide +kernel
theorem dX1_openDuel_23 : decode cX1_openDuel 23 = .ok (.aload_n 0, 1) := by decide +kernel
theorem dX1_openDuel_24 : decode cX1_openDuel 24 = .ok (.getfield 32, 3) := by decide +kernel
theorem dX1_openDuel_27 : decode cX1_openDuel 27 = .ok (.iload_n 2, 1) := by decide +kernel
theorem dX1_openDuel_28 : decode cX1_openDuel 28 = .ok (.invokevirtual 44, 3) := by decide +kernel
theorem dX1_openDuel_31 : decode cX1_openDuel 31 = .ok (.ifCond .ne 6, 3) := by decide +kernel
theorem dX1_openDuel_37 : decode cX1_openDuel 37 = .ok (.aload_n 0, 1) := by decide +kernel
theorem dX1_openDuel_38 : decode cX1_openDuel 38 = .ok (.getfield 32, 3) := by decide +kernel
theorem dX1_openDuel_41 : decode cX1_openDuel 41 = .ok (.getfield 50, 3) := by decide +kernel
theorem dX1_openDuel_44 : decode cX1_openDuel 44 = .ok (.astore 4, 2) := by decide +kernel
theorem dX1_openDuel_46 : decode cX1_openDuel 46 = .ok (.aload 4, 2) := by decide +kernel
theorem dX1_openDuel_48 : decode cX1_openDuel 48 = .ok (.invokevirtual 53, 3) := by decide +kernel
theorem dX1_openDuel_51 : decode cX1_openDuel 51 = .ok (.ifCond .ne 33, 3) := by decide +kernel
theorem dX1_openDuel_84 : decode cX1_openDuel 84 = .ok (.bipush (-3), 2) := by decide +kernel
theorem dX1_openDuel_86 : decode cX1_openDuel 86 = .ok (.ireturn, 1) := by decide +kernel
theorem dX1_openDuel_54 : decode cX1_openDuel 54 = .ok (.aload_n 0, 1) := by decide +kernel
theorem dX1_openDuel_55 : decode cX1_openDuel 55 = .ok (.getfield 32, 3) := by decide +kernel
theorem dX1_openDuel_58 : decode cX1_openDuel 58 = .ok (.iload_n 1, 1) := by decide +kernel
theorem dX1_openDuel_59 : decode cX1_openDuel 59 = .ok (.iload_n 2, 1) := by decide +kernel
theorem dX1_openDuel_60 : decode cX1_openDuel 60 = .ok (.invokevirtual 57, 3) := by decide +kernel
theorem dX1_openDuel_63 : decode cX1_openDuel 63 = .ok (.ifCond .eq 21, 3) := by decide +kernel
theorem dX1_openDuel_66 : decode cX1_openDuel 66 = .ok (.aload 4, 2) := by decide +kernel
theorem dX1_openDuel_68 : decode cX1_openDuel 68 = .ok (.iload_n 1, 1) := by decide +kernel
theorem dX1_openDuel_69 : decode cX1_openDuel 69 = .ok (.invokevirtual 61, 3) := by decide +kernel
theorem dX1_openDuel_72 : decode cX1_openDuel 72 = .ok (.ifCond .eq 12, 3) := by decide +kernel
theorem dX1_openDuel_75 : decode cX1_openDuel 75 = .ok (.aload 4, 2) := by decide +kernel
theorem dX1_openDuel_77 : decode cX1_openDuel 77 = .ok (.iload_n 2, 1) := by decide +kernel
theorem dX1_openDuel_78 : decode cX1_openDuel 78 = .ok (.invokevirtual 61, 3) := by decide +kernel
theorem dX1_openDuel_81 : decode cX1_openDuel 81 = .ok (.ifCond .ne 6, 3) := by decide +kernel
theorem dX1_openDuel_87 : decode cX1_openDuel 87 = .ok (.aload_n 0, 1) := by decide +kernel
theorem dX1_openDuel_88 : decode cX1_openDuel 88 = .ok (.iconst 0, 1) := by decide +kernel
theorem dX1_openDuel_89 : decode cX1_openDuel 89 = .ok (.invokevirtual 64, 3) := by decide +kernel
theorem dX1_openDuel_92 : decode cX1_openDuel 92 = .ok (.aload 4, 2) := by decide +kernel
theorem dX1_openDuel_94 : decode cX1_openDuel 94 = .ok (.iload_n 1, 1) := by decide +kernel
theorem dX1_openDuel_95 : decode cX1_openDuel 95 = .ok (.iload_n 2, 1) := by decide +kernel
theorem dX1_openDuel_96 : decode cX1_openDuel 96 = .ok (.iload_n 3, 1) := by decide +kernel
theorem dX1_openDuel_97 : decode cX1_openDuel 97 = .ok (.invokevirtual 68, 3) := by decide +kernel
theorem dX1_openDuel_100 : decode cX1_openDuel 100 = .ok (.iconst 0, 1) := by decide +kernel
theorem dX1_openDuel_101 : decode cX1_openDuel 101 = .ok (.ireturn, 1) := by decide +kernel
theorem dX1_openDuel_10 : decode cX1_openDuel 10 = .ok (.iconst (-1), 1) := by decide +kernel
theorem dX1_openDuel_11 : decode cX1_openDuel 11 = .ok (.ireturn, 1) := by decide +kernel
set_option maxHeartbeats 4000000 in
set_option maxRecDepth 100000 in
theorem k_X1_openDuel (l : Launch) (D : va_G) (cy : Nat → ClassId) (ld : Nat → Nat) (t : tk_T) (a0 : Nat) (p1 : Int32) (p2 : Int32) (p3 : Int32) (ht_a0 : t a0 = (2, 0, 0)) : Met l yX1_openDuel (wl yX1_openDuel cX1_openDuel 5 (some .int)) ({ frames := 6, cells := 0, slots := 0, locals := 350 }) (tp D cy ld t [] [.ref a0, .int p1, .int p2, .int p3] (fun H => True)) (ti D cy ld t [] (fun r H => (-3) ≤ r.toInt ∧ r.toInt ≤ 0) (tk_w t [(2, 0, 0), (20, 1, 1), (10, 1, 1), (20, 0, 0), (10, 0, 0)])) 0 0 (tk_w t [(2, 0, 0), (20, 1, 1), (10, 1, 1), (20, 0, 0), (10, 0, 0)]) := by
  refine tk_met (y := yX1_openDuel) (cc := cX1_openDuel) (maxL := 5) (ret := (some .int)) (av := [.ref a0, .int p1, .int p2, .int p3]) _ _ (by decide) (Nat.le_of_ble_eq_true rfl) ?_
  intro p e s m args below meth c hx hb hr hml hts htl hown hlocks hK H locs hH hG hS hB hZ ls hl
  have hown : s.vm.findClass RX1 = some m.cls := hown
  have hl : lv_has ls 5 [(0, .ref a0), (1, .int p1), (2, .int p2), (3, .int p3)] := hl
  have hr_p1 := tk_rng p1
  have hr_p2 := tk_rng p2
  have hr_p3 := tk_rng p3
  refine lv_iload_n hx hb dX1_openDuel_0 rfl (lv_at hl 3 rfl) ?_
  refine lv_iconst (v := 1) hx hb dX1_openDuel_1 (by decide) ?_
  refine lv_bipush (v := 99) hx hb dX1_openDuel_2 (by decide) ?_
  have hk_1 : (1 : Int32).toInt = 1 := by decide
  have hk_99 : (99 : Int32).toInt = 99 := by decide
  refine tk_Ni (As := [.int p3, .int 1, .int 99]) (rest := []) ⟨hx, hb, hml, hown, hts⟩ hK hG hZ hS (k_X12_within l D cy ld t _ p3 1 99) trivial ⟨va_cnB 3 hts (wl_in mw_262) rfl rfl rfl hK.2.2.2.1.2.1 (htl _ mw_2) hd_yX12_within ⟨(Nat.le_of_ble_eq_true rfl), (Nat.le_of_ble_eq_true rfl)⟩, htl _ mw_261, trivial⟩ (tk_w.pick [] rfl) rfl hl.1 rfl (Nat.le_of_ble_eq_true rfl) dX1_openDuel_4 ⟨(Nat.le_of_ble_eq_true rfl), (Nat.le_of_ble_eq_true rfl)⟩ (fun v1 H locs hpo hG hS hq9 => ?_)
  obtain ⟨hpo3, hpo4, hpo5, hpo6, hpo7⟩ := hpo
  refine lv_if_ne (tgt := 12) hx hb dX1_openDuel_7 (by decide) (fun c9 => ?_) (fun c9 => ?_)
  · have hc8 : ¬ (v1.toInt = 0) := fun h9 => c9 ((fi_eq rfl (show (0 : Int32).toInt = 0 by decide)).mpr h9)
    refine lv_aload_n hx hb dX1_openDuel_12 rfl (lv_at hl 0 rfl) ?_
    refine tk_get (ci := 1) (C := RX1) (T := TX1) (N := 11) (sp := (8, 20, 3, 0)) hx hb htl inX1 hown hK hG ht_a0 (by decide) tk_no rfl 1 (by decide) (htl _ mw_114) (fun _ h9 => h9) rfl dX1_openDuel_13 (fun v9 hf9 hV9 => ?_)
    obtain ⟨rfl, ht_ld20⟩ := hV9
    have ht_ld20 : t (ld 20) = (3, 0, 0) := ht_ld20
    refine fx_top (v := .ref (ld 20)) rfl ?_
    refine lv_iload_n hx hb dX1_openDuel_16 rfl (lv_at hl 1 rfl) ?_
    refine tk_Vi (As := [.int p1]) (rest := []) (ci := 2) ⟨hx, hb, hml, hown, hts⟩ hK hG hZ hS (k_X2_isSinger l D cy ld t (ld 20) p1 ht_ld20) trivial ⟨callB_of 1 hts (wl_in mw_311) rfl rfl rfl (htl _ mw_14) (htl _ mw_874) hd_yX2_isSinger ⟨(Nat.le_of_ble_eq_true rfl), (Nat.le_of_ble_eq_true rfl)⟩, htl _ mw_309, htl _ mw_310⟩ ht_ld20 (by decide) tk_no rfl (tk_w.pick [] rfl) rfl hl.1 rfl (Nat.le_of_ble_eq_true rfl) dX1_openDuel_17 ⟨(Nat.le_of_ble_eq_true rfl), (Nat.le_of_ble_eq_true rfl)⟩ (fun v10 H locs hpo hG hS hq9 => ?_)
    obtain ⟨hpo12, hpo13, hpo14, hpo15, hpo16⟩ := hpo
    refine lv_if_eq (tgt := 34) hx hb dX1_openDuel_20 (by decide) (fun c9 => ?_) (fun c9 => ?_)
    · have hc17 : v10.toInt = 0 := (fi_eq rfl (show (0 : Int32).toInt = 0 by decide)).mp c9
      refine lv_bipush (v := (-2)) hx hb dX1_openDuel_34 (by decide) ?_
      have hk_m2 : ((-2) : Int32).toInt = (-2) := by decide
      exact tk_iret (v := (-2)) hx hb hr rfl hlocks (show (-3) ≤ ((-2) : Int32).toInt ∧ ((-2) : Int32).toInt ≤ 0 from ⟨(by omega), (by omega)⟩) hG hS dX1_openDuel_36
    · have hc17 : ¬ (v10.toInt = 0) := fun h9 => c9 ((fi_eq rfl (show (0 : Int32).toInt = 0 by decide)).mpr h9)
      refine lv_aload_n hx hb dX1_openDuel_23 rfl (lv_at hl 0 rfl) ?_
      refine tk_get (ci := 1) (C := RX1) (T := TX1) (N := 11) (sp := (8, 20, 3, 0)) hx hb htl inX1 hown hK hG ht_a0 (by decide) tk_no rfl 1 (by decide) (htl _ mw_114) (fun _ h9 => h9) rfl dX1_openDuel_24 (fun v9 hf18 hV9 => ?_)
      obtain ⟨rfl, ht_ld20⟩ := hV9
      have ht_ld20 : t (ld 20) = (3, 0, 0) := ht_ld20
      refine fx_top (v := .ref (ld 20)) rfl ?_
      refine lv_iload_n hx hb dX1_openDuel_27 rfl (lv_at hl 2 rfl) ?_
      refine tk_Vi (As := [.int p2]) (rest := []) (ci := 2) ⟨hx, hb, hml, hown, hts⟩ hK hG hZ hS (k_X2_isSinger l D cy ld t (ld 20) p2 ht_ld20) trivial ⟨callB_of 1 hts (wl_in mw_311) rfl rfl rfl (htl _ mw_14) (htl _ mw_874) hd_yX2_isSinger ⟨(Nat.le_of_ble_eq_true rfl), (Nat.le_of_ble_eq_true rfl)⟩, htl _ mw_309, htl _ mw_310⟩ ht_ld20 (by decide) tk_no rfl (tk_w.pick [] rfl) rfl hl.1 rfl (Nat.le_of_ble_eq_true rfl) dX1_openDuel_28 ⟨(Nat.le_of_ble_eq_true rfl), (Nat.le_of_ble_eq_true rfl)⟩ (fun v19 H locs hpo hG hS hq9 => ?_)
      obtain ⟨hpo21, hpo22, hpo23, hpo24, hpo25⟩ := hpo
      refine lv_if_ne (tgt := 37) hx hb dX1_openDuel_31 (by decide) (fun c9 => ?_) (fun c9 => ?_)
      · have hc26 : ¬ (v19.toInt = 0) := fun h9 => c9 ((fi_eq rfl (show (0 : Int32).toInt = 0 by decide)).mpr h9)
        refine lv_aload_n hx hb dX1_openDuel_37 rfl (lv_at hl 0 rfl) ?_
        refine tk_get (ci := 1) (C := RX1) (T := TX1) (N := 11) (sp := (8, 20, 3, 0)) hx hb htl inX1 hown hK hG ht_a0 (by decide) tk_no rfl 1 (by decide) (htl _ mw_114) (fun _ h9 => h9) rfl dX1_openDuel_38 (fun v9 hf27 hV9 => ?_)
        obtain ⟨rfl, ht_ld20⟩ := hV9
        have ht_ld20 : t (ld 20) = (3, 0, 0) := ht_ld20
        refine fx_top (v := .ref (ld 20)) rfl ?_
        refine tk_get (ci := 2) (C := RX2) (T := TX2) (N := 20) (sp := (9, 40, 10, 0)) hx hb htl inX2 hown hK hG ht_ld20 (by decide) tk_no rfl 19 (by decide) (htl _ mw_814) (fun _ h9 => h9) rfl dX1_openDuel_41 (fun v9 hf28 hV9 => ?_)
        obtain ⟨rfl, ht_ld40⟩ := hV9
        have ht_ld40 : t (ld 40) = (10, 0, 0) := ht_ld40
        refine fx_top (v := .ref (ld 40)) rfl ?_
        refine lv_astore (lv' := [(4, .ref (ld 40)), (0, .ref a0), (1, .int p1), (2, .int p2), (3, .int p3)]) hx hb dX1_openDuel_44 hl (by decide) rfl (fun ls hl => ?_)
        refine lv_aload hx hb dX1_openDuel_46 (lv_at hl 0 rfl) ?_
        obtain ⟨v9, hf29, hV9⟩ := tk_peek (ci := 9) (C := RX9) (T := TX9) (N := 11) (sp := (0, (-1), 7, 0)) hG ht_ld40 (by decide) tk_no rfl 5 (by decide) rfl
        obtain ⟨v30, rfl, (ha_v30 : (-1) ≤ v30.toInt), (hb_v30 : v30.toInt ≤ 7)⟩ := hV9
        refine tk_Vi (As := []) (rest := []) (ci := 9) ⟨hx, hb, hml, hown, hts⟩ hK hG hZ hS (k_X9_isDuel l D cy ld t 0 (ld 40) v30 ht_ld40 (by omega) (by omega)) hf29 ⟨callB_of 0 hts (wl_in mw_840) rfl rfl rfl (htl _ mw_76) (htl _ mw_875) hd_yX9_isDuel ⟨(Nat.le_of_ble_eq_true rfl), (Nat.le_of_ble_eq_true rfl)⟩, htl _ mw_838, htl _ mw_839⟩ ht_ld40 (by decide) tk_no rfl (tk_w.pick [] rfl) rfl hl.1 rfl (Nat.le_of_ble_eq_true rfl) dX1_openDuel_48 ⟨(Nat.le_of_ble_eq_true rfl), (Nat.le_of_ble_eq_true rfl)⟩ (fun v31 H locs hpo hG hS hq9 => ?_)
        have hf29 := hf29.call hq9 tk_w.nil
        obtain ⟨hpo33, hpo34, hpo35, hpo36, hpo37⟩ := hpo
        refine lv_if_ne (tgt := 84) hx hb dX1_openDuel_51 (by decide) (fun c9 => ?_) (fun c9 => ?_)
        · have hc38 : ¬ (v31.toInt = 0) := fun h9 => c9 ((fi_eq rfl (show (0 : Int32).toInt = 0 by decide)).mpr h9)
          refine lv_bipush (v := (-3)) hx hb dX1_openDuel_84 (by decide) ?_
          have hk_m3 : ((-3) : Int32).toInt = (-3) := by decide
          exact tk_iret (v := (-3)) hx hb hr rfl hlocks (show (-3) ≤ ((-3) : Int32).toInt ∧ ((-3) : Int32).toInt ≤ 0 from ⟨(by omega), (by omega)⟩) hG hS dX1_openDuel_86
        · have hc38 : v31.toInt = 0 := (fi_eq rfl (show (0 : Int32).toInt = 0 by decide)).mp c9
          refine lv_aload_n hx hb dX1_openDuel_54 rfl (lv_at hl 1 rfl) ?_
          refine tk_get (ci := 1) (C := RX1) (T := TX1) (N := 11) (sp := (8, 20, 3, 0)) hx hb htl inX1 hown hK hG ht_a0 (by decide) tk_no rfl 1 (by decide) (htl _ mw_114) (fun _ h9 => h9) rfl dX1_openDuel_55 (fun v9 hf39 hV9 => ?_)
          obtain ⟨rfl, ht_ld20⟩ := hV9
          have ht_ld20 : t (ld 20) = (3, 0, 0) := ht_ld20
          refine fx_top (v := .ref (ld 20)) rfl ?_
          refine lv_iload_n hx hb dX1_openDuel_58 rfl (lv_at hl 2 rfl) ?_
          refine lv_iload_n hx hb dX1_openDuel_59 rfl (lv_at hl 3 rfl) ?_
          refine tk_Vi (As := [.int p1, .int p2]) (rest := []) (ci := 2) ⟨hx, hb, hml, hown, hts⟩ hK hG hZ hS (k_X2_areFoes l D cy ld t (ld 20) p1 p2 ht_ld20) trivial ⟨callB_of 2 hts (wl_in mw_879) rfl rfl rfl (htl _ mw_14) (htl _ mw_876) hd_yX2_areFoes ⟨(Nat.le_of_ble_eq_true rfl), (Nat.le_of_ble_eq_true rfl)⟩, htl _ mw_877, htl _ mw_878⟩ ht_ld20 (by decide) tk_no rfl (tk_w.pick [] rfl) rfl hl.1 rfl (Nat.le_of_ble_eq_true rfl) dX1_openDuel_60 ⟨(Nat.le_of_ble_eq_true rfl), (Nat.le_of_ble_eq_true rfl)⟩ (fun v40 H locs hpo hG hS hq9 => ?_)
          have hf29 := hf29.call hq9 tk_w.nil
          obtain ⟨hpo42, hpo43, hpo44, hpo45, hpo46⟩ := hpo
          refine lv_if_eq (tgt := 84) hx hb dX1_openDuel_63 (by decide) (fun c9 => ?_) (fun c9 => ?_)
          · have hc47 : v40.toInt = 0 := (fi_eq rfl (show (0 : Int32).toInt = 0 by decide)).mp c9
            refine lv_bipush (v := (-3)) hx hb dX1_openDuel_84 (by decide) ?_
            have hk_m3 : ((-3) : Int32).toInt = (-3) := by decide
            exact tk_iret (v := (-3)) hx hb hr rfl hlocks (show (-3) ≤ ((-3) : Int32).toInt ∧ ((-3) : Int32).toInt ≤ 0 from ⟨(by omega), (by omega)⟩) hG hS dX1_openDuel_86
          · have hc47 : ¬ (v40.toInt = 0) := fun h9 => c9 ((fi_eq rfl (show (0 : Int32).toInt = 0 by decide)).mpr h9)
            refine lv_aload hx hb dX1_openDuel_66 (lv_at hl 0 rfl) ?_
            refine lv_iload_n hx hb dX1_openDuel_68 rfl (lv_at hl 2 rfl) ?_
            refine tk_Vi (As := [.int p1]) (rest := []) (ci := 9) ⟨hx, hb, hml, hown, hts⟩ hK hG hZ hS (k_X9_canBegin l D cy ld t 0 (ld 40) p1 ht_ld40 (by omega) (by omega)) trivial ⟨callB_of 1 hts (wl_in mw_884) rfl rfl rfl (htl _ mw_76) (htl _ mw_881) hd_yX9_canBegin ⟨(Nat.le_of_ble_eq_true rfl), (Nat.le_of_ble_eq_true rfl)⟩, htl _ mw_882, htl _ mw_883⟩ ht_ld40 (by decide) tk_no rfl (tk_w.pick [] rfl) rfl hl.1 rfl (Nat.le_of_ble_eq_true rfl) dX1_openDuel_69 ⟨(Nat.le_of_ble_eq_true rfl), (Nat.le_of_ble_eq_true rfl)⟩ (fun v48 H locs hpo hG hS hq9 => ?_)
            have hf29 := hf29.call hq9 tk_w.nil
            obtain ⟨hpo50, hpo51, hpo52, hpo53⟩ := hpo
            refine lv_if_eq (tgt := 84) hx hb dX1_openDuel_72 (by decide) (fun c9 => ?_) (fun c9 => ?_)
            · have hc54 : v48.toInt = 0 := (fi_eq rfl (show (0 : Int32).toInt = 0 by decide)).mp c9
              refine lv_bipush (v := (-3)) hx hb dX1_openDuel_84 (by decide) ?_
              have hk_m3 : ((-3) : Int32).toInt = (-3) := by decide
              exact tk_iret (v := (-3)) hx hb hr rfl hlocks (show (-3) ≤ ((-3) : Int32).toInt ∧ ((-3) : Int32).toInt ≤ 0 from ⟨(by omega), (by omega)⟩) hG hS dX1_openDuel_86
            · have hc54 : ¬ (v48.toInt = 0) := fun h9 => c9 ((fi_eq rfl (show (0 : Int32).toInt = 0 by decide)).mpr h9)
              refine lv_aload hx hb dX1_openDuel_75 (lv_at hl 0 rfl) ?_
              refine lv_iload_n hx hb dX1_openDuel_77 rfl (lv_at hl 3 rfl) ?_
              refine tk_Vi (As := [.int p2]) (rest := []) (ci := 9) ⟨hx, hb, hml, hown, hts⟩ hK hG hZ hS (k_X9_canBegin l D cy ld t 0 (ld 40) p2 ht_ld40 (by omega) (by omega)) trivial ⟨callB_of 1 hts (wl_in mw_884) rfl rfl rfl (htl _ mw_76) (htl _ mw_881) hd_yX9_canBegin ⟨(Nat.le_of_ble_eq_true rfl), (Nat.le_of_ble_eq_true rfl)⟩, htl _ mw_882, htl _ mw_883⟩ ht_ld40 (by decide) tk_no rfl (tk_w.pick [] rfl) rfl hl.1 rfl (Nat.le_of_ble_eq_true rfl) dX1_openDuel_78 ⟨(Nat.le_of_ble_eq_true rfl), (Nat.le_of_ble_eq_true rfl)⟩ (fun v55 H locs hpo hG hS hq9 => ?_)
              have hf29 := hf29.call hq9 tk_w.nil
              obtain ⟨hpo57, hpo58, hpo59, hpo60⟩ := hpo
              refine lv_if_ne (tgt := 87) hx hb dX1_openDuel_81 (by decide) (fun c9 => ?_) (fun c9 => ?_)
              · have hc61 : ¬ (v55.toInt = 0) := fun h9 => c9 ((fi_eq rfl (show (0 : Int32).toInt = 0 by decide)).mpr h9)
                refine lv_aload_n hx hb dX1_openDuel_87 rfl (lv_at hl 1 rfl) ?_
                refine lv_iconst (v := 0) hx hb dX1_openDuel_88 (by decide) ?_
                have hk_0 : (0 : Int32).toInt = 0 := by decide
                refine tk_Vv (As := [.int 0]) (rest := []) (ci := 1) ⟨hx, hb, hml, hown, hts⟩ hK hG hZ hS (k_X1_remember l D cy ld t a0 0 ht_a0) trivial ⟨callB_of 1 hts (wl_in mw_888) rfl rfl rfl (htl _ mw_25) (htl _ mw_885) hd_yX1_remember ⟨(Nat.le_of_ble_eq_true rfl), (Nat.le_of_ble_eq_true rfl)⟩, htl _ mw_886, htl _ mw_887⟩ ht_a0 (by decide) tk_no rfl (tk_w.pick [0, 1, 2, 3] rfl) rfl hl.1 rfl (Nat.le_of_ble_eq_true rfl) dX1_openDuel_89 ⟨(Nat.le_of_ble_eq_true rfl), (Nat.le_of_ble_eq_true rfl)⟩ (fun H locs hpo hG hS hq9 => ?_)
                have hf29 := hf29.call hq9 (tk_w.no ht_ld40 (by decide))
                refine lv_aload hx hb dX1_openDuel_92 (lv_at hl 0 rfl) ?_
                refine lv_iload_n hx hb dX1_openDuel_94 rfl (lv_at hl 2 rfl) ?_
                refine lv_iload_n hx hb dX1_openDuel_95 rfl (lv_at hl 3 rfl) ?_
                refine lv_iload_n hx hb dX1_openDuel_96 rfl (lv_at hl 4 rfl) ?_
                refine tk_Vv (As := [.int p1, .int p2, .int p3]) (rest := []) (ci := 9) ⟨hx, hb, hml, hown, hts⟩ hK hG hZ hS (k_X9_openDuel l D cy ld t 0 (ld 40) p1 p2 p3 ht_ld40 (by omega) (by omega) (by omega) (by omega)) trivial ⟨callB_of 3 hts (wl_in mw_892) rfl rfl rfl (htl _ mw_76) (htl _ mw_889) hd_yX9_openDuel ⟨(Nat.le_of_ble_eq_true rfl), (Nat.le_of_ble_eq_true rfl)⟩, htl _ mw_890, htl _ mw_891⟩ ht_ld40 (by decide) tk_no rfl (tk_w.pick [4] rfl) rfl hl.1 rfl (Nat.le_of_ble_eq_true rfl) dX1_openDuel_97 ⟨(Nat.le_of_ble_eq_true rfl), (Nat.le_of_ble_eq_true rfl)⟩ (fun H locs hpo hG hS hq9 => ?_)
                have hf64 := hpo
                refine lv_iconst (v := 0) hx hb dX1_openDuel_100 (by decide) ?_
                have hk_0 : (0 : Int32).toInt = 0 := by decide
                exact tk_iret (v := 0) hx hb hr rfl hlocks (show (-3) ≤ (0 : Int32).toInt ∧ (0 : Int32).toInt ≤ 0 from ⟨(by omega), (by omega)⟩) hG hS dX1_openDuel_101
              · have hc61 : v55.toInt = 0 := (fi_eq rfl (show (0 : Int32).toInt = 0 by decide)).mp c9
                refine lv_bipush (v := (-3)) hx hb dX1_openDuel_84 (by decide) ?_
                have hk_m3 : ((-3) : Int32).toInt = (-3) := by decide
                exact tk_iret (v := (-3)) hx hb hr rfl hlocks (show (-3) ≤ ((-3) : Int32).toInt ∧ ((-3) : Int32).toInt ≤ 0 from ⟨(by omega), (by omega)⟩) hG hS dX1_openDuel_86
      · have hc26 : v19.toInt = 0 := (fi_eq rfl (show (0 : Int32).toInt = 0 by decide)).mp c9
        refine lv_bipush (v := (-2)) hx hb dX1_openDuel_34 (by decide) ?_
        have hk_m2 : ((-2) : Int32).toInt = (-2) := by decide
        exact tk_iret (v := (-2)) hx hb hr rfl hlocks (show (-3) ≤ ((-2) : Int32).toInt ∧ ((-2) : Int32).toInt ≤ 0 from ⟨(by omega), (by omega)⟩) hG hS dX1_openDuel_36
  · have hc8 : v1.toInt = 0 := (fi_eq rfl (show (0 : Int32).toInt = 0 by decide)).mp c9
    refine lv_iconst (v := (-1)) hx hb dX1_openDuel_10 (by decide) ?_
    have hk_m1 : ((-1) : Int32).toInt = (-1) := by decide
    exact tk_iret (v := (-1)) hx hb hr rfl hlocks (show (-3) ≤ ((-1) : Int32).toInt ∧ ((-1) : Int32).toInt ≤ 0 from ⟨(by omega), (by omega)⟩) hG hS dX1_openDuel_11
theorem dX2_isVerse_0 : decode cX2_isVerse 0 = .ok (.iload_n 1, 1) := by decide +kernel
theorem dX2_isVerse_1 : decode cX2_isVerse 1 = .ok (.ifCond .lt 15, 3) := by decide +kernel
theorem dX2_isVerse_16 : decode cX2_isVerse 16 = .ok (.iconst 0, 1) := by decide +kernel
theorem dX2_isVerse_17 : decode cX2_isVerse 17 = .ok (.ireturn, 1) := by decide +kernel
theorem dX2_isVerse_4 : decode cX2_isVerse 4 = .ok (.iload_n 1, 1) := by decide +kernel
theorem dX2_isVerse_5 : decode cX2_isVerse 5 = .ok (.aload_n 0, 1) := by decide +kernel
theorem dX2_isVerse_6 : decode cX2_isVerse 6 = .ok (.getfield 71, 3) := by decide +kernel
theorem dX2_isVerse_9 : decode cX2_isVerse 9 = .ok (.if_icmp .ge 7, 3) := by decide +kernel
theorem dX2_isVerse_12 : decode cX2_isVerse 12 = .ok (.iconst 1, 1) := by decide +kernel
theorem dX2_isVerse_13 : decode cX2_isVerse 13 = .ok (.goto 4, 3) := by decide +kernel
set_option maxHeartbeats 4000000 in
set_option maxRecDepth 100000 in
theorem k_X2_isVerse (l : Launch) (D : va_G) (cy : Nat → ClassId) (ld : Nat → Nat) (t : tk_T) (a0 : Nat) (p1 : Int32) (ht_a0 : t a0 = (3, 0, 0)) : Met l yX2_isVerse (wl yX2_isVerse cX2_isVerse 2 (some .boolean)) ({ frames := 3, cells := 0, slots := 0, locals := 140 }) (tp D cy ld t [] [.ref a0, .int p1] (fun H => True)) (ti D cy ld t [] (fun r H => (1 ≤ r.toInt → 0 ≤ p1.toInt ∧ p1.toInt ≤ 9) ∧ 0 ≤ r.toInt ∧ r.toInt ≤ 1 ∧ 0 ≤ r.toInt ∧ r.toInt ≤ 1) (tk_w t [])) 0 0 (tk_w t []) := by
  refine tk_met (y := yX2_isVerse) (cc := cX2_isVerse) (maxL := 2) (ret := (some .boolean)) (av := [.ref a0, .int p1]) _ _ (by decide) (Nat.le_of_ble_eq_true rfl) ?_
  intro p e s m args below meth c hx hb hr hml hts htl hown hlocks hK H locs hH hG hS hB hZ ls hl
  have hown : s.vm.findClass RX2 = some m.cls := hown
  have hl : lv_has ls 2 [(0, .ref a0), (1, .int p1)] := hl
  have hr_p1 := tk_rng p1
  refine lv_iload_n hx hb dX2_isVerse_0 rfl (lv_at hl 1 rfl) ?_
  refine lv_if_lt (tgt := 16) hx hb dX2_isVerse_1 (by decide) (fun c9 => ?_) (fun c9 => ?_)
  · have hc1 : p1.toInt < 0 := (fi_lt rfl (show (0 : Int32).toInt = 0 by decide)).mp c9
    refine lv_iconst (v := 0) hx hb dX2_isVerse_16 (by decide) ?_
    have hk_0 : (0 : Int32).toInt = 0 := by decide
    exact tk_iret (v := 0) hx hb hr rfl hlocks (show (1 ≤ (0 : Int32).toInt → 0 ≤ p1.toInt ∧ p1.toInt ≤ 9) ∧ 0 ≤ (0 : Int32).toInt ∧ (0 : Int32).toInt ≤ 1 ∧ 0 ≤ (0 : Int32).toInt ∧ (0 : Int32).toInt ≤ 1 from ⟨(fun _ => ⟨by omega, by omega⟩), (by omega), (by omega), (by omega), (by omega)⟩) hG hS dX2_isVerse_17
  · have hc1 : ¬ (p1.toInt < 0) := fun h9 => c9 ((fi_lt rfl (show (0 : Int32).toInt = 0 by decide)).mpr h9)
    refine lv_iload_n hx hb dX2_isVerse_4 rfl (lv_at hl 1 rfl) ?_
    refine lv_aload_n hx hb dX2_isVerse_5 rfl (lv_at hl 0 rfl) ?_
    refine tk_get (ci := 2) (C := RX2) (T := TX2) (N := 20) (sp := (0, 0, 10, 0)) hx hb htl inX2 hown hK hG ht_a0 (by decide) tk_no rfl 4 (by decide) (htl _ mw_333) (fun _ h9 => h9) rfl dX2_isVerse_6 (fun v9 hf2 hV9 => ?_)
    obtain ⟨v3, rfl, (ha_v3 : 0 ≤ v3.toInt), (hb_v3 : v3.toInt ≤ 10)⟩ := hV9
    refine lv_icmp_ge (tgt := 16) hx hb dX2_isVerse_9 (by decide) (fun c9 => ?_) (fun c9 => ?_)
    · have hc4 : v3.toInt ≤ p1.toInt := (fi_le rfl rfl).mp c9
      refine lv_iconst (v := 0) hx hb dX2_isVerse_16 (by decide) ?_
      have hk_0 : (0 : Int32).toInt = 0 := by decide
      exact tk_iret (v := 0) hx hb hr rfl hlocks (show (1 ≤ (0 : Int32).toInt → 0 ≤ p1.toInt ∧ p1.toInt ≤ 9) ∧ 0 ≤ (0 : Int32).toInt ∧ (0 : Int32).toInt ≤ 1 ∧ 0 ≤ (0 : Int32).toInt ∧ (0 : Int32).toInt ≤ 1 from ⟨(fun _ => ⟨by omega, by omega⟩), (by omega), (by omega), (by omega), (by omega)⟩) hG hS dX2_isVerse_17
    · have hc4 : ¬ (v3.toInt ≤ p1.toInt) := fun h9 => c9 ((fi_le rfl rfl).mpr h9)
      refine lv_iconst (v := 1) hx hb dX2_isVerse_12 (by decide) ?_
      refine lv_goto (tgt := 17) hx hb dX2_isVerse_13 (by decide) ?_
      have hk_1 : (1 : Int32).toInt = 1 := by decide
      exact tk_iret (v := 1) hx hb hr rfl hlocks (show (1 ≤ (1 : Int32).toInt → 0 ≤ p1.toInt ∧ p1.toInt ≤ 9) ∧ 0 ≤ (1 : Int32).toInt ∧ (1 : Int32).toInt ≤ 1 ∧ 0 ≤ (1 : Int32).toInt ∧ (1 : Int32).toInt ≤ 1 from ⟨(fun _ => ⟨by omega, by omega⟩), (by omega), (by omega), (by omega), (by omega)⟩) hG hS dX2_isVerse_17
theorem dX1_singVerse_0 : decode cX1_singVerse 0 = .ok (.aload_n 0, 1) := by decide +kernel
theorem dX1_singVerse_1 : decode cX1_singVerse 1 = .ok (.getfield 32, 3) := by decide +kernel
theorem dX1_singVerse_4 : decode cX1_singVerse 4 = .ok (.iload_n 1, 1) := by decide +kernel
theorem dX1_singVerse_5 : decode cX1_singVerse 5 = .ok (.invokevirtual 72, 3) := by decide +kernel
theorem dX1_singVerse_8 : decode cX1_singVerse 8 = .ok (.ifCond .ne 6, 3) := by decide +kernel
theorem dX1_singVerse_14 : decode cX1_singVerse 14 = .ok (.aload_n 0, 1) := by decide +kernel
theorem dX1_singVerse_15 : decode cX1_singVerse 15 = .ok (.getfield 32, 3) := by decide +kernel
theorem dX1_singVerse_18 : decode cX1_singVerse 18 = .ok (.getfield 50, 3) := by decide +kernel
theorem dX1_singVerse_21 : decode cX1_singVerse 21 = .ok (.invokevirtual 53, 3) := by decide +kernel
theorem dX1_singVerse_24 : decode cX1_singVerse 24 = .ok (.ifCond .eq 21, 3) := by decide +kernel
theorem dX1_singVerse_45 : decode cX1_singVerse 45 = .ok (.bipush (-3), 2) := by decide +kernel
theorem dX1_singVerse_47 : decode cX1_singVerse 47 = .ok (.ireturn, 1) := by decide +kernel
theorem dX1_singVerse_27 : decode cX1_singVerse 27 = .ok (.aload_n 0, 1) := by decide +kernel
theorem dX1_singVerse_28 : decode cX1_singVerse 28 = .ok (.getfield 36, 3) := by decide +kernel
theorem dX1_singVerse_31 : decode cX1_singVerse 31 = .ok (.aload_n 0, 1) := by decide +kernel
theorem dX1_singVerse_32 : decode cX1_singVerse 32 = .ok (.getfield 32, 3) := by decide +kernel
theorem dX1_singVerse_35 : decode cX1_singVerse 35 = .ok (.getfield 50, 3) := by decide +kernel
theorem dX1_singVerse_38 : decode cX1_singVerse 38 = .ok (.iload_n 1, 1) := by decide +kernel
theorem dX1_singVerse_39 : decode cX1_singVerse 39 = .ok (.invokevirtual 75, 3) := by decide +kernel
theorem dX1_singVerse_42 : decode cX1_singVerse 42 = .ok (.ifCond .eq 6, 3) := by decide +kernel
theorem dX1_singVerse_48 : decode cX1_singVerse 48 = .ok (.aload_n 0, 1) := by decide +kernel
theorem dX1_singVerse_49 : decode cX1_singVerse 49 = .ok (.iconst 1, 1) := by decide +kernel
theorem dX1_singVerse_50 : decode cX1_singVerse 50 = .ok (.invokevirtual 64, 3) := by decide +kernel
theorem dX1_singVerse_53 : decode cX1_singVerse 53 = .ok (.aload_n 0, 1) := by decide +kernel
theorem dX1_singVerse_54 : decode cX1_singVerse 54 = .ok (.getfield 36, 3) := by decide +kernel
theorem dX1_singVerse_57 : decode cX1_singVerse 57 = .ok (.aload_n 0, 1) := by decide +kernel
theorem dX1_singVerse_58 : decode cX1_singVerse 58 = .ok (.getfield 32, 3) := by decide +kernel
theorem dX1_singVerse_61 : decode cX1_singVerse 61 = .ok (.getfield 50, 3) := by decide +kernel
theorem dX1_singVerse_64 : decode cX1_singVerse 64 = .ok (.iload_n 1, 1) := by decide +kernel
theorem dX1_singVerse_65 : decode cX1_singVerse 65 = .ok (.invokevirtual 81, 3) := by decide +kernel
theorem dX1_singVerse_68 : decode cX1_singVerse 68 = .ok (.ireturn, 1) := by decide +kernel
theorem dX1_singVerse_11 : decode cX1_singVerse 11 = .ok (.bipush (-2), 2) := by decide +kernel
theorem dX1_singVerse_13 : decode cX1_singVerse 13 = .ok (.ireturn, 1) := by decide +kernel
set_option maxHeartbeats 4000000 in
set_option maxRecDepth 100000 in
theorem k_X1_singVerse (l : Launch) (D : va_G) (cy : Nat → ClassId) (ld : Nat → Nat) (t : tk_T) (a0 : Nat) (p1 : Int32) (ht_a0 : t a0 = (2, 0, 0)) : Met l yX1_singVerse (wl yX1_singVerse cX1_singVerse 2 (some .int)) ({ frames := 7, cells := 0, slots := 0, locals := 420 }) (tp D cy ld t [] [.ref a0, .int p1] (fun H => True)) (ti D cy ld t [] (fun r H => True) (tk_w t [(20, 0, 0), (12, 0, 0), (9, 0, 0), (2, 0, 0), (20, 1, 1), (10, 1, 1), (10, 0, 0)])) 0 0 (tk_w t [(20, 0, 0), (12, 0, 0), (9, 0, 0), (2, 0, 0), (20, 1, 1), (10, 1, 1), (10, 0, 0)]) := by
  refine tk_met (y := yX1_singVerse) (cc := cX1_singVerse) (maxL := 2) (ret := (some .int)) (av := [.ref a0, .int p1]) _ _ (by decide) (Nat.le_of_ble_eq_true rfl) ?_
  intro p e s m args below meth c hx hb hr hml hts htl hown hlocks hK H locs hH hG hS hB hZ ls hl
  have hown : s.vm.findClass RX1 = some m.cls := hown
  have hl : lv_has ls 2 [(0, .ref a0), (1, .int p1)] := hl
  have hr_p1 := tk_rng p1
  refine lv_aload_n hx hb dX1_singVerse_0 rfl (lv_at hl 0 rfl) ?_
  refine tk_get (ci := 1) (C := RX1) (T := TX1) (N := 11) (sp := (8, 20, 3, 0)) hx hb htl inX1 hown hK hG ht_a0 (by decide) tk_no rfl 1 (by decide) (htl _ mw_114) (fun _ h9 => h9) rfl dX1_singVerse_1 (fun v9 hf1 hV9 => ?_)
  obtain ⟨rfl, ht_ld20⟩ := hV9
  have ht_ld20 : t (ld 20) = (3, 0, 0) := ht_ld20
  refine fx_top (v := .ref (ld 20)) rfl ?_
  refine lv_iload_n hx hb dX1_singVerse_4 rfl (lv_at hl 1 rfl) ?_
  refine tk_Vi (As := [.int p1]) (rest := []) (ci := 2) ⟨hx, hb, hml, hown, hts⟩ hK hG hZ hS (k_X2_isVerse l D cy ld t (ld 20) p1 ht_ld20) trivial ⟨callB_of 1 hts (wl_in mw_352) rfl rfl rfl (htl _ mw_14) (htl _ mw_897) hd_yX2_isVerse ⟨(Nat.le_of_ble_eq_true rfl), (Nat.le_of_ble_eq_true rfl)⟩, htl _ mw_350, htl _ mw_351⟩ ht_ld20 (by decide) tk_no rfl (tk_w.pick [] rfl) rfl hl.1 rfl (Nat.le_of_ble_eq_true rfl) dX1_singVerse_5 ⟨(Nat.le_of_ble_eq_true rfl), (Nat.le_of_ble_eq_true rfl)⟩ (fun v2 H locs hpo hG hS hq9 => ?_)
  obtain ⟨hpo4, hpo5, hpo6, hpo7, hpo8⟩ := hpo
  refine lv_if_ne (tgt := 14) hx hb dX1_singVerse_8 (by decide) (fun c9 => ?_) (fun c9 => ?_)
  · have hc9 : ¬ (v2.toInt = 0) := fun h9 => c9 ((fi_eq rfl (show (0 : Int32).toInt = 0 by decide)).mpr h9)
    refine lv_aload_n hx hb dX1_singVerse_14 rfl (lv_at hl 0 rfl) ?_
    refine tk_get (ci := 1) (C := RX1) (T := TX1) (N := 11) (sp := (8, 20, 3, 0)) hx hb htl inX1 hown hK hG ht_a0 (by decide) tk_no rfl 1 (by decide) (htl _ mw_114) (fun _ h9 => h9) rfl dX1_singVerse_15 (fun v9 hf10 hV9 => ?_)
    obtain ⟨rfl, ht_ld20⟩ := hV9
    have ht_ld20 : t (ld 20) = (3, 0, 0) := ht_ld20
    refine fx_top (v := .ref (ld 20)) rfl ?_
    refine tk_get (ci := 2) (C := RX2) (T := TX2) (N := 20) (sp := (9, 40, 10, 0)) hx hb htl inX2 hown hK hG ht_ld20 (by decide) tk_no rfl 19 (by decide) (htl _ mw_814) (fun _ h9 => h9) rfl dX1_singVerse_18 (fun v9 hf11 hV9 => ?_)
    obtain ⟨rfl, ht_ld40⟩ := hV9
    have ht_ld40 : t (ld 40) = (10, 0, 0) := ht_ld40
    refine fx_top (v := .ref (ld 40)) rfl ?_
    obtain ⟨v9, hf12, hV9⟩ := tk_peek (ci := 9) (C := RX9) (T := TX9) (N := 11) (sp := (0, (-1), 7, 0)) hG ht_ld40 (by decide) tk_no rfl 5 (by decide) rfl
    obtain ⟨v13, rfl, (ha_v13 : (-1) ≤ v13.toInt), (hb_v13 : v13.toInt ≤ 7)⟩ := hV9
    refine tk_Vi (As := []) (rest := []) (ci := 9) ⟨hx, hb, hml, hown, hts⟩ hK hG hZ hS (k_X9_isDuel l D cy ld t 0 (ld 40) v13 ht_ld40 (by omega) (by omega)) hf12 ⟨callB_of 0 hts (wl_in mw_840) rfl rfl rfl (htl _ mw_76) (htl _ mw_875) hd_yX9_isDuel ⟨(Nat.le_of_ble_eq_true rfl), (Nat.le_of_ble_eq_true rfl)⟩, htl _ mw_838, htl _ mw_839⟩ ht_ld40 (by decide) tk_no rfl (tk_w.pick [] rfl) rfl hl.1 rfl (Nat.le_of_ble_eq_true rfl) dX1_singVerse_21 ⟨(Nat.le_of_ble_eq_true rfl), (Nat.le_of_ble_eq_true rfl)⟩ (fun v14 H locs hpo hG hS hq9 => ?_)
    have hf12 := hf12.call hq9 tk_w.nil
    obtain ⟨hpo16, hpo17, hpo18, hpo19, hpo20⟩ := hpo
    refine lv_if_eq (tgt := 45) hx hb dX1_singVerse_24 (by decide) (fun c9 => ?_) (fun c9 => ?_)
    · have hc21 : v14.toInt = 0 := (fi_eq rfl (show (0 : Int32).toInt = 0 by decide)).mp c9
      refine lv_bipush (v := (-3)) hx hb dX1_singVerse_45 (by decide) ?_
      have hk_m3 : ((-3) : Int32).toInt = (-3) := by decide
      exact tk_iret (v := (-3)) hx hb hr rfl hlocks trivial hG hS dX1_singVerse_47
    · have hc21 : ¬ (v14.toInt = 0) := fun h9 => c9 ((fi_eq rfl (show (0 : Int32).toInt = 0 by decide)).mpr h9)
      refine lv_aload_n hx hb dX1_singVerse_27 rfl (lv_at hl 0 rfl) ?_
      refine tk_get (ci := 1) (C := RX1) (T := TX1) (N := 11) (sp := (6, 9, 0, 0)) hx hb htl inX1 hown hK hG ht_a0 (by decide) tk_no rfl 2 (by decide) (htl _ mw_115) (fun _ h9 => h9) rfl dX1_singVerse_28 (fun v9 hf22 hV9 => ?_)
      obtain ⟨b23, rfl, ht_b23⟩ := hV9
      have ht_b23 : t b23 = (9, 0, 0) := ht_b23
      refine lv_aload_n hx hb dX1_singVerse_31 rfl (lv_at hl 0 rfl) ?_
      refine tk_get (ci := 1) (C := RX1) (T := TX1) (N := 11) (sp := (8, 20, 3, 0)) hx hb htl inX1 hown hK hG ht_a0 (by decide) tk_no rfl 1 (by decide) (htl _ mw_114) (fun _ h9 => h9) rfl dX1_singVerse_32 (fun v9 hf24 hV9 => ?_)
      obtain ⟨rfl, ht_ld20⟩ := hV9
      have ht_ld20 : t (ld 20) = (3, 0, 0) := ht_ld20
      refine fx_top (v := .ref (ld 20)) rfl ?_
      refine tk_get (ci := 2) (C := RX2) (T := TX2) (N := 20) (sp := (9, 40, 10, 0)) hx hb htl inX2 hown hK hG ht_ld20 (by decide) tk_no rfl 19 (by decide) (htl _ mw_814) (fun _ h9 => h9) rfl dX1_singVerse_35 (fun v9 hf25 hV9 => ?_)
      obtain ⟨rfl, ht_ld40⟩ := hV9
      have ht_ld40 : t (ld 40) = (10, 0, 0) := ht_ld40
      refine fx_top (v := .ref (ld 40)) rfl ?_
      refine lv_iload_n hx hb dX1_singVerse_38 rfl (lv_at hl 1 rfl) ?_
      refine tk_Vi (As := [.ref (ld 40), .int p1]) (rest := []) (ci := 8) ⟨hx, hb, hml, hown, hts⟩ hK hG hZ hS (k_X8_isBarred l D cy ld t 0 b23 (ld 40) p1 v13 ht_b23 ht_ld40 (by omega) (by omega) (by omega) (by omega)) hf12 ⟨callB_of 2 hts (wl_in mw_901) rfl rfl rfl (htl _ mw_21) (htl _ mw_898) hd_yX8_isBarred ⟨(Nat.le_of_ble_eq_true rfl), (Nat.le_of_ble_eq_true rfl)⟩, htl _ mw_899, htl _ mw_900⟩ ht_b23 (by decide) tk_no rfl (tk_w.pick [0, 1, 2] rfl) rfl hl.1 rfl (Nat.le_of_ble_eq_true rfl) dX1_singVerse_39 ⟨(Nat.le_of_ble_eq_true rfl), (Nat.le_of_ble_eq_true rfl)⟩ (fun v26 H locs hpo hG hS hq9 => ?_)
      have hf12 := hf12.call hq9 (tk_w.no ht_ld40 (by decide))
      obtain ⟨hpo28, hpo29, hpo30, hpo31⟩ := hpo
      refine lv_if_eq (tgt := 48) hx hb dX1_singVerse_42 (by decide) (fun c9 => ?_) (fun c9 => ?_)
      · have hc32 : v26.toInt = 0 := (fi_eq rfl (show (0 : Int32).toInt = 0 by decide)).mp c9
        refine lv_aload_n hx hb dX1_singVerse_48 rfl (lv_at hl 0 rfl) ?_
        refine lv_iconst (v := 1) hx hb dX1_singVerse_49 (by decide) ?_
        have hk_1 : (1 : Int32).toInt = 1 := by decide
        refine tk_Vv (As := [.int 1]) (rest := []) (ci := 1) ⟨hx, hb, hml, hown, hts⟩ hK hG hZ hS (k_X1_remember l D cy ld t a0 1 ht_a0) trivial ⟨callB_of 1 hts (wl_in mw_888) rfl rfl rfl (htl _ mw_25) (htl _ mw_885) hd_yX1_remember ⟨(Nat.le_of_ble_eq_true rfl), (Nat.le_of_ble_eq_true rfl)⟩, htl _ mw_886, htl _ mw_887⟩ ht_a0 (by decide) tk_no rfl (tk_w.pick [3, 4, 5, 0] rfl) rfl hl.1 rfl (Nat.le_of_ble_eq_true rfl) dX1_singVerse_50 ⟨(Nat.le_of_ble_eq_true rfl), (Nat.le_of_ble_eq_true rfl)⟩ (fun H locs hpo hG hS hq9 => ?_)
        have hf12 := hf12.call hq9 (tk_w.no ht_ld40 (by decide))
        refine lv_aload_n hx hb dX1_singVerse_53 rfl (lv_at hl 0 rfl) ?_
        refine tk_get (ci := 1) (C := RX1) (T := TX1) (N := 11) (sp := (6, 9, 0, 0)) hx hb htl inX1 hown hK hG ht_a0 (by decide) tk_no rfl 2 (by decide) (htl _ mw_115) (fun _ h9 => h9) rfl dX1_singVerse_54 (fun v9 hf34 hV9 => ?_)
        obtain ⟨b35, rfl, ht_b35⟩ := hV9
        have ht_b35 : t b35 = (9, 0, 0) := ht_b35
        refine lv_aload_n hx hb dX1_singVerse_57 rfl (lv_at hl 0 rfl) ?_
        refine tk_get (ci := 1) (C := RX1) (T := TX1) (N := 11) (sp := (8, 20, 3, 0)) hx hb htl inX1 hown hK hG ht_a0 (by decide) tk_no rfl 1 (by decide) (htl _ mw_114) (fun _ h9 => h9) rfl dX1_singVerse_58 (fun v9 hf36 hV9 => ?_)
        obtain ⟨rfl, ht_ld20⟩ := hV9
        have ht_ld20 : t (ld 20) = (3, 0, 0) := ht_ld20
        refine fx_top (v := .ref (ld 20)) rfl ?_
        refine tk_get (ci := 2) (C := RX2) (T := TX2) (N := 20) (sp := (9, 40, 10, 0)) hx hb htl inX2 hown hK hG ht_ld20 (by decide) tk_no rfl 19 (by decide) (htl _ mw_814) (fun _ h9 => h9) rfl dX1_singVerse_61 (fun v9 hf37 hV9 => ?_)
        obtain ⟨rfl, ht_ld40⟩ := hV9
        have ht_ld40 : t (ld 40) = (10, 0, 0) := ht_ld40
        refine fx_top (v := .ref (ld 40)) rfl ?_
        refine lv_iload_n hx hb dX1_singVerse_64 rfl (lv_at hl 1 rfl) ?_
        refine tk_Vi (As := [.ref (ld 40), .int p1]) (rest := []) (ci := 8) ⟨hx, hb, hml, hown, hts⟩ hK hG hZ hS (k_X8_singOn l D cy ld t 0 b35 (ld 40) p1 v13 ht_b35 ht_ld40 (by omega) (by omega) (by omega) (by omega)) hf12 ⟨callB_of 2 hts (wl_in mw_946) rfl rfl rfl (htl _ mw_21) (htl _ mw_943) hd_yX8_singOn ⟨(Nat.le_of_ble_eq_true rfl), (Nat.le_of_ble_eq_true rfl)⟩, htl _ mw_944, htl _ mw_945⟩ ht_b35 (by decide) tk_no rfl (tk_w.pick [0, 1, 2, 0, 6] rfl) rfl hl.1 rfl (Nat.le_of_ble_eq_true rfl) dX1_singVerse_65 ⟨(Nat.le_of_ble_eq_true rfl), (Nat.le_of_ble_eq_true rfl)⟩ (fun v38 H locs hpo hG hS hq9 => ?_)
        exact tk_iret (v := v38) hx hb hr rfl hlocks trivial hG hS dX1_singVerse_68
      · have hc32 : ¬ (v26.toInt = 0) := fun h9 => c9 ((fi_eq rfl (show (0 : Int32).toInt = 0 by decide)).mpr h9)
        refine lv_bipush (v := (-3)) hx hb dX1_singVerse_45 (by decide) ?_
        have hk_m3 : ((-3) : Int32).toInt = (-3) := by decide
        exact tk_iret (v := (-3)) hx hb hr rfl hlocks trivial hG hS dX1_singVerse_47
  · have hc9 : v2.toInt = 0 := (fi_eq rfl (show (0 : Int32).toInt = 0 by decide)).mp c9
    refine lv_bipush (v := (-2)) hx hb dX1_singVerse_11 (by decide) ?_
    have hk_m2 : ((-2) : Int32).toInt = (-2) := by decide
    exact tk_iret (v := (-2)) hx hb hr rfl hlocks trivial hG hS dX1_singVerse_13
theorem dX1_leaveDuel_0 : decode cX1_leaveDuel 0 = .ok (.aload_n 0, 1) := by decide +kernel
theorem dX1_leaveDuel_1 : decode cX1_leaveDuel 1 = .ok (.getfield 32, 3) := by decide +kernel
theorem dX1_leaveDuel_4 : decode cX1_leaveDuel 4 = .ok (.getfield 50, 3) := by decide +kernel
theorem dX1_leaveDuel_7 : decode cX1_leaveDuel 7 = .ok (.invokevirtual 53, 3) := by decide +kernel
theorem dX1_leaveDuel_10 : decode cX1_leaveDuel 10 = .ok (.ifCond .ne 6, 3) := by decide +kernel
theorem dX1_leaveDuel_16 : decode cX1_leaveDuel 16 = .ok (.aload_n 0, 1) := by decide +kernel
theorem dX1_leaveDuel_17 : decode cX1_leaveDuel 17 = .ok (.iconst 2, 1) := by decide +kernel
theorem dX1_leaveDuel_18 : decode cX1_leaveDuel 18 = .ok (.invokevirtual 64, 3) := by decide +kernel
theorem dX1_leaveDuel_21 : decode cX1_leaveDuel 21 = .ok (.aload_n 0, 1) := by decide +kernel
theorem dX1_leaveDuel_22 : decode cX1_leaveDuel 22 = .ok (.getfield 32, 3) := by decide +kernel
theorem dX1_leaveDuel_25 : decode cX1_leaveDuel 25 = .ok (.getfield 50, 3) := by decide +kernel
theorem dX1_leaveDuel_28 : decode cX1_leaveDuel 28 = .ok (.invokevirtual 85, 3) := by decide +kernel
theorem dX1_leaveDuel_31 : decode cX1_leaveDuel 31 = .ok (.aload_n 0, 1) := by decide +kernel
theorem dX1_leaveDuel_32 : decode cX1_leaveDuel 32 = .ok (.getfield 32, 3) := by decide +kernel
theorem dX1_leaveDuel_35 : decode cX1_leaveDuel 35 = .ok (.getfield 50, 3) := by decide +kernel
theorem dX1_leaveDuel_38 : decode cX1_leaveDuel 38 = .ok (.getfield 88, 3) := by decide +kernel
theorem dX1_leaveDuel_41 : decode cX1_leaveDuel 41 = .ok (.ireturn, 1) := by decide +kernel
theorem dX1_leaveDuel_13 : decode cX1_leaveDuel 13 = .ok (.bipush (-3), 2) := by decide +kernel
theorem dX1_leaveDuel_15 : decode cX1_leaveDuel 15 = .ok (.ireturn, 1) := by decide +kernel
set_option maxHeartbeats 4000000 in
set_option maxRecDepth 100000 in
theorem k_X1_leaveDuel (l : Launch) (D : va_G) (cy : Nat → ClassId) (ld : Nat → Nat) (t : tk_T) (a0 : Nat) (ht_a0 : t a0 = (2, 0, 0)) : Met l yX1_leaveDuel (wl yX1_leaveDuel cX1_leaveDuel 1 (some .int)) ({ frames := 6, cells := 0, slots := 0, locals := 350 }) (tp D cy ld t [] [.ref a0] (fun H => True)) (ti D cy ld t [] (fun r H => True) (tk_w t [(2, 0, 0), (20, 1, 1), (10, 1, 1), (20, 0, 0), (10, 0, 0)])) 0 0 (tk_w t [(2, 0, 0), (20, 1, 1), (10, 1, 1), (20, 0, 0), (10, 0, 0)]) := by
  refine tk_met (y := yX1_leaveDuel) (cc := cX1_leaveDuel) (maxL := 1) (ret := (some .int)) (av := [.ref a0]) _ _ (by decide) (Nat.le_of_ble_eq_true rfl) ?_
  intro p e s m args below meth c hx hb hr hml hts htl hown hlocks hK H locs hH hG hS hB hZ ls hl
  have hown : s.vm.findClass RX1 = some m.cls := hown
  have hl : lv_has ls 1 [(0, .ref a0)] := hl
  refine lv_aload_n hx hb dX1_leaveDuel_0 rfl (lv_at hl 0 rfl) ?_
  refine tk_get (ci := 1) (C := RX1) (T := TX1) (N := 11) (sp := (8, 20, 3, 0)) hx hb htl inX1 hown hK hG ht_a0 (by decide) tk_no rfl 1 (by decide) (htl _ mw_114) (fun _ h9 => h9) rfl dX1_leaveDuel_1 (fun v9 hf1 hV9 => ?_)
  obtain ⟨rfl, ht_ld20⟩ := hV9
  have ht_ld20 : t (ld 20) = (3, 0, 0) := ht_ld20
  refine fx_top (v := .ref (ld 20)) rfl ?_
  refine tk_get (ci := 2) (C := RX2) (T := TX2) (N := 20) (sp := (9, 40, 10, 0)) hx hb htl inX2 hown hK hG ht_ld20 (by decide) tk_no rfl 19 (by decide) (htl _ mw_814) (fun _ h9 => h9) rfl dX1_leaveDuel_4 (fun v9 hf2 hV9 => ?_)
  obtain ⟨rfl, ht_ld40⟩ := hV9
  have ht_ld40 : t (ld 40) = (10, 0, 0) := ht_ld40
  refine fx_top (v := .ref (ld 40)) rfl ?_
  obtain ⟨v9, hf3, hV9⟩ := tk_peek (ci := 9) (C := RX9) (T := TX9) (N := 11) (sp := (0, (-1), 7, 0)) hG ht_ld40 (by decide) tk_no rfl 5 (by decide) rfl
  obtain ⟨v4, rfl, (ha_v4 : (-1) ≤ v4.toInt), (hb_v4 : v4.toInt ≤ 7)⟩ := hV9
  refine tk_Vi (As := []) (rest := []) (ci := 9) ⟨hx, hb, hml, hown, hts⟩ hK hG hZ hS (k_X9_isDuel l D cy ld t 0 (ld 40) v4 ht_ld40 (by omega) (by omega)) hf3 ⟨callB_of 0 hts (wl_in mw_840) rfl rfl rfl (htl _ mw_76) (htl _ mw_875) hd_yX9_isDuel ⟨(Nat.le_of_ble_eq_true rfl), (Nat.le_of_ble_eq_true rfl)⟩, htl _ mw_838, htl _ mw_839⟩ ht_ld40 (by decide) tk_no rfl (tk_w.pick [] rfl) rfl hl.1 rfl (Nat.le_of_ble_eq_true rfl) dX1_leaveDuel_7 ⟨(Nat.le_of_ble_eq_true rfl), (Nat.le_of_ble_eq_true rfl)⟩ (fun v5 H locs hpo hG hS hq9 => ?_)
  have hf3 := hf3.call hq9 tk_w.nil
  obtain ⟨hpo7, hpo8, hpo9, hpo10, hpo11⟩ := hpo
  refine lv_if_ne (tgt := 16) hx hb dX1_leaveDuel_10 (by decide) (fun c9 => ?_) (fun c9 => ?_)
  · have hc12 : ¬ (v5.toInt = 0) := fun h9 => c9 ((fi_eq rfl (show (0 : Int32).toInt = 0 by decide)).mpr h9)
    refine lv_aload_n hx hb dX1_leaveDuel_16 rfl (lv_at hl 0 rfl) ?_
    refine lv_iconst (v := 2) hx hb dX1_leaveDuel_17 (by decide) ?_
    have hk_2 : (2 : Int32).toInt = 2 := by decide
    refine tk_Vv (As := [.int 2]) (rest := []) (ci := 1) ⟨hx, hb, hml, hown, hts⟩ hK hG hZ hS (k_X1_remember l D cy ld t a0 2 ht_a0) trivial ⟨callB_of 1 hts (wl_in mw_888) rfl rfl rfl (htl _ mw_25) (htl _ mw_885) hd_yX1_remember ⟨(Nat.le_of_ble_eq_true rfl), (Nat.le_of_ble_eq_true rfl)⟩, htl _ mw_886, htl _ mw_887⟩ ht_a0 (by decide) tk_no rfl (tk_w.pick [0, 1, 2, 3] rfl) rfl hl.1 rfl (Nat.le_of_ble_eq_true rfl) dX1_leaveDuel_18 ⟨(Nat.le_of_ble_eq_true rfl), (Nat.le_of_ble_eq_true rfl)⟩ (fun H locs hpo hG hS hq9 => ?_)
    have hf3 := hf3.call hq9 (tk_w.no ht_ld40 (by decide))
    refine lv_aload_n hx hb dX1_leaveDuel_21 rfl (lv_at hl 0 rfl) ?_
    refine tk_get (ci := 1) (C := RX1) (T := TX1) (N := 11) (sp := (8, 20, 3, 0)) hx hb htl inX1 hown hK hG ht_a0 (by decide) tk_no rfl 1 (by decide) (htl _ mw_114) (fun _ h9 => h9) rfl dX1_leaveDuel_22 (fun v9 hf14 hV9 => ?_)
    obtain ⟨rfl, ht_ld20⟩ := hV9
    have ht_ld20 : t (ld 20) = (3, 0, 0) := ht_ld20
    refine fx_top (v := .ref (ld 20)) rfl ?_
    refine tk_get (ci := 2) (C := RX2) (T := TX2) (N := 20) (sp := (9, 40, 10, 0)) hx hb htl inX2 hown hK hG ht_ld20 (by decide) tk_no rfl 19 (by decide) (htl _ mw_814) (fun _ h9 => h9) rfl dX1_leaveDuel_25 (fun v9 hf15 hV9 => ?_)
    obtain ⟨rfl, ht_ld40⟩ := hV9
    have ht_ld40 : t (ld 40) = (10, 0, 0) := ht_ld40
    refine fx_top (v := .ref (ld 40)) rfl ?_
    refine tk_Vv (As := []) (rest := []) (ci := 9) ⟨hx, hb, hml, hown, hts⟩ hK hG hZ hS (k_X9_closeDuel l D cy ld t 0 (ld 40) ht_ld40) trivial ⟨callB_of 0 hts (wl_in mw_975) rfl rfl rfl (htl _ mw_76) (htl _ mw_986) hd_yX9_closeDuel ⟨(Nat.le_of_ble_eq_true rfl), (Nat.le_of_ble_eq_true rfl)⟩, htl _ mw_973, htl _ mw_974⟩ ht_ld40 (by decide) tk_no rfl (tk_w.pick [4] rfl) rfl hl.1 rfl (Nat.le_of_ble_eq_true rfl) dX1_leaveDuel_28 ⟨(Nat.le_of_ble_eq_true rfl), (Nat.le_of_ble_eq_true rfl)⟩ (fun H locs hpo hG hS hq9 => ?_)
    have hf17 := hpo
    refine lv_aload_n hx hb dX1_leaveDuel_31 rfl (lv_at hl 0 rfl) ?_
    refine tk_get (ci := 1) (C := RX1) (T := TX1) (N := 11) (sp := (8, 20, 3, 0)) hx hb htl inX1 hown hK hG ht_a0 (by decide) tk_no rfl 1 (by decide) (htl _ mw_114) (fun _ h9 => h9) rfl dX1_leaveDuel_32 (fun v9 hf18 hV9 => ?_)
    obtain ⟨rfl, ht_ld20⟩ := hV9
    have ht_ld20 : t (ld 20) = (3, 0, 0) := ht_ld20
    refine fx_top (v := .ref (ld 20)) rfl ?_
    refine tk_get (ci := 2) (C := RX2) (T := TX2) (N := 20) (sp := (9, 40, 10, 0)) hx hb htl inX2 hown hK hG ht_ld20 (by decide) tk_no rfl 19 (by decide) (htl _ mw_814) (fun _ h9 => h9) rfl dX1_leaveDuel_35 (fun v9 hf19 hV9 => ?_)
    obtain ⟨rfl, ht_ld40⟩ := hV9
    have ht_ld40 : t (ld 40) = (10, 0, 0) := ht_ld40
    refine fx_top (v := .ref (ld 40)) rfl ?_
    refine tk_get (ci := 9) (C := RX9) (T := TX9) (N := 11) (sp := (0, (-2147483648), 2147483647, 0)) hx hb htl inX9 hown hK hG ht_ld40 (by decide) tk_no rfl 7 (by decide) (htl _ mw_985) (fun _ h9 => h9) rfl dX1_leaveDuel_38 (fun v9 hf20 hV9 => ?_)
    obtain ⟨v21, rfl, (ha_v21 : (-2147483648) ≤ v21.toInt), (hb_v21 : v21.toInt ≤ 2147483647)⟩ := hV9
    exact tk_iret (v := v21) hx hb hr rfl hlocks trivial hG hS dX1_leaveDuel_41
  · have hc12 : v5.toInt = 0 := (fi_eq rfl (show (0 : Int32).toInt = 0 by decide)).mp c9
    refine lv_bipush (v := (-3)) hx hb dX1_leaveDuel_13 (by decide) ?_
    have hk_m3 : ((-3) : Int32).toInt = (-3) := by decide
    exact tk_iret (v := (-3)) hx hb hr rfl hlocks trivial hG hS dX1_leaveDuel_15
theorem dX1_nextDay_0 : decode cX1_nextDay 0 = .ok (.aload_n 0, 1) := by decide +kernel
theorem dX1_nextDay_1 : decode cX1_nextDay 1 = .ok (.getfield 32, 3) := by decide +kernel
theorem dX1_nextDay_4 : decode cX1_nextDay 4 = .ok (.getfield 50, 3) := by decide +kernel
theorem dX1_nextDay_7 : decode cX1_nextDay 7 = .ok (.invokevirtual 53, 3) := by decide +kernel
theorem dX1_nextDay_10 : decode cX1_nextDay 10 = .ok (.ifCond .ne 19, 3) := by decide +kernel
theorem dX1_nextDay_29 : decode cX1_nextDay 29 = .ok (.bipush (-3), 2) := by decide +kernel
theorem dX1_nextDay_31 : decode cX1_nextDay 31 = .ok (.ireturn, 1) := by decide +kernel
theorem dX1_nextDay_13 : decode cX1_nextDay 13 = .ok (.aload_n 0, 1) := by decide +kernel
theorem dX1_nextDay_14 : decode cX1_nextDay 14 = .ok (.getfield 32, 3) := by decide +kernel
theorem dX1_nextDay_17 : decode cX1_nextDay 17 = .ok (.getfield 50, 3) := by decide +kernel
theorem dX1_nextDay_20 : decode cX1_nextDay 20 = .ok (.getfield 92, 3) := by decide +kernel
theorem dX1_nextDay_23 : decode cX1_nextDay 23 = .ok (.sipush 999, 3) := by decide +kernel
theorem dX1_nextDay_26 : decode cX1_nextDay 26 = .ok (.if_icmp .lt 6, 3) := by decide +kernel
theorem dX1_nextDay_32 : decode cX1_nextDay 32 = .ok (.aload_n 0, 1) := by decide +kernel
theorem dX1_nextDay_33 : decode cX1_nextDay 33 = .ok (.iconst 3, 1) := by decide +kernel
theorem dX1_nextDay_34 : decode cX1_nextDay 34 = .ok (.invokevirtual 64, 3) := by decide +kernel
theorem dX1_nextDay_37 : decode cX1_nextDay 37 = .ok (.aload_n 0, 1) := by decide +kernel
theorem dX1_nextDay_38 : decode cX1_nextDay 38 = .ok (.getfield 36, 3) := by decide +kernel
theorem dX1_nextDay_41 : decode cX1_nextDay 41 = .ok (.aload_n 0, 1) := by decide +kernel
theorem dX1_nextDay_42 : decode cX1_nextDay 42 = .ok (.getfield 32, 3) := by decide +kernel
theorem dX1_nextDay_45 : decode cX1_nextDay 45 = .ok (.getfield 50, 3) := by decide +kernel
theorem dX1_nextDay_48 : decode cX1_nextDay 48 = .ok (.invokevirtual 95, 3) := by decide +kernel
theorem dX1_nextDay_51 : decode cX1_nextDay 51 = .ok (.ireturn, 1) := by decide +kernel
set_option maxHeartbeats 4000000 in
set_option maxRecDepth 100000 in
theorem k_X1_nextDay (l : Launch) (D : va_G) (cy : Nat → ClassId) (ld : Nat → Nat) (t : tk_T) (a0 : Nat) (ht_a0 : t a0 = (2, 0, 0)) : Met l yX1_nextDay (wl yX1_nextDay cX1_nextDay 1 (some .int)) ({ frames := 7, cells := 0, slots := 0, locals := 420 }) (tp D cy ld t [] [.ref a0] (fun H => True)) (ti D cy ld t [] (fun r H => True) (tk_w t [(2, 0, 0), (20, 1, 1), (10, 1, 1), (20, 0, 0), (10, 0, 0), (12, 0, 0), (9, 0, 0)])) 0 0 (tk_w t [(2, 0, 0), (20, 1, 1), (10, 1, 1), (20, 0, 0), (10, 0, 0), (12, 0, 0), (9, 0, 0)]) := by
  refine tk_met (y := yX1_nextDay) (cc := cX1_nextDay) (maxL := 1) (ret := (some .int)) (av := [.ref a0]) _ _ (by decide) (Nat.le_of_ble_eq_true rfl) ?_
  intro p e s m args below meth c hx hb hr hml hts htl hown hlocks hK H locs hH hG hS hB hZ ls hl
  have hown : s.vm.findClass RX1 = some m.cls := hown
  have hl : lv_has ls 1 [(0, .ref a0)] := hl
  refine lv_aload_n hx hb dX1_nextDay_0 rfl (lv_at hl 0 rfl) ?_
  refine tk_get (ci := 1) (C := RX1) (T := TX1) (N := 11) (sp := (8, 20, 3, 0)) hx hb htl inX1 hown hK hG ht_a0 (by decide) tk_no rfl 1 (by decide) (htl _ mw_114) (fun _ h9 => h9) rfl dX1_nextDay_1 (fun v9 hf1 hV9 => ?_)
  obtain ⟨rfl, ht_ld20⟩ := hV9
  have ht_ld20 : t (ld 20) = (3, 0, 0) := ht_ld20
  refine fx_top (v := .ref (ld 20)) rfl ?_
  refine tk_get (ci := 2) (C := RX2) (T := TX2) (N := 20) (sp := (9, 40, 10, 0)) hx hb htl inX2 hown hK hG ht_ld20 (by decide) tk_no rfl 19 (by decide) (htl _ mw_814) (fun _ h9 => h9) rfl dX1_nextDay_4 (fun v9 hf2 hV9 => ?_)
  obtain ⟨rfl, ht_ld40⟩ := hV9
  have ht_ld40 : t (ld 40) = (10, 0, 0) := ht_ld40
  refine fx_top (v := .ref (ld 40)) rfl ?_
  obtain ⟨v9, hf3, hV9⟩ := tk_peek (ci := 9) (C := RX9) (T := TX9) (N := 11) (sp := (0, (-1), 7, 0)) hG ht_ld40 (by decide) tk_no rfl 5 (by decide) rfl
  obtain ⟨v4, rfl, (ha_v4 : (-1) ≤ v4.toInt), (hb_v4 : v4.toInt ≤ 7)⟩ := hV9
  refine tk_Vi (As := []) (rest := []) (ci := 9) ⟨hx, hb, hml, hown, hts⟩ hK hG hZ hS (k_X9_isDuel l D cy ld t 0 (ld 40) v4 ht_ld40 (by omega) (by omega)) hf3 ⟨callB_of 0 hts (wl_in mw_840) rfl rfl rfl (htl _ mw_76) (htl _ mw_875) hd_yX9_isDuel ⟨(Nat.le_of_ble_eq_true rfl), (Nat.le_of_ble_eq_true rfl)⟩, htl _ mw_838, htl _ mw_839⟩ ht_ld40 (by decide) tk_no rfl (tk_w.pick [] rfl) rfl hl.1 rfl (Nat.le_of_ble_eq_true rfl) dX1_nextDay_7 ⟨(Nat.le_of_ble_eq_true rfl), (Nat.le_of_ble_eq_true rfl)⟩ (fun v5 H locs hpo hG hS hq9 => ?_)
  have hf3 := hf3.call hq9 tk_w.nil
  obtain ⟨hpo7, hpo8, hpo9, hpo10, hpo11⟩ := hpo
  refine lv_if_ne (tgt := 29) hx hb dX1_nextDay_10 (by decide) (fun c9 => ?_) (fun c9 => ?_)
  · have hc12 : ¬ (v5.toInt = 0) := fun h9 => c9 ((fi_eq rfl (show (0 : Int32).toInt = 0 by decide)).mpr h9)
    refine lv_bipush (v := (-3)) hx hb dX1_nextDay_29 (by decide) ?_
    have hk_m3 : ((-3) : Int32).toInt = (-3) := by decide
    exact tk_iret (v := (-3)) hx hb hr rfl hlocks trivial hG hS dX1_nextDay_31
  · have hc12 : v5.toInt = 0 := (fi_eq rfl (show (0 : Int32).toInt = 0 by decide)).mp c9
    refine lv_aload_n hx hb dX1_nextDay_13 rfl (lv_at hl 0 rfl) ?_
    refine tk_get (ci := 1) (C := RX1) (T := TX1) (N := 11) (sp := (8, 20, 3, 0)) hx hb htl inX1 hown hK hG ht_a0 (by decide) tk_no rfl 1 (by decide) (htl _ mw_114) (fun _ h9 => h9) rfl dX1_nextDay_14 (fun v9 hf13 hV9 => ?_)
    obtain ⟨rfl, ht_ld20⟩ := hV9
    have ht_ld20 : t (ld 20) = (3, 0, 0) := ht_ld20
    refine fx_top (v := .ref (ld 20)) rfl ?_
    refine tk_get (ci := 2) (C := RX2) (T := TX2) (N := 20) (sp := (9, 40, 10, 0)) hx hb htl inX2 hown hK hG ht_ld20 (by decide) tk_no rfl 19 (by decide) (htl _ mw_814) (fun _ h9 => h9) rfl dX1_nextDay_17 (fun v9 hf14 hV9 => ?_)
    obtain ⟨rfl, ht_ld40⟩ := hV9
    have ht_ld40 : t (ld 40) = (10, 0, 0) := ht_ld40
    refine fx_top (v := .ref (ld 40)) rfl ?_
    refine tk_get (ci := 9) (C := RX9) (T := TX9) (N := 11) (sp := (0, (-2147483648), 2147483647, 0)) hx hb htl inX9 hown hK hG ht_ld40 (by decide) tk_no rfl 4 (by decide) (htl _ mw_991) (fun _ h9 => h9) rfl dX1_nextDay_20 (fun v9 hf15 hV9 => ?_)
    obtain ⟨v16, rfl, (ha_v16 : (-2147483648) ≤ v16.toInt), (hb_v16 : v16.toInt ≤ 2147483647)⟩ := hV9
    refine lv_sipush (v := 999) hx hb dX1_nextDay_23 (by decide) ?_
    refine lv_icmp_lt (tgt := 32) hx hb dX1_nextDay_26 (by decide) (fun c9 => ?_) (fun c9 => ?_)
    · have hc17 : v16.toInt < 999 := (fi_lt rfl (show (999 : Int32).toInt = 999 by decide)).mp c9
      refine lv_aload_n hx hb dX1_nextDay_32 rfl (lv_at hl 0 rfl) ?_
      refine lv_iconst (v := 3) hx hb dX1_nextDay_33 (by decide) ?_
      have hk_3 : (3 : Int32).toInt = 3 := by decide
      refine tk_Vv (As := [.int 3]) (rest := []) (ci := 1) ⟨hx, hb, hml, hown, hts⟩ hK hG hZ hS (k_X1_remember l D cy ld t a0 3 ht_a0) trivial ⟨callB_of 1 hts (wl_in mw_888) rfl rfl rfl (htl _ mw_25) (htl _ mw_885) hd_yX1_remember ⟨(Nat.le_of_ble_eq_true rfl), (Nat.le_of_ble_eq_true rfl)⟩, htl _ mw_886, htl _ mw_887⟩ ht_a0 (by decide) tk_no rfl (tk_w.pick [0, 1, 2, 3] rfl) rfl hl.1 rfl (Nat.le_of_ble_eq_true rfl) dX1_nextDay_34 ⟨(Nat.le_of_ble_eq_true rfl), (Nat.le_of_ble_eq_true rfl)⟩ (fun H locs hpo hG hS hq9 => ?_)
      have hf3 := hf3.call hq9 (tk_w.no ht_ld40 (by decide))
      refine lv_aload_n hx hb dX1_nextDay_37 rfl (lv_at hl 0 rfl) ?_
      refine tk_get (ci := 1) (C := RX1) (T := TX1) (N := 11) (sp := (6, 9, 0, 0)) hx hb htl inX1 hown hK hG ht_a0 (by decide) tk_no rfl 2 (by decide) (htl _ mw_115) (fun _ h9 => h9) rfl dX1_nextDay_38 (fun v9 hf19 hV9 => ?_)
      obtain ⟨b20, rfl, ht_b20⟩ := hV9
      have ht_b20 : t b20 = (9, 0, 0) := ht_b20
      refine lv_aload_n hx hb dX1_nextDay_41 rfl (lv_at hl 0 rfl) ?_
      refine tk_get (ci := 1) (C := RX1) (T := TX1) (N := 11) (sp := (8, 20, 3, 0)) hx hb htl inX1 hown hK hG ht_a0 (by decide) tk_no rfl 1 (by decide) (htl _ mw_114) (fun _ h9 => h9) rfl dX1_nextDay_42 (fun v9 hf21 hV9 => ?_)
      obtain ⟨rfl, ht_ld20⟩ := hV9
      have ht_ld20 : t (ld 20) = (3, 0, 0) := ht_ld20
      refine fx_top (v := .ref (ld 20)) rfl ?_
      refine tk_get (ci := 2) (C := RX2) (T := TX2) (N := 20) (sp := (9, 40, 10, 0)) hx hb htl inX2 hown hK hG ht_ld20 (by decide) tk_no rfl 19 (by decide) (htl _ mw_814) (fun _ h9 => h9) rfl dX1_nextDay_45 (fun v9 hf22 hV9 => ?_)
      obtain ⟨rfl, ht_ld40⟩ := hV9
      have ht_ld40 : t (ld 40) = (10, 0, 0) := ht_ld40
      refine fx_top (v := .ref (ld 40)) rfl ?_
      refine tk_Vi (As := [.ref (ld 40)]) (rest := []) (ci := 8) ⟨hx, hb, hml, hown, hts⟩ hK hG hZ hS (k_X8_dawnOn l D cy ld t 0 b20 (ld 40) ht_b20 ht_ld40) trivial ⟨callB_of 1 hts (wl_in mw_995) rfl rfl rfl (htl _ mw_21) (htl _ mw_992) hd_yX8_dawnOn ⟨(Nat.le_of_ble_eq_true rfl), (Nat.le_of_ble_eq_true rfl)⟩, htl _ mw_993, htl _ mw_994⟩ ht_b20 (by decide) tk_no rfl (tk_w.pick [4, 3, 5, 6, 3] rfl) rfl hl.1 rfl (Nat.le_of_ble_eq_true rfl) dX1_nextDay_48 ⟨(Nat.le_of_ble_eq_true rfl), (Nat.le_of_ble_eq_true rfl)⟩ (fun v23 H locs hpo hG hS hq9 => ?_)
      exact tk_iret (v := v23) hx hb hr rfl hlocks trivial hG hS dX1_nextDay_51
    · have hc17 : ¬ (v16.toInt < 999) := fun h9 => c9 ((fi_lt rfl (show (999 : Int32).toInt = 999 by decide)).mpr h9)
      refine lv_bipush (v := (-3)) hx hb dX1_nextDay_29 (by decide) ?_
      have hk_m3 : ((-3) : Int32).toInt = (-3) := by decide
      exact tk_iret (v := (-3)) hx hb hr rfl hlocks trivial hG hS dX1_nextDay_31
