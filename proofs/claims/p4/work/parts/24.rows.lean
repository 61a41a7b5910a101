theorem dX12_duel_0 : decode cX12_duel 0 = .ok (.aload_n 0, 1) := by decide +kernel
theorem dX12_duel_1 : decode cX12_duel 1 = .ok (.getfield 10, 3) := by decide +kernel
theorem dX12_duel_4 : decode cX12_duel 4 = .ok (.getfield 118, 3) := by decide +kernel
theorem dX12_duel_7 : decode cX12_duel 7 = .ok (.astore_n 2, 1) := by decide +kernel
theorem dX12_duel_8 : decode cX12_duel 8 = .ok (.aload_n 2, 1) := by decide +kernel
theorem dX12_duel_9 : decode cX12_duel 9 = .ok (.invokevirtual 218, 3) := by decide +kernel
theorem dX12_duel_12 : decode cX12_duel 12 = .ok (.ifCond .ne 5, 3) := by decide +kernel
theorem dX12_duel_17 : decode cX12_duel 17 = .ok (.iload_n 1, 1) := by decide +kernel
theorem dX12_duel_18 : decode cX12_duel 18 = .ok (.tableswitch 68 0 5 #[38, 43, 48, 53, 58, 63], 38) := by decide +kernel
theorem dX12_duel_56 : decode cX12_duel 56 = .ok (.aload_n 2, 1) := by decide +kernel
theorem dX12_duel_57 : decode cX12_duel 57 = .ok (.getfield 239, 3) := by decide +kernel
theorem dX12_duel_60 : decode cX12_duel 60 = .ok (.ireturn, 1) := by decide +kernel
theorem dX12_duel_61 : decode cX12_duel 61 = .ok (.aload_n 2, 1) := by decide +kernel
theorem dX12_duel_62 : decode cX12_duel 62 = .ok (.getfield 242, 3) := by decide +kernel
theorem dX12_duel_65 : decode cX12_duel 65 = .ok (.ireturn, 1) := by decide +kernel
theorem dX12_duel_66 : decode cX12_duel 66 = .ok (.aload_n 2, 1) := by decide +kernel
theorem dX12_duel_67 : decode cX12_duel 67 = .ok (.getfield 245, 3) := by decide +kernel
theorem dX12_duel_70 : decode cX12_duel 70 = .ok (.ireturn, 1) := by decide +kernel
theorem dX12_duel_71 : decode cX12_duel 71 = .ok (.aload_n 2, 1) := by decide +kernel
theorem dX12_duel_72 : decode cX12_duel 72 = .ok (.getfield 248, 3) := by decide +kernel
theorem dX12_duel_75 : decode cX12_duel 75 = .ok (.ireturn, 1) := by decide +kernel
theorem dX12_duel_76 : decode cX12_duel 76 = .ok (.aload_n 2, 1) := by decide +kernel
theorem dX12_duel_77 : decode cX12_duel 77 = .ok (.invokevirtual 251, 3) := by decide +kernel
theorem dX12_duel_80 : decode cX12_duel 80 = .ok (.ireturn, 1) := by decide +kernel
theorem dX12_duel_81 : decode cX12_duel 81 = .ok (.aload_n 2, 1) := by decide +kernel
theorem dX12_duel_82 : decode cX12_duel 82 = .ok (.getfield 255, 3) := by decide +kernel
theorem dX12_duel_85 : decode cX12_duel 85 = .ok (.ireturn, 1) := by decide +kernel
theorem dX12_duel_86 : decode cX12_duel 86 = .ok (.iconst (-1), 1) := by decide +kernel
theorem dX12_duel_87 : decode cX12_duel 87 = .ok (.ireturn, 1) := by decide +kernel
theorem dX12_duel_15 : decode cX12_duel 15 = .ok (.iconst (-1), 1) := by decide +kernel
theorem dX12_duel_16 : decode cX12_duel 16 = .ok (.ireturn, 1) := by decide +kernel
set_option maxHeartbeats 4000000 in
set_option maxRecDepth 100000 in
theorem k_X12_duel (l : Launch) (D : va_G) (cy : Nat → ClassId) (ld : Nat → Nat) (t : tk_T) (a0 : Nat) (p1 : Int32) (ht_a0 : t a0 = (13, 0, 0)) : Met l yX12_duel (wl yX12_duel cX12_duel 3 (some .int)) ({ frames := 4, cells := 0, slots := 0, locals := 210 }) (tp D cy ld t [] [.ref a0, .int p1] (fun H => True)) (ti D cy ld t [] (fun r H => True) (tk_w t [])) 0 0 (tk_w t []) := by
  refine tk_met (y := yX12_duel) (cc := cX12_duel) (maxL := 3) (ret := (some .int)) (av := [.ref a0, .int p1]) _ _ (by decide) (Nat.le_of_ble_eq_true rfl) ?_
  intro p e s m args below meth c hx hb hr hml hts htl hown hlocks hK H locs hH hG hS hB hZ ls hl
  have hown : s.vm.findClass RX12 = some m.cls := hown
  have hl : lv_has ls 3 [(0, .ref a0), (1, .int p1)] := hl
  have hr_p1 := tk_rng p1
  refine lv_aload_n hx hb dX12_duel_0 rfl (lv_at hl 0 rfl) ?_
  refine tk_get (ci := 12) (C := RX12) (T := TX12) (N := 17) (sp := (8, 20, 3, 0)) hx hb htl inX12 hown hK hG ht_a0 (by decide) tk_no rfl 0 (by decide) (htl _ mw_15) (fun _ h9 => h9) rfl dX12_duel_1 (fun v9 hf1 hV9 => ?_)
  obtain ⟨rfl, ht_ld20⟩ := hV9
  have ht_ld20 : t (ld 20) = (3, 0, 0) := ht_ld20
  refine fx_top (v := .ref (ld 20)) rfl ?_
  refine tk_get (ci := 2) (C := RX2) (T := TX2) (N := 20) (sp := (9, 40, 10, 0)) hx hb htl inX2 hown hK hG ht_ld20 (by decide) tk_no rfl 19 (by decide) (htl _ mw_302) (fun _ h9 => h9) rfl dX12_duel_4 (fun v9 hf2 hV9 => ?_)
  obtain ⟨rfl, ht_ld40⟩ := hV9
  have ht_ld40 : t (ld 40) = (10, 0, 0) := ht_ld40
  refine fx_top (v := .ref (ld 40)) rfl ?_
  refine lv_astore_n (lv' := [(2, .ref (ld 40)), (0, .ref a0), (1, .int p1)]) hx hb dX12_duel_7 rfl hl (by decide) rfl (fun ls hl => ?_)
  refine lv_aload_n hx hb dX12_duel_8 rfl (lv_at hl 0 rfl) ?_
  obtain ⟨v9, hf3, hV9⟩ := tk_peek (ci := 9) (C := RX9) (T := TX9) (N := 11) (sp := (0, (-1), 7, 0)) hG ht_ld40 (by decide) tk_no rfl 5 (by decide) rfl
  obtain ⟨v4, rfl, (ha_v4 : (-1) ≤ v4.toInt), (hb_v4 : v4.toInt ≤ 7)⟩ := hV9
  refine tk_Vi (As := []) (rest := []) (ci := 9) ⟨hx, hb, hml, hown, hts⟩ hK hG hZ hS (k_X9_isDuel l D cy ld t 0 (ld 40) v4 ht_ld40 (by omega) (by omega)) hf3 ⟨callB_of 0 hts (wl_in mw_840) rfl rfl rfl (htl _ mw_76) (htl _ mw_1192) hd_yX9_isDuel ⟨(Nat.le_of_ble_eq_true rfl), (Nat.le_of_ble_eq_true rfl)⟩, htl _ mw_838, htl _ mw_839⟩ ht_ld40 (by decide) tk_no rfl (tk_w.pick [] rfl) rfl hl.1 rfl (Nat.le_of_ble_eq_true rfl) dX12_duel_9 ⟨(Nat.le_of_ble_eq_true rfl), (Nat.le_of_ble_eq_true rfl)⟩ (fun v5 H locs hpo hG hS hq9 => ?_)
  have hf3 := hf3.call hq9 tk_w.nil
  obtain ⟨hpo7, hpo8, hpo9, hpo10, hpo11⟩ := hpo
  refine lv_if_ne (tgt := 17) hx hb dX12_duel_12 (by decide) (fun c9 => ?_) (fun c9 => ?_)
  · have hc12 : ¬ (v5.toInt = 0) := fun h9 => c9 ((fi_eq rfl (show (0 : Int32).toInt = 0 by decide)).mpr h9)
    refine lv_iload_n hx hb dX12_duel_17 rfl (lv_at hl 2 rfl) ?_
    rcases (show p1.toInt = 0 ∨ p1.toInt = 1 ∨ p1.toInt = 2 ∨ p1.toInt = 3 ∨ p1.toInt = 4 ∨ p1.toInt = 5 ∨ p1.toInt < 0 ∨ 5 < p1.toInt by omega) with hsw | hsw | hsw | hsw | hsw | hsw | hsw | hsw
    · refine lv_tableIn (off := 38) (tgt := 56) hx hb dX12_duel_18 (by omega) (by omega) (by rw [hsw]; rfl) (by decide) ?_
      refine lv_aload_n hx hb dX12_duel_56 rfl (lv_at hl 0 rfl) ?_
      refine tk_getk (ci := 9) (C := RX9) (T := TX9) (N := 11) (sp := (0, (-1), 7, 0)) hx hb htl inX9 hown hK hG ht_ld40 (by decide) tk_no rfl 5 (by decide) (htl _ mw_1228) (fun _ h9 => h9) rfl hf3 dX12_duel_57 ?_
      exact tk_iret (v := v4) hx hb hr rfl hlocks trivial hG hS dX12_duel_60
    · refine lv_tableIn (off := 43) (tgt := 61) hx hb dX12_duel_18 (by omega) (by omega) (by rw [hsw]; rfl) (by decide) ?_
      refine lv_aload_n hx hb dX12_duel_61 rfl (lv_at hl 0 rfl) ?_
      refine tk_get (ci := 9) (C := RX9) (T := TX9) (N := 11) (sp := (0, (-1), 7, 0)) hx hb htl inX9 hown hK hG ht_ld40 (by decide) tk_no rfl 6 (by decide) (htl _ mw_1229) (fun _ h9 => h9) rfl dX12_duel_62 (fun v9 hf13 hV9 => ?_)
      obtain ⟨v14, rfl, (ha_v14 : (-1) ≤ v14.toInt), (hb_v14 : v14.toInt ≤ 7)⟩ := hV9
      have hs_v14 := tk_snd hG ht_ld40 tk_no hf3 hf13
      exact tk_iret (v := v14) hx hb hr rfl hlocks trivial hG hS dX12_duel_65
    · refine lv_tableIn (off := 48) (tgt := 66) hx hb dX12_duel_18 (by omega) (by omega) (by rw [hsw]; rfl) (by decide) ?_
      refine lv_aload_n hx hb dX12_duel_66 rfl (lv_at hl 0 rfl) ?_
      refine tk_get (ci := 9) (C := RX9) (T := TX9) (N := 11) (sp := (0, (-2147483648), 2147483647, 0)) hx hb htl inX9 hown hK hG ht_ld40 (by decide) tk_no rfl 7 (by decide) (htl _ mw_1230) (fun _ h9 => h9) rfl dX12_duel_67 (fun v9 hf15 hV9 => ?_)
      obtain ⟨v16, rfl, (ha_v16 : (-2147483648) ≤ v16.toInt), (hb_v16 : v16.toInt ≤ 2147483647)⟩ := hV9
      exact tk_iret (v := v16) hx hb hr rfl hlocks trivial hG hS dX12_duel_70
    · refine lv_tableIn (off := 53) (tgt := 71) hx hb dX12_duel_18 (by omega) (by omega) (by rw [hsw]; rfl) (by decide) ?_
      refine lv_aload_n hx hb dX12_duel_71 rfl (lv_at hl 0 rfl) ?_
      refine tk_get (ci := 9) (C := RX9) (T := TX9) (N := 11) (sp := (0, (-2147483648), 2147483647, 0)) hx hb htl inX9 hown hK hG ht_ld40 (by decide) tk_no rfl 8 (by decide) (htl _ mw_1231) (fun _ h9 => h9) rfl dX12_duel_72 (fun v9 hf17 hV9 => ?_)
      obtain ⟨v18, rfl, (ha_v18 : (-2147483648) ≤ v18.toInt), (hb_v18 : v18.toInt ≤ 2147483647)⟩ := hV9
      exact tk_iret (v := v18) hx hb hr rfl hlocks trivial hG hS dX12_duel_75
    · refine lv_tableIn (off := 58) (tgt := 76) hx hb dX12_duel_18 (by omega) (by omega) (by rw [hsw]; rfl) (by decide) ?_
      refine lv_aload_n hx hb dX12_duel_76 rfl (lv_at hl 0 rfl) ?_
      refine tk_Vi (As := []) (rest := []) (ci := 9) ⟨hx, hb, hml, hown, hts⟩ hK hG hZ hS (k_X9_whoSings l D cy ld t 0 (ld 40) v4 ht_ld40 (by omega) (by omega)) hf3 ⟨callB_of 0 hts (wl_in mw_844) rfl rfl rfl (htl _ mw_76) (htl _ mw_1233) hd_yX9_whoSings ⟨(Nat.le_of_ble_eq_true rfl), (Nat.le_of_ble_eq_true rfl)⟩, htl _ mw_842, htl _ mw_843⟩ ht_ld40 (by decide) tk_no rfl (tk_w.pick [] rfl) rfl hl.1 rfl (Nat.le_of_ble_eq_true rfl) dX12_duel_77 ⟨(Nat.le_of_ble_eq_true rfl), (Nat.le_of_ble_eq_true rfl)⟩ (fun v19 H locs hpo hG hS hq9 => ?_)
      have hf3 := hf3.call hq9 tk_w.nil
      obtain ⟨hpo21, hpo22, hpo23⟩ := hpo
      exact tk_iret (v := v19) hx hb hr rfl hlocks trivial hG hS dX12_duel_80
    · refine lv_tableIn (off := 63) (tgt := 81) hx hb dX12_duel_18 (by omega) (by omega) (by rw [hsw]; rfl) (by decide) ?_
      refine lv_aload_n hx hb dX12_duel_81 rfl (lv_at hl 0 rfl) ?_
      refine tk_get (ci := 9) (C := RX9) (T := TX9) (N := 11) (sp := (0, (-2147483648), 2147483647, 0)) hx hb htl inX9 hown hK hG ht_ld40 (by decide) tk_no rfl 10 (by decide) (htl _ mw_1232) (fun _ h9 => h9) rfl dX12_duel_82 (fun v9 hf24 hV9 => ?_)
      obtain ⟨v25, rfl, (ha_v25 : (-2147483648) ≤ v25.toInt), (hb_v25 : v25.toInt ≤ 2147483647)⟩ := hV9
      exact tk_iret (v := v25) hx hb hr rfl hlocks trivial hG hS dX12_duel_85
    · refine lv_tableOut (tgt := 86) hx hb dX12_duel_18 (by omega) (by decide) ?_
      refine lv_iconst (v := (-1)) hx hb dX12_duel_86 (by decide) ?_
      have hk_m1 : ((-1) : Int32).toInt = (-1) := by decide
      exact tk_iret (v := (-1)) hx hb hr rfl hlocks trivial hG hS dX12_duel_87
    · refine lv_tableOut (tgt := 86) hx hb dX12_duel_18 (by omega) (by decide) ?_
      refine lv_iconst (v := (-1)) hx hb dX12_duel_86 (by decide) ?_
      have hk_m1 : ((-1) : Int32).toInt = (-1) := by decide
      exact tk_iret (v := (-1)) hx hb hr rfl hlocks trivial hG hS dX12_duel_87
  · have hc12 : v5.toInt = 0 := (fi_eq rfl (show (0 : Int32).toInt = 0 by decide)).mp c9
    refine lv_iconst (v := (-1)) hx hb dX12_duel_15 (by decide) ?_
    have hk_m1 : ((-1) : Int32).toInt = (-1) := by decide
    exact tk_iret (v := (-1)) hx hb hr rfl hlocks trivial hG hS dX12_duel_16
theorem dX12_sing_0 : decode cX12_sing 0 = .ok (.aload_n 0, 1) := by decide +kernel
theorem dX12_sing_1 : decode cX12_sing 1 = .ok (.aload_n 0, 1) := by decide +kernel
theorem dX12_sing_2 : decode cX12_sing 2 = .ok (.getfield 38, 3) := by decide +kernel
theorem dX12_sing_5 : decode cX12_sing 5 = .ok (.iload_n 1, 1) := by decide +kernel
theorem dX12_sing_6 : decode cX12_sing 6 = .ok (.invokevirtual 258, 3) := by decide +kernel
theorem dX12_sing_9 : decode cX12_sing 9 = .ok (.invokevirtual 110, 3) := by decide +kernel
theorem dX12_sing_12 : decode cX12_sing 12 = .ok (.ireturn, 1) := by decide +kernel
theorem dX12_part_0 : decode cX12_part 0 = .ok (.aload_n 0, 1) := by decide +kernel
theorem dX12_part_1 : decode cX12_part 1 = .ok (.aload_n 0, 1) := by decide +kernel
theorem dX12_part_2 : decode cX12_part 2 = .ok (.getfield 38, 3) := by decide +kernel
theorem dX12_part_5 : decode cX12_part 5 = .ok (.invokevirtual 261, 3) := by decide +kernel
theorem dX12_part_8 : decode cX12_part 8 = .ok (.invokevirtual 110, 3) := by decide +kernel
theorem dX12_part_11 : decode cX12_part 11 = .ok (.ireturn, 1) := by decide +kernel
theorem dX12_dawn_0 : decode cX12_dawn 0 = .ok (.aload_n 0, 1) := by decide +kernel
theorem dX12_dawn_1 : decode cX12_dawn 1 = .ok (.aload_n 0, 1) := by decide +kernel
theorem dX12_dawn_2 : decode cX12_dawn 2 = .ok (.getfield 38, 3) := by decide +kernel
theorem dX12_dawn_5 : decode cX12_dawn 5 = .ok (.invokevirtual 264, 3) := by decide +kernel
theorem dX12_dawn_8 : decode cX12_dawn 8 = .ok (.invokevirtual 110, 3) := by decide +kernel
theorem dX12_dawn_11 : decode cX12_dawn 11 = .ok (.ireturn, 1) := by decide +kernel
theorem dX12_undo_0 : decode cX12_undo 0 = .ok (.aload_n 0, 1) := by decide +kernel
theorem dX12_undo_1 : decode cX12_undo 1 = .ok (.aload_n 0, 1) := by decide +kernel
theorem dX12_undo_2 : decode cX12_undo 2 = .ok (.getfield 38, 3) := by decide +kernel
theorem dX12_undo_5 : decode cX12_undo 5 = .ok (.invokevirtual 267, 3) := by decide +kernel
theorem dX12_undo_8 : decode cX12_undo 8 = .ok (.invokevirtual 110, 3) := by decide +kernel
theorem dX12_undo_11 : decode cX12_undo 11 = .ok (.ireturn, 1) := by decide +kernel
theorem dX12_game_0 : decode cX12_game 0 = .ok (.aload_n 0, 1) := by decide +kernel
theorem dX12_game_1 : decode cX12_game 1 = .ok (.getfield 10, 3) := by decide +kernel
theorem dX12_game_4 : decode cX12_game 4 = .ok (.getfield 118, 3) := by decide +kernel
theorem dX12_game_7 : decode cX12_game 7 = .ok (.invokevirtual 218, 3) := by decide +kernel
theorem dX12_game_10 : decode cX12_game 10 = .ok (.ifCond .eq 21, 3) := by decide +kernel
theorem dX12_game_31 : decode cX12_game 31 = .ok (.sipush (-1000), 3) := by decide +kernel
theorem dX12_game_34 : decode cX12_game 34 = .ok (.ireturn, 1) := by decide +kernel
theorem dX12_game_13 : decode cX12_game 13 = .ok (.iload_n 1, 1) := by decide +kernel
theorem dX12_game_14 : decode cX12_game 14 = .ok (.iconst 1, 1) := by decide +kernel
theorem dX12_game_15 : decode cX12_game 15 = .ok (.iconst 4, 1) := by decide +kernel
theorem dX12_game_16 : decode cX12_game 16 = .ok (.invokestatic 146, 3) := by decide +kernel
theorem dX12_game_19 : decode cX12_game 19 = .ok (.ifCond .eq 12, 3) := by decide +kernel
theorem dX12_game_22 : decode cX12_game 22 = .ok (.iload_n 2, 1) := by decide +kernel
theorem dX12_game_23 : decode cX12_game 23 = .ok (.iconst 0, 1) := by decide +kernel
theorem dX12_game_24 : decode cX12_game 24 = .ok (.iconst 2, 1) := by decide +kernel
theorem dX12_game_25 : decode cX12_game 25 = .ok (.invokestatic 146, 3) := by decide +kernel
theorem dX12_game_28 : decode cX12_game 28 = .ok (.ifCond .ne 7, 3) := by decide +kernel
theorem dX12_game_35 : decode cX12_game 35 = .ok (.aload_n 0, 1) := by decide +kernel
theorem dX12_game_36 : decode cX12_game 36 = .ok (.getfield 71, 3) := by decide +kernel
theorem dX12_game_39 : decode cX12_game 39 = .ok (.iload_n 1, 1) := by decide +kernel
theorem dX12_game_40 : decode cX12_game 40 = .ok (.iload_n 2, 1) := by decide +kernel
theorem dX12_game_41 : decode cX12_game 41 = .ok (.invokevirtual 270, 3) := by decide +kernel
theorem dX12_game_44 : decode cX12_game 44 = .ok (.ireturn, 1) := by decide +kernel
set_option maxHeartbeats 4000000 in
set_option maxRecDepth 100000 in
theorem k_X12_game (l : Launch) (D : va_G) (cy : Nat → ClassId) (ld : Nat → Nat) (t : tk_T) (a0 : Nat) (p1 : Int32) (p2 : Int32) (ht_a0 : t a0 = (13, 0, 0)) : Met l yX12_game (wl yX12_game cX12_game 3 (some .int)) ({ frames := 12, cells := 0, slots := 0, locals := 770 }) (tp D cy ld t [] [.ref a0, .int p1, .int p2] (fun H => True)) (ti D cy ld t [] (fun r H => True) (tk_w t [(6, 0, 0), (20, 10, 10), (10, 10, 10), (20, 0, 0), (12, 0, 0), (9, 0, 0), (20, 11, 11), (10, 11, 11), (20, 12, 12), (10, 12, 12), (20, 13, 13), (10, 13, 13), (20, 14, 14), (10, 14, 14)])) 0 0 (tk_w t [(6, 0, 0), (20, 10, 10), (10, 10, 10), (20, 0, 0), (12, 0, 0), (9, 0, 0), (20, 11, 11), (10, 11, 11), (20, 12, 12), (10, 12, 12), (20, 13, 13), (10, 13, 13), (20, 14, 14), (10, 14, 14)]) := by
  refine tk_met (y := yX12_game) (cc := cX12_game) (maxL := 3) (ret := (some .int)) (av := [.ref a0, .int p1, .int p2]) _ _ (by decide) (Nat.le_of_ble_eq_true rfl) ?_
  intro p e s m args below meth c hx hb hr hml hts htl hown hlocks hK H locs hH hG hS hB hZ ls hl
  have hown : s.vm.findClass RX12 = some m.cls := hown
  have hl : lv_has ls 3 [(0, .ref a0), (1, .int p1), (2, .int p2)] := hl
  have hr_p1 := tk_rng p1
  have hr_p2 := tk_rng p2
  refine lv_aload_n hx hb dX12_game_0 rfl (lv_at hl 0 rfl) ?_
  refine tk_get (ci := 12) (C := RX12) (T := TX12) (N := 17) (sp := (8, 20, 3, 0)) hx hb htl inX12 hown hK hG ht_a0 (by decide) tk_no rfl 0 (by decide) (htl _ mw_15) (fun _ h9 => h9) rfl dX12_game_1 (fun v9 hf1 hV9 => ?_)
  obtain ⟨rfl, ht_ld20⟩ := hV9
  have ht_ld20 : t (ld 20) = (3, 0, 0) := ht_ld20
  refine fx_top (v := .ref (ld 20)) rfl ?_
  refine tk_get (ci := 2) (C := RX2) (T := TX2) (N := 20) (sp := (9, 40, 10, 0)) hx hb htl inX2 hown hK hG ht_ld20 (by decide) tk_no rfl 19 (by decide) (htl _ mw_302) (fun _ h9 => h9) rfl dX12_game_4 (fun v9 hf2 hV9 => ?_)
  obtain ⟨rfl, ht_ld40⟩ := hV9
  have ht_ld40 : t (ld 40) = (10, 0, 0) := ht_ld40
  refine fx_top (v := .ref (ld 40)) rfl ?_
  obtain ⟨v9, hf3, hV9⟩ := tk_peek (ci := 9) (C := RX9) (T := TX9) (N := 11) (sp := (0, (-1), 7, 0)) hG ht_ld40 (by decide) tk_no rfl 5 (by decide) rfl
  obtain ⟨v4, rfl, (ha_v4 : (-1) ≤ v4.toInt), (hb_v4 : v4.toInt ≤ 7)⟩ := hV9
  refine tk_Vi (As := []) (rest := []) (ci := 9) ⟨hx, hb, hml, hown, hts⟩ hK hG hZ hS (k_X9_isDuel l D cy ld t 0 (ld 40) v4 ht_ld40 (by omega) (by omega)) hf3 ⟨callB_of 0 hts (wl_in mw_840) rfl rfl rfl (htl _ mw_76) (htl _ mw_1192) hd_yX9_isDuel ⟨(Nat.le_of_ble_eq_true rfl), (Nat.le_of_ble_eq_true rfl)⟩, htl _ mw_838, htl _ mw_839⟩ ht_ld40 (by decide) tk_no rfl (tk_w.pick [] rfl) rfl hl.1 rfl (Nat.le_of_ble_eq_true rfl) dX12_game_7 ⟨(Nat.le_of_ble_eq_true rfl), (Nat.le_of_ble_eq_true rfl)⟩ (fun v5 H locs hpo hG hS hq9 => ?_)
  have hf3 := hf3.call hq9 tk_w.nil
  obtain ⟨hpo7, hpo8, hpo9, hpo10, hpo11⟩ := hpo
  refine lv_if_eq (tgt := 31) hx hb dX12_game_10 (by decide) (fun c9 => ?_) (fun c9 => ?_)
  · have hc12 : v5.toInt = 0 := (fi_eq rfl (show (0 : Int32).toInt = 0 by decide)).mp c9
    refine lv_sipush (v := (-1000)) hx hb dX12_game_31 (by decide) ?_
    have hk_m1000 : ((-1000) : Int32).toInt = (-1000) := by decide
    exact tk_iret (v := (-1000)) hx hb hr rfl hlocks trivial hG hS dX12_game_34
  · have hc12 : ¬ (v5.toInt = 0) := fun h9 => c9 ((fi_eq rfl (show (0 : Int32).toInt = 0 by decide)).mpr h9)
    refine lv_iload_n hx hb dX12_game_13 rfl (lv_at hl 1 rfl) ?_
    refine lv_iconst (v := 1) hx hb dX12_game_14 (by decide) ?_
    refine lv_iconst (v := 4) hx hb dX12_game_15 (by decide) ?_
    have hk_1 : (1 : Int32).toInt = 1 := by decide
    have hk_4 : (4 : Int32).toInt = 4 := by decide
    refine tk_Si (As := [.int p1, .int 1, .int 4]) (rest := []) ⟨hx, hb, hml, hown, hts⟩ hK hG hZ hS (k_X12_within l D cy ld t _ p1 1 4) trivial ⟨callB_of 3 hts (wl_in mw_262) rfl rfl rfl (htl _ mw_2) (htl _ mw_277) hd_yX12_within ⟨(Nat.le_of_ble_eq_true rfl), (Nat.le_of_ble_eq_true rfl)⟩, htl _ mw_261⟩ (tk_w.pick [] rfl) rfl hl.1 rfl (Nat.le_of_ble_eq_true rfl) dX12_game_16 ⟨(Nat.le_of_ble_eq_true rfl), (Nat.le_of_ble_eq_true rfl)⟩ (fun v13 H locs hpo hG hS hq9 => ?_)
    have hf3 := hf3.call hq9 tk_w.nil
    obtain ⟨hpo15, hpo16, hpo17, hpo18, hpo19⟩ := hpo
    refine lv_if_eq (tgt := 31) hx hb dX12_game_19 (by decide) (fun c9 => ?_) (fun c9 => ?_)
    · have hc20 : v13.toInt = 0 := (fi_eq rfl (show (0 : Int32).toInt = 0 by decide)).mp c9
      refine lv_sipush (v := (-1000)) hx hb dX12_game_31 (by decide) ?_
      have hk_m1000 : ((-1000) : Int32).toInt = (-1000) := by decide
      exact tk_iret (v := (-1000)) hx hb hr rfl hlocks trivial hG hS dX12_game_34
    · have hc20 : ¬ (v13.toInt = 0) := fun h9 => c9 ((fi_eq rfl (show (0 : Int32).toInt = 0 by decide)).mpr h9)
      refine lv_iload_n hx hb dX12_game_22 rfl (lv_at hl 2 rfl) ?_
      refine lv_iconst (v := 0) hx hb dX12_game_23 (by decide) ?_
      refine lv_iconst (v := 2) hx hb dX12_game_24 (by decide) ?_
      have hk_0 : (0 : Int32).toInt = 0 := by decide
      have hk_2 : (2 : Int32).toInt = 2 := by decide
      refine tk_Si (As := [.int p2, .int 0, .int 2]) (rest := []) ⟨hx, hb, hml, hown, hts⟩ hK hG hZ hS (k_X12_within l D cy ld t _ p2 0 2) trivial ⟨callB_of 3 hts (wl_in mw_262) rfl rfl rfl (htl _ mw_2) (htl _ mw_277) hd_yX12_within ⟨(Nat.le_of_ble_eq_true rfl), (Nat.le_of_ble_eq_true rfl)⟩, htl _ mw_261⟩ (tk_w.pick [] rfl) rfl hl.1 rfl (Nat.le_of_ble_eq_true rfl) dX12_game_25 ⟨(Nat.le_of_ble_eq_true rfl), (Nat.le_of_ble_eq_true rfl)⟩ (fun v21 H locs hpo hG hS hq9 => ?_)
      have hf3 := hf3.call hq9 tk_w.nil
      obtain ⟨hpo23, hpo24, hpo25, hpo26, hpo27⟩ := hpo
      refine lv_if_ne (tgt := 35) hx hb dX12_game_28 (by decide) (fun c9 => ?_) (fun c9 => ?_)
      · have hc28 : ¬ (v21.toInt = 0) := fun h9 => c9 ((fi_eq rfl (show (0 : Int32).toInt = 0 by decide)).mpr h9)
        refine lv_aload_n hx hb dX12_game_35 rfl (lv_at hl 0 rfl) ?_
        refine tk_get (ci := 12) (C := RX12) (T := TX12) (N := 17) (sp := (6, 6, 0, 0)) hx hb htl inX12 hown hK hG ht_a0 (by decide) tk_no rfl 7 (by decide) (htl _ mw_41) (fun _ h9 => h9) rfl dX12_game_36 (fun v9 hf29 hV9 => ?_)
        obtain ⟨b30, rfl, ht_b30⟩ := hV9
        have ht_b30 : t b30 = (6, 0, 0) := ht_b30
        refine lv_iload_n hx hb dX12_game_39 rfl (lv_at hl 1 rfl) ?_
        refine lv_iload_n hx hb dX12_game_40 rfl (lv_at hl 2 rfl) ?_
        refine tk_Vi (As := [.int p1, .int p2]) (rest := []) (ci := 5) ⟨hx, hb, hml, hown, hts⟩ hK hG hZ hS (k_X5_lookAhead l D cy ld t b30 p1 p2 ht_b30) trivial ⟨callB_of 2 hts (wl_in mw_1285) rfl rfl rfl (htl _ mw_40) (htl _ mw_1282) hd_yX5_lookAhead ⟨(Nat.le_of_ble_eq_true rfl), (Nat.le_of_ble_eq_true rfl)⟩, htl _ mw_1283, htl _ mw_1284⟩ ht_b30 (by decide) tk_no rfl (tk_w.pick [0, 1, 2, 3, 4, 5, 6, 7, 8, 9, 10, 11, 12, 13] rfl) rfl hl.1 rfl (Nat.le_of_ble_eq_true rfl) dX12_game_41 ⟨(Nat.le_of_ble_eq_true rfl), (Nat.le_of_ble_eq_true rfl)⟩ (fun v31 H locs hpo hG hS hq9 => ?_)
        have hf3 := hf3.call hq9 (tk_w.no ht_ld40 (by decide))
        exact tk_iret (v := v31) hx hb hr rfl hlocks trivial hG hS dX12_game_44
      · have hc28 : v21.toInt = 0 := (fi_eq rfl (show (0 : Int32).toInt = 0 by decide)).mp c9
        refine lv_sipush (v := (-1000)) hx hb dX12_game_31 (by decide) ?_
        have hk_m1000 : ((-1000) : Int32).toInt = (-1000) := by decide
        exact tk_iret (v := (-1000)) hx hb hr rfl hlocks trivial hG hS dX12_game_34
theorem dX12_saddle_0 : decode cX12_saddle 0 = .ok (.aload_n 0, 1) := by decide +kernel
theorem dX12_saddle_1 : decode cX12_saddle 1 = .ok (.getfield 10, 3) := by decide +kernel
theorem dX12_saddle_4 : decode cX12_saddle 4 = .ok (.iload_n 1, 1) := by decide +kernel
theorem dX12_saddle_5 : decode cX12_saddle 5 = .ok (.iload_n 2, 1) := by decide +kernel
theorem dX12_saddle_6 : decode cX12_saddle 6 = .ok (.invokevirtual 273, 3) := by decide +kernel
theorem dX12_saddle_9 : decode cX12_saddle 9 = .ok (.ifCond .eq 13, 3) := by decide +kernel
theorem dX12_saddle_22 : decode cX12_saddle 22 = .ok (.sipush (-1000), 3) := by decide +kernel
theorem dX12_saddle_25 : decode cX12_saddle 25 = .ok (.ireturn, 1) := by decide +kernel
theorem dX12_saddle_12 : decode cX12_saddle 12 = .ok (.aload_n 0, 1) := by decide +kernel
theorem dX12_saddle_13 : decode cX12_saddle 13 = .ok (.getfield 10, 3) := by decide +kernel
theorem dX12_saddle_16 : decode cX12_saddle 16 = .ok (.getfield 277, 3) := by decide +kernel
theorem dX12_saddle_19 : decode cX12_saddle 19 = .ok (.ifCond .ne 7, 3) := by decide +kernel
theorem dX12_saddle_26 : decode cX12_saddle 26 = .ok (.iload_n 3, 1) := by decide +kernel
theorem dX12_saddle_27 : decode cX12_saddle 27 = .ok (.tableswitch 73 0 3 #[29, 40, 51, 62], 29) := by decide +kernel
theorem dX12_saddle_56 : decode cX12_saddle 56 = .ok (.aload_n 0, 1) := by decide +kernel
theorem dX12_saddle_57 : decode cX12_saddle 57 = .ok (.getfield 71, 3) := by decide +kernel
theorem dX12_saddle_60 : decode cX12_saddle 60 = .ok (.iload_n 1, 1) := by decide +kernel
theorem dX12_saddle_61 : decode cX12_saddle 61 = .ok (.iload_n 2, 1) := by decide +kernel
theorem dX12_saddle_62 : decode cX12_saddle 62 = .ok (.iconst 0, 1) := by decide +kernel
theorem dX12_saddle_63 : decode cX12_saddle 63 = .ok (.invokevirtual 280, 3) := by decide +kernel
theorem dX12_saddle_66 : decode cX12_saddle 66 = .ok (.ireturn, 1) := by decide +kernel
theorem dX12_saddle_67 : decode cX12_saddle 67 = .ok (.aload_n 0, 1) := by decide +kernel
theorem dX12_saddle_68 : decode cX12_saddle 68 = .ok (.getfield 71, 3) := by decide +kernel
theorem dX12_saddle_71 : decode cX12_saddle 71 = .ok (.iload_n 1, 1) := by decide +kernel
theorem dX12_saddle_72 : decode cX12_saddle 72 = .ok (.iload_n 2, 1) := by decide +kernel
theorem dX12_saddle_73 : decode cX12_saddle 73 = .ok (.iconst 0, 1) := by decide +kernel
theorem dX12_saddle_74 : decode cX12_saddle 74 = .ok (.invokevirtual 284, 3) := by decide +kernel
theorem dX12_saddle_77 : decode cX12_saddle 77 = .ok (.ireturn, 1) := by decide +kernel
theorem dX12_saddle_78 : decode cX12_saddle 78 = .ok (.aload_n 0, 1) := by decide +kernel
theorem dX12_saddle_79 : decode cX12_saddle 79 = .ok (.getfield 71, 3) := by decide +kernel
theorem dX12_saddle_82 : decode cX12_saddle 82 = .ok (.iload_n 1, 1) := by decide +kernel
theorem dX12_saddle_83 : decode cX12_saddle 83 = .ok (.iload_n 2, 1) := by decide +kernel
theorem dX12_saddle_84 : decode cX12_saddle 84 = .ok (.iconst 1, 1) := by decide +kernel
theorem dX12_saddle_85 : decode cX12_saddle 85 = .ok (.invokevirtual 280, 3) := by decide +kernel
theorem dX12_saddle_88 : decode cX12_saddle 88 = .ok (.ireturn, 1) := by decide +kernel
theorem dX12_saddle_89 : decode cX12_saddle 89 = .ok (.aload_n 0, 1) := by decide +kernel
theorem dX12_saddle_90 : decode cX12_saddle 90 = .ok (.getfield 71, 3) := by decide +kernel
theorem dX12_saddle_93 : decode cX12_saddle 93 = .ok (.iload_n 1, 1) := by decide +kernel
theorem dX12_saddle_94 : decode cX12_saddle 94 = .ok (.iload_n 2, 1) := by decide +kernel
theorem dX12_saddle_95 : decode cX12_saddle 95 = .ok (.iconst 1, 1) := by decide +kernel
theorem dX12_saddle_96 : decode cX12_saddle 96 = .ok (.invokevirtual 284, 3) := by decide +kernel
theorem dX12_saddle_99 : decode cX12_saddle 99 = .ok (.ireturn, 1) := by decide +kernel
theorem dX12_saddle_100 : decode cX12_saddle 100 = .ok (.sipush (-1000), 3) := by decide +kernel
theorem dX12_saddle_103 : decode cX12_saddle 103 = .ok (.ireturn, 1) := by decide +kernel
set_option maxHeartbeats 4000000 in
set_option maxRecDepth 100000 in
theorem k_X12_saddle (l : Launch) (D : va_G) (cy : Nat → ClassId) (ld : Nat → Nat) (t : tk_T) (a0 : Nat) (p1 : Int32) (p2 : Int32) (p3 : Int32) (ht_a0 : t a0 = (13, 0, 0)) : Met l yX12_saddle (wl yX12_saddle cX12_saddle 4 (some .int)) ({ frames := 9, cells := 0, slots := 0, locals := 560 }) (tp D cy ld t [] [.ref a0, .int p1, .int p2, .int p3] (fun H => True)) (ti D cy ld t [] (fun r H => (-1000) ≤ r.toInt ∧ r.toInt ≤ 9) (tk_w t [(20, 4, 4), (10, 4, 4), (20, 0, 0), (12, 0, 0), (9, 0, 0)])) 0 0 (tk_w t [(20, 4, 4), (10, 4, 4), (20, 0, 0), (12, 0, 0), (9, 0, 0)]) := by
  refine tk_met (y := yX12_saddle) (cc := cX12_saddle) (maxL := 4) (ret := (some .int)) (av := [.ref a0, .int p1, .int p2, .int p3]) _ _ (by decide) (Nat.le_of_ble_eq_true rfl) ?_
  intro p e s m args below meth c hx hb hr hml hts htl hown hlocks hK H locs hH hG hS hB hZ ls hl
  have hown : s.vm.findClass RX12 = some m.cls := hown
  have hl : lv_has ls 4 [(0, .ref a0), (1, .int p1), (2, .int p2), (3, .int p3)] := hl
  have hr_p1 := tk_rng p1
  have hr_p2 := tk_rng p2
  have hr_p3 := tk_rng p3
  refine lv_aload_n hx hb dX12_saddle_0 rfl (lv_at hl 0 rfl) ?_
  refine tk_get (ci := 12) (C := RX12) (T := TX12) (N := 17) (sp := (8, 20, 3, 0)) hx hb htl inX12 hown hK hG ht_a0 (by decide) tk_no rfl 0 (by decide) (htl _ mw_15) (fun _ h9 => h9) rfl dX12_saddle_1 (fun v9 hf1 hV9 => ?_)
  obtain ⟨rfl, ht_ld20⟩ := hV9
  have ht_ld20 : t (ld 20) = (3, 0, 0) := ht_ld20
  refine fx_top (v := .ref (ld 20)) rfl ?_
  refine lv_iload_n hx hb dX12_saddle_4 rfl (lv_at hl 1 rfl) ?_
  refine lv_iload_n hx hb dX12_saddle_5 rfl (lv_at hl 2 rfl) ?_
  refine tk_Vi (As := [.int p1, .int p2]) (rest := []) (ci := 2) ⟨hx, hb, hml, hown, hts⟩ hK hG hZ hS (k_X2_areFoes l D cy ld t (ld 20) p1 p2 ht_ld20) trivial ⟨callB_of 2 hts (wl_in mw_879) rfl rfl rfl (htl _ mw_14) (htl _ mw_1332) hd_yX2_areFoes ⟨(Nat.le_of_ble_eq_true rfl), (Nat.le_of_ble_eq_true rfl)⟩, htl _ mw_877, htl _ mw_878⟩ ht_ld20 (by decide) tk_no rfl (tk_w.pick [] rfl) rfl hl.1 rfl (Nat.le_of_ble_eq_true rfl) dX12_saddle_6 ⟨(Nat.le_of_ble_eq_true rfl), (Nat.le_of_ble_eq_true rfl)⟩ (fun v2 H locs hpo hG hS hq9 => ?_)
  obtain ⟨hpo4, hpo5, hpo6, hpo7, hpo8⟩ := hpo
  refine lv_if_eq (tgt := 22) hx hb dX12_saddle_9 (by decide) (fun c9 => ?_) (fun c9 => ?_)
  · have hc9 : v2.toInt = 0 := (fi_eq rfl (show (0 : Int32).toInt = 0 by decide)).mp c9
    refine lv_sipush (v := (-1000)) hx hb dX12_saddle_22 (by decide) ?_
    have hk_m1000 : ((-1000) : Int32).toInt = (-1000) := by decide
    exact tk_iret (v := (-1000)) hx hb hr rfl hlocks (show (-1000) ≤ ((-1000) : Int32).toInt ∧ ((-1000) : Int32).toInt ≤ 9 from ⟨(by omega), (by omega)⟩) hG hS dX12_saddle_25
  · have hc9 : ¬ (v2.toInt = 0) := fun h9 => c9 ((fi_eq rfl (show (0 : Int32).toInt = 0 by decide)).mpr h9)
    refine lv_aload_n hx hb dX12_saddle_12 rfl (lv_at hl 0 rfl) ?_
    refine tk_get (ci := 12) (C := RX12) (T := TX12) (N := 17) (sp := (8, 20, 3, 0)) hx hb htl inX12 hown hK hG ht_a0 (by decide) tk_no rfl 0 (by decide) (htl _ mw_15) (fun _ h9 => h9) rfl dX12_saddle_13 (fun v9 hf10 hV9 => ?_)
    obtain ⟨rfl, ht_ld20⟩ := hV9
    have ht_ld20 : t (ld 20) = (3, 0, 0) := ht_ld20
    refine fx_top (v := .ref (ld 20)) rfl ?_
    refine tk_get (ci := 2) (C := RX2) (T := TX2) (N := 20) (sp := (0, 0, 10, 0)) hx hb htl inX2 hown hK hG ht_ld20 (by decide) tk_no rfl 4 (by decide) (htl _ mw_1331) (fun _ h9 => h9) rfl dX12_saddle_16 (fun v9 hf11 hV9 => ?_)
    obtain ⟨v12, rfl, (ha_v12 : 0 ≤ v12.toInt), (hb_v12 : v12.toInt ≤ 10)⟩ := hV9
    refine lv_if_ne (tgt := 26) hx hb dX12_saddle_19 (by decide) (fun c9 => ?_) (fun c9 => ?_)
    · have hc13 : ¬ (v12.toInt = 0) := fun h9 => c9 ((fi_eq rfl (show (0 : Int32).toInt = 0 by decide)).mpr h9)
      refine lv_iload_n hx hb dX12_saddle_26 rfl (lv_at hl 3 rfl) ?_
      rcases (show p3.toInt = 0 ∨ p3.toInt = 1 ∨ p3.toInt = 2 ∨ p3.toInt = 3 ∨ p3.toInt < 0 ∨ 3 < p3.toInt by omega) with hsw | hsw | hsw | hsw | hsw | hsw
      · refine lv_tableIn (off := 29) (tgt := 56) hx hb dX12_saddle_27 (by omega) (by omega) (by rw [hsw]; rfl) (by decide) ?_
        refine lv_aload_n hx hb dX12_saddle_56 rfl (lv_at hl 0 rfl) ?_
        refine tk_get (ci := 12) (C := RX12) (T := TX12) (N := 17) (sp := (6, 6, 0, 0)) hx hb htl inX12 hown hK hG ht_a0 (by decide) tk_no rfl 7 (by decide) (htl _ mw_41) (fun _ h9 => h9) rfl dX12_saddle_57 (fun v9 hf14 hV9 => ?_)
        obtain ⟨b15, rfl, ht_b15⟩ := hV9
        have ht_b15 : t b15 = (6, 0, 0) := ht_b15
        refine lv_iload_n hx hb dX12_saddle_60 rfl (lv_at hl 1 rfl) ?_
        refine lv_iload_n hx hb dX12_saddle_61 rfl (lv_at hl 2 rfl) ?_
        refine lv_iconst (v := 0) hx hb dX12_saddle_62 (by decide) ?_
        have hk_0 : (0 : Int32).toInt = 0 := by decide
        refine tk_Vi (As := [.int p1, .int p2, .int 0]) (rest := []) (ci := 5) ⟨hx, hb, hml, hown, hts⟩ hK hG hZ hS (k_X5_bestOfWorst l D cy ld t b15 p1 p2 0 ht_b15 (by omega) (by omega) (by omega) (by omega) (by omega) (by omega)) trivial ⟨callB_of 3 hts (wl_in mw_1336) rfl rfl rfl (htl _ mw_40) (htl _ mw_1333) hd_yX5_bestOfWorst ⟨(Nat.le_of_ble_eq_true rfl), (Nat.le_of_ble_eq_true rfl)⟩, htl _ mw_1334, htl _ mw_1335⟩ ht_b15 (by decide) tk_no rfl (tk_w.pick [0, 1, 2, 3, 4] rfl) rfl hl.1 rfl (Nat.le_of_ble_eq_true rfl) dX12_saddle_63 ⟨(Nat.le_of_ble_eq_true rfl), (Nat.le_of_ble_eq_true rfl)⟩ (fun v16 H locs hpo hG hS hq9 => ?_)
        have hf11 := hf11.call hq9 (tk_w.no ht_ld20 (by decide))
        obtain ⟨hpo18, hpo19⟩ := hpo
        exact tk_iret (v := v16) hx hb hr rfl hlocks (show (-1000) ≤ v16.toInt ∧ v16.toInt ≤ 9 from ⟨(by omega), (by omega)⟩) hG hS dX12_saddle_66
      · refine lv_tableIn (off := 40) (tgt := 67) hx hb dX12_saddle_27 (by omega) (by omega) (by rw [hsw]; rfl) (by decide) ?_
        refine lv_aload_n hx hb dX12_saddle_67 rfl (lv_at hl 0 rfl) ?_
        refine tk_get (ci := 12) (C := RX12) (T := TX12) (N := 17) (sp := (6, 6, 0, 0)) hx hb htl inX12 hown hK hG ht_a0 (by decide) tk_no rfl 7 (by decide) (htl _ mw_41) (fun _ h9 => h9) rfl dX12_saddle_68 (fun v9 hf20 hV9 => ?_)
        obtain ⟨b21, rfl, ht_b21⟩ := hV9
        have ht_b21 : t b21 = (6, 0, 0) := ht_b21
        refine lv_iload_n hx hb dX12_saddle_71 rfl (lv_at hl 1 rfl) ?_
        refine lv_iload_n hx hb dX12_saddle_72 rfl (lv_at hl 2 rfl) ?_
        refine lv_iconst (v := 0) hx hb dX12_saddle_73 (by decide) ?_
        have hk_0 : (0 : Int32).toInt = 0 := by decide
        refine tk_Vi (As := [.int p1, .int p2, .int 0]) (rest := []) (ci := 5) ⟨hx, hb, hml, hown, hts⟩ hK hG hZ hS (k_X5_worstOfBest l D cy ld t b21 p1 p2 0 ht_b21 (by omega) (by omega) (by omega) (by omega) (by omega) (by omega)) trivial ⟨callB_of 3 hts (wl_in mw_1356) rfl rfl rfl (htl _ mw_40) (htl _ mw_1353) hd_yX5_worstOfBest ⟨(Nat.le_of_ble_eq_true rfl), (Nat.le_of_ble_eq_true rfl)⟩, htl _ mw_1354, htl _ mw_1355⟩ ht_b21 (by decide) tk_no rfl (tk_w.pick [0, 1, 2, 3, 4] rfl) rfl hl.1 rfl (Nat.le_of_ble_eq_true rfl) dX12_saddle_74 ⟨(Nat.le_of_ble_eq_true rfl), (Nat.le_of_ble_eq_true rfl)⟩ (fun v22 H locs hpo hG hS hq9 => ?_)
        have hf11 := hf11.call hq9 (tk_w.no ht_ld20 (by decide))
        obtain ⟨hpo24, hpo25⟩ := hpo
        exact tk_iret (v := v22) hx hb hr rfl hlocks (show (-1000) ≤ v22.toInt ∧ v22.toInt ≤ 9 from ⟨(by omega), (by omega)⟩) hG hS dX12_saddle_77
      · refine lv_tableIn (off := 51) (tgt := 78) hx hb dX12_saddle_27 (by omega) (by omega) (by rw [hsw]; rfl) (by decide) ?_
        refine lv_aload_n hx hb dX12_saddle_78 rfl (lv_at hl 0 rfl) ?_
        refine tk_get (ci := 12) (C := RX12) (T := TX12) (N := 17) (sp := (6, 6, 0, 0)) hx hb htl inX12 hown hK hG ht_a0 (by decide) tk_no rfl 7 (by decide) (htl _ mw_41) (fun _ h9 => h9) rfl dX12_saddle_79 (fun v9 hf26 hV9 => ?_)
        obtain ⟨b27, rfl, ht_b27⟩ := hV9
        have ht_b27 : t b27 = (6, 0, 0) := ht_b27
        refine lv_iload_n hx hb dX12_saddle_82 rfl (lv_at hl 1 rfl) ?_
        refine lv_iload_n hx hb dX12_saddle_83 rfl (lv_at hl 2 rfl) ?_
        refine lv_iconst (v := 1) hx hb dX12_saddle_84 (by decide) ?_
        have hk_1 : (1 : Int32).toInt = 1 := by decide
        refine tk_Vi (As := [.int p1, .int p2, .int 1]) (rest := []) (ci := 5) ⟨hx, hb, hml, hown, hts⟩ hK hG hZ hS (k_X5_bestOfWorst l D cy ld t b27 p1 p2 1 ht_b27 (by omega) (by omega) (by omega) (by omega) (by omega) (by omega)) trivial ⟨callB_of 3 hts (wl_in mw_1336) rfl rfl rfl (htl _ mw_40) (htl _ mw_1333) hd_yX5_bestOfWorst ⟨(Nat.le_of_ble_eq_true rfl), (Nat.le_of_ble_eq_true rfl)⟩, htl _ mw_1334, htl _ mw_1335⟩ ht_b27 (by decide) tk_no rfl (tk_w.pick [0, 1, 2, 3, 4] rfl) rfl hl.1 rfl (Nat.le_of_ble_eq_true rfl) dX12_saddle_85 ⟨(Nat.le_of_ble_eq_true rfl), (Nat.le_of_ble_eq_true rfl)⟩ (fun v28 H locs hpo hG hS hq9 => ?_)
        have hf11 := hf11.call hq9 (tk_w.no ht_ld20 (by decide))
        obtain ⟨hpo30, hpo31⟩ := hpo
        exact tk_iret (v := v28) hx hb hr rfl hlocks (show (-1000) ≤ v28.toInt ∧ v28.toInt ≤ 9 from ⟨(by omega), (by omega)⟩) hG hS dX12_saddle_88
      · refine lv_tableIn (off := 62) (tgt := 89) hx hb dX12_saddle_27 (by omega) (by omega) (by rw [hsw]; rfl) (by decide) ?_
        refine lv_aload_n hx hb dX12_saddle_89 rfl (lv_at hl 0 rfl) ?_
        refine tk_get (ci := 12) (C := RX12) (T := TX12) (N := 17) (sp := (6, 6, 0, 0)) hx hb htl inX12 hown hK hG ht_a0 (by decide) tk_no rfl 7 (by decide) (htl _ mw_41) (fun _ h9 => h9) rfl dX12_saddle_90 (fun v9 hf32 hV9 => ?_)
        obtain ⟨b33, rfl, ht_b33⟩ := hV9
        have ht_b33 : t b33 = (6, 0, 0) := ht_b33
        refine lv_iload_n hx hb dX12_saddle_93 rfl (lv_at hl 1 rfl) ?_
        refine lv_iload_n hx hb dX12_saddle_94 rfl (lv_at hl 2 rfl) ?_
        refine lv_iconst (v := 1) hx hb dX12_saddle_95 (by decide) ?_
        have hk_1 : (1 : Int32).toInt = 1 := by decide
        refine tk_Vi (As := [.int p1, .int p2, .int 1]) (rest := []) (ci := 5) ⟨hx, hb, hml, hown, hts⟩ hK hG hZ hS (k_X5_worstOfBest l D cy ld t b33 p1 p2 1 ht_b33 (by omega) (by omega) (by omega) (by omega) (by omega) (by omega)) trivial ⟨callB_of 3 hts (wl_in mw_1356) rfl rfl rfl (htl _ mw_40) (htl _ mw_1353) hd_yX5_worstOfBest ⟨(Nat.le_of_ble_eq_true rfl), (Nat.le_of_ble_eq_true rfl)⟩, htl _ mw_1354, htl _ mw_1355⟩ ht_b33 (by decide) tk_no rfl (tk_w.pick [0, 1, 2, 3, 4] rfl) rfl hl.1 rfl (Nat.le_of_ble_eq_true rfl) dX12_saddle_96 ⟨(Nat.le_of_ble_eq_true rfl), (Nat.le_of_ble_eq_true rfl)⟩ (fun v34 H locs hpo hG hS hq9 => ?_)
        have hf11 := hf11.call hq9 (tk_w.no ht_ld20 (by decide))
        obtain ⟨hpo36, hpo37⟩ := hpo
        exact tk_iret (v := v34) hx hb hr rfl hlocks (show (-1000) ≤ v34.toInt ∧ v34.toInt ≤ 9 from ⟨(by omega), (by omega)⟩) hG hS dX12_saddle_99
      · refine lv_tableOut (tgt := 100) hx hb dX12_saddle_27 (by omega) (by decide) ?_
        refine lv_sipush (v := (-1000)) hx hb dX12_saddle_100 (by decide) ?_
        have hk_m1000 : ((-1000) : Int32).toInt = (-1000) := by decide
        exact tk_iret (v := (-1000)) hx hb hr rfl hlocks (show (-1000) ≤ ((-1000) : Int32).toInt ∧ ((-1000) : Int32).toInt ≤ 9 from ⟨(by omega), (by omega)⟩) hG hS dX12_saddle_103
      · refine lv_tableOut (tgt := 100) hx hb dX12_saddle_27 (by omega) (by decide) ?_
        refine lv_sipush (v := (-1000)) hx hb dX12_saddle_100 (by decide) ?_
        have hk_m1000 : ((-1000) : Int32).toInt = (-1000) := by decide
        exact tk_iret (v := (-1000)) hx hb hr rfl hlocks (show (-1000) ≤ ((-1000) : Int32).toInt ∧ ((-1000) : Int32).toInt ≤ 9 from ⟨(by omega), (by omega)⟩) hG hS dX12_saddle_103
    · have hc13 : v12.toInt = 0 := (fi_eq rfl (show (0 : Int32).toInt = 0 by decide)).mp c9
      refine lv_sipush (v := (-1000)) hx hb dX12_saddle_22 (by decide) ?_
      have hk_m1000 : ((-1000) : Int32).toInt = (-1000) := by decide
      exact tk_iret (v := (-1000)) hx hb hr rfl hlocks (show (-1000) ≤ ((-1000) : Int32).toInt ∧ ((-1000) : Int32).toInt ≤ 9 from ⟨(by omega), (by omega)⟩) hG hS dX12_saddle_25
theorem dX12_rule_0 : decode cX12_rule 0 = .ok (.aload_n 0, 1) := by decide +kernel
theorem dX12_rule_1 : decode cX12_rule 1 = .ok (.getfield 10, 3) := by decide +kernel
theorem dX12_rule_4 : decode cX12_rule 4 = .ok (.iload_n 1, 1) := by decide +kernel
theorem dX12_rule_5 : decode cX12_rule 5 = .ok (.iload_n 2, 1) := by decide +kernel
theorem dX12_rule_6 : decode cX12_rule 6 = .ok (.invokevirtual 273, 3) := by decide +kernel
theorem dX12_rule_9 : decode cX12_rule 9 = .ok (.ifCond .eq 15, 3) := by decide +kernel
theorem dX12_rule_24 : decode cX12_rule 24 = .ok (.sipush (-1000), 3) := by decide +kernel
theorem dX12_rule_27 : decode cX12_rule 27 = .ok (.ireturn, 1) := by decide +kernel
theorem dX12_rule_12 : decode cX12_rule 12 = .ok (.aload_n 0, 1) := by decide +kernel
theorem dX12_rule_13 : decode cX12_rule 13 = .ok (.getfield 71, 3) := by decide +kernel
theorem dX12_rule_16 : decode cX12_rule 16 = .ok (.iload_n 1, 1) := by decide +kernel
theorem dX12_rule_17 : decode cX12_rule 17 = .ok (.iload_n 2, 1) := by decide +kernel
theorem dX12_rule_18 : decode cX12_rule 18 = .ok (.invokevirtual 287, 3) := by decide +kernel
theorem dX12_rule_21 : decode cX12_rule 21 = .ok (.goto 6, 3) := by decide +kernel
set_option maxHeartbeats 4000000 in
set_option maxRecDepth 100000 in
theorem k_X12_rule (l : Launch) (D : va_G) (cy : Nat → ClassId) (ld : Nat → Nat) (t : tk_T) (a0 : Nat) (p1 : Int32) (p2 : Int32) (ht_a0 : t a0 = (13, 0, 0)) : Met l yX12_rule (wl yX12_rule cX12_rule 3 (some .int)) ({ frames := 9, cells := 0, slots := 0, locals := 560 }) (tp D cy ld t [] [.ref a0, .int p1, .int p2] (fun H => True)) (ti D cy ld t [] (fun r H => (-1000) ≤ r.toInt ∧ r.toInt ≤ 1) (tk_w t [(20, 4, 4), (10, 4, 4), (20, 0, 0), (12, 0, 0), (9, 0, 0)])) 0 0 (tk_w t [(20, 4, 4), (10, 4, 4), (20, 0, 0), (12, 0, 0), (9, 0, 0)]) := by
  refine tk_met (y := yX12_rule) (cc := cX12_rule) (maxL := 3) (ret := (some .int)) (av := [.ref a0, .int p1, .int p2]) _ _ (by decide) (Nat.le_of_ble_eq_true rfl) ?_
  intro p e s m args below meth c hx hb hr hml hts htl hown hlocks hK H locs hH hG hS hB hZ ls hl
  have hown : s.vm.findClass RX12 = some m.cls := hown
  have hl : lv_has ls 3 [(0, .ref a0), (1, .int p1), (2, .int p2)] := hl
  have hr_p1 := tk_rng p1
  have hr_p2 := tk_rng p2
  refine lv_aload_n hx hb dX12_rule_0 rfl (lv_at hl 0 rfl) ?_
  refine tk_get (ci := 12) (C := RX12) (T := TX12) (N := 17) (sp := (8, 20, 3, 0)) hx hb htl inX12 hown hK hG ht_a0 (by decide) tk_no rfl 0 (by decide) (htl _ mw_15) (fun _ h9 => h9) rfl dX12_rule_1 (fun v9 hf1 hV9 => ?_)
  obtain ⟨rfl, ht_ld20⟩ := hV9
  have ht_ld20 : t (ld 20) = (3, 0, 0) := ht_ld20
  refine fx_top (v := .ref (ld 20)) rfl ?_
  refine lv_iload_n hx hb dX12_rule_4 rfl (lv_at hl 1 rfl) ?_
  refine lv_iload_n hx hb dX12_rule_5 rfl (lv_at hl 2 rfl) ?_
  refine tk_Vi (As := [.int p1, .int p2]) (rest := []) (ci := 2) ⟨hx, hb, hml, hown, hts⟩ hK hG hZ hS (k_X2_areFoes l D cy ld t (ld 20) p1 p2 ht_ld20) trivial ⟨callB_of 2 hts (wl_in mw_879) rfl rfl rfl (htl _ mw_14) (htl _ mw_1332) hd_yX2_areFoes ⟨(Nat.le_of_ble_eq_true rfl), (Nat.le_of_ble_eq_true rfl)⟩, htl _ mw_877, htl _ mw_878⟩ ht_ld20 (by decide) tk_no rfl (tk_w.pick [] rfl) rfl hl.1 rfl (Nat.le_of_ble_eq_true rfl) dX12_rule_6 ⟨(Nat.le_of_ble_eq_true rfl), (Nat.le_of_ble_eq_true rfl)⟩ (fun v2 H locs hpo hG hS hq9 => ?_)
  obtain ⟨hpo4, hpo5, hpo6, hpo7, hpo8⟩ := hpo
  refine lv_if_eq (tgt := 24) hx hb dX12_rule_9 (by decide) (fun c9 => ?_) (fun c9 => ?_)
  · have hc9 : v2.toInt = 0 := (fi_eq rfl (show (0 : Int32).toInt = 0 by decide)).mp c9
    refine lv_sipush (v := (-1000)) hx hb dX12_rule_24 (by decide) ?_
    have hk_m1000 : ((-1000) : Int32).toInt = (-1000) := by decide
    exact tk_iret (v := (-1000)) hx hb hr rfl hlocks (show (-1000) ≤ ((-1000) : Int32).toInt ∧ ((-1000) : Int32).toInt ≤ 1 from ⟨(by omega), (by omega)⟩) hG hS dX12_rule_27
  · have hc9 : ¬ (v2.toInt = 0) := fun h9 => c9 ((fi_eq rfl (show (0 : Int32).toInt = 0 by decide)).mpr h9)
    refine lv_aload_n hx hb dX12_rule_12 rfl (lv_at hl 0 rfl) ?_
    refine tk_get (ci := 12) (C := RX12) (T := TX12) (N := 17) (sp := (6, 6, 0, 0)) hx hb htl inX12 hown hK hG ht_a0 (by decide) tk_no rfl 7 (by decide) (htl _ mw_41) (fun _ h9 => h9) rfl dX12_rule_13 (fun v9 hf10 hV9 => ?_)
    obtain ⟨b11, rfl, ht_b11⟩ := hV9
    have ht_b11 : t b11 = (6, 0, 0) := ht_b11
    refine lv_iload_n hx hb dX12_rule_16 rfl (lv_at hl 1 rfl) ?_
    refine lv_iload_n hx hb dX12_rule_17 rfl (lv_at hl 2 rfl) ?_
    refine tk_Vi (As := [.int p1, .int p2]) (rest := []) (ci := 5) ⟨hx, hb, hml, hown, hts⟩ hK hG hZ hS (k_X5_resultByRule l D cy ld t b11 p1 p2 ht_b11 (by omega) (by omega) (by omega) (by omega)) trivial ⟨callB_of 2 hts (wl_in mw_1397) rfl rfl rfl (htl _ mw_40) (htl _ mw_1394) hd_yX5_resultByRule ⟨(Nat.le_of_ble_eq_true rfl), (Nat.le_of_ble_eq_true rfl)⟩, htl _ mw_1395, htl _ mw_1396⟩ ht_b11 (by decide) tk_no rfl (tk_w.pick [0, 1, 2, 3, 4] rfl) rfl hl.1 rfl (Nat.le_of_ble_eq_true rfl) dX12_rule_18 ⟨(Nat.le_of_ble_eq_true rfl), (Nat.le_of_ble_eq_true rfl)⟩ (fun v12 H locs hpo hG hS hq9 => ?_)
    obtain ⟨hpo14, hpo15⟩ := hpo
    refine lv_goto (tgt := 27) hx hb dX12_rule_21 (by decide) ?_
    exact tk_iret (v := v12) hx hb hr rfl hlocks (show (-1000) ≤ v12.toInt ∧ v12.toInt ≤ 1 from ⟨(by omega), (by omega)⟩) hG hS dX12_rule_27
theorem dX12_champions_0 : decode cX12_champions 0 = .ok (.iload_n 1, 1) := by decide +kernel
theorem dX12_champions_1 : decode cX12_champions 1 = .ok (.iconst 0, 1) := by decide +kernel
theorem dX12_champions_2 : decode cX12_champions 2 = .ok (.iconst 1, 1) := by decide +kernel
theorem dX12_champions_3 : decode cX12_champions 3 = .ok (.invokestatic 146, 3) := by decide +kernel
theorem dX12_champions_6 : decode cX12_champions 6 = .ok (.ifCond .ne 19, 3) := by decide +kernel
theorem dX12_champions_25 : decode cX12_champions 25 = .ok (.aload_n 0, 1) := by decide +kernel
theorem dX12_champions_26 : decode cX12_champions 26 = .ok (.getfield 71, 3) := by decide +kernel
theorem dX12_champions_29 : decode cX12_champions 29 = .ok (.iload_n 1, 1) := by decide +kernel
theorem dX12_champions_30 : decode cX12_champions 30 = .ok (.invokevirtual 293, 3) := by decide +kernel
theorem dX12_champions_33 : decode cX12_champions 33 = .ok (.ireturn, 1) := by decide +kernel
theorem dX12_champions_9 : decode cX12_champions 9 = .ok (.aload_n 0, 1) := by decide +kernel
theorem dX12_champions_10 : decode cX12_champions 10 = .ok (.getfield 10, 3) := by decide +kernel
theorem dX12_champions_13 : decode cX12_champions 13 = .ok (.iload_n 1, 1) := by decide +kernel
theorem dX12_champions_14 : decode cX12_champions 14 = .ok (.iconst 2, 1) := by decide +kernel
theorem dX12_champions_15 : decode cX12_champions 15 = .ok (.isub, 1) := by decide +kernel
theorem dX12_champions_16 : decode cX12_champions 16 = .ok (.iconst 0, 1) := by decide +kernel
theorem dX12_champions_17 : decode cX12_champions 17 = .ok (.invokevirtual 290, 3) := by decide +kernel
theorem dX12_champions_20 : decode cX12_champions 20 = .ok (.ifCond .ne 5, 3) := by decide +kernel
theorem dX12_champions_23 : decode cX12_champions 23 = .ok (.iconst (-1), 1) := by decide +kernel
theorem dX12_champions_24 : decode cX12_champions 24 = .ok (.ireturn, 1) := by decide +kernel
set_option maxHeartbeats 4000000 in
set_option maxRecDepth 100000 in
theorem k_X12_champions (l : Launch) (D : va_G) (cy : Nat → ClassId) (ld : Nat → Nat) (t : tk_T) (a0 : Nat) (p1 : Int32) (ht_a0 : t a0 = (13, 0, 0)) : Met l yX12_champions (wl yX12_champions cX12_champions 2 (some .int)) ({ frames := 14, cells := 0, slots := 0, locals := 910 }) (tp D cy ld t [] [.ref a0, .int p1] (fun H => True)) (ti D cy ld t [] (fun r H => True) (tk_w t [(20, 4, 4), (10, 4, 4), (20, 0, 0), (12, 0, 0), (9, 0, 0), (6, 0, 0)])) 0 0 (tk_w t [(20, 4, 4), (10, 4, 4), (20, 0, 0), (12, 0, 0), (9, 0, 0), (6, 0, 0)]) := by
  refine tk_met (y := yX12_champions) (cc := cX12_champions) (maxL := 2) (ret := (some .int)) (av := [.ref a0, .int p1]) _ _ (by decide) (Nat.le_of_ble_eq_true rfl) ?_
  intro p e s m args below meth c hx hb hr hml hts htl hown hlocks hK H locs hH hG hS hB hZ ls hl
  have hown : s.vm.findClass RX12 = some m.cls := hown
  have hl : lv_has ls 2 [(0, .ref a0), (1, .int p1)] := hl
  have hr_p1 := tk_rng p1
  refine lv_iload_n hx hb dX12_champions_0 rfl (lv_at hl 1 rfl) ?_
  refine lv_iconst (v := 0) hx hb dX12_champions_1 (by decide) ?_
  refine lv_iconst (v := 1) hx hb dX12_champions_2 (by decide) ?_
  have hk_0 : (0 : Int32).toInt = 0 := by decide
  have hk_1 : (1 : Int32).toInt = 1 := by decide
  refine tk_Si (As := [.int p1, .int 0, .int 1]) (rest := []) ⟨hx, hb, hml, hown, hts⟩ hK hG hZ hS (k_X12_within l D cy ld t _ p1 0 1) trivial ⟨callB_of 3 hts (wl_in mw_262) rfl rfl rfl (htl _ mw_2) (htl _ mw_277) hd_yX12_within ⟨(Nat.le_of_ble_eq_true rfl), (Nat.le_of_ble_eq_true rfl)⟩, htl _ mw_261⟩ (tk_w.pick [] rfl) rfl hl.1 rfl (Nat.le_of_ble_eq_true rfl) dX12_champions_3 ⟨(Nat.le_of_ble_eq_true rfl), (Nat.le_of_ble_eq_true rfl)⟩ (fun v1 H locs hpo hG hS hq9 => ?_)
  obtain ⟨hpo3, hpo4, hpo5, hpo6, hpo7⟩ := hpo
  refine lv_if_ne (tgt := 25) hx hb dX12_champions_6 (by decide) (fun c9 => ?_) (fun c9 => ?_)
  · have hc8 : ¬ (v1.toInt = 0) := fun h9 => c9 ((fi_eq rfl (show (0 : Int32).toInt = 0 by decide)).mpr h9)
    refine lv_aload_n hx hb dX12_champions_25 rfl (lv_at hl 0 rfl) ?_
    refine tk_get (ci := 12) (C := RX12) (T := TX12) (N := 17) (sp := (6, 6, 0, 0)) hx hb htl inX12 hown hK hG ht_a0 (by decide) tk_no rfl 7 (by decide) (htl _ mw_41) (fun _ h9 => h9) rfl dX12_champions_26 (fun v9 hf9 hV9 => ?_)
    obtain ⟨b10, rfl, ht_b10⟩ := hV9
    have ht_b10 : t b10 = (6, 0, 0) := ht_b10
    refine lv_iload_n hx hb dX12_champions_29 rfl (lv_at hl 1 rfl) ?_
    refine tk_Vi (As := [.int p1]) (rest := []) (ci := 5) ⟨hx, hb, hml, hown, hts⟩ hK hG hZ hS (k_X5_chooseChampions l D cy ld t b10 p1 ht_b10) trivial ⟨callB_of 1 hts (wl_in mw_1418) rfl rfl rfl (htl _ mw_40) (htl _ mw_1415) hd_yX5_chooseChampions ⟨(Nat.le_of_ble_eq_true rfl), (Nat.le_of_ble_eq_true rfl)⟩, htl _ mw_1416, htl _ mw_1417⟩ ht_b10 (by decide) tk_no rfl (tk_w.pick [0, 1, 2, 3, 4, 5] rfl) rfl hl.1 rfl (Nat.le_of_ble_eq_true rfl) dX12_champions_30 ⟨(Nat.le_of_ble_eq_true rfl), (Nat.le_of_ble_eq_true rfl)⟩ (fun v11 H locs hpo hG hS hq9 => ?_)
    exact tk_iret (v := v11) hx hb hr rfl hlocks trivial hG hS dX12_champions_33
  · have hc8 : v1.toInt = 0 := (fi_eq rfl (show (0 : Int32).toInt = 0 by decide)).mp c9
    refine lv_aload_n hx hb dX12_champions_9 rfl (lv_at hl 0 rfl) ?_
    refine tk_get (ci := 12) (C := RX12) (T := TX12) (N := 17) (sp := (8, 20, 3, 0)) hx hb htl inX12 hown hK hG ht_a0 (by decide) tk_no rfl 0 (by decide) (htl _ mw_15) (fun _ h9 => h9) rfl dX12_champions_10 (fun v9 hf13 hV9 => ?_)
    obtain ⟨rfl, ht_ld20⟩ := hV9
    have ht_ld20 : t (ld 20) = (3, 0, 0) := ht_ld20
    refine fx_top (v := .ref (ld 20)) rfl ?_
    refine lv_iload_n hx hb dX12_champions_13 rfl (lv_at hl 1 rfl) ?_
    refine lv_iconst (v := 2) hx hb dX12_champions_14 (by decide) ?_
    refine lv_isub hx hb dX12_champions_15 ?_
    obtain ⟨v14, hm_v14⟩ : ∃ z : Int32, p1 - 2 = z := ⟨_, rfl⟩
    refine fx_ti hm_v14 ?_
    refine lv_iconst (v := 0) hx hb dX12_champions_16 (by decide) ?_
    have hk_0 : (0 : Int32).toInt = 0 := by decide
    refine tk_Vi (As := [.int v14, .int 0]) (rest := []) (ci := 2) ⟨hx, hb, hml, hown, hts⟩ hK hG hZ hS (k_X2_isOfClan l D cy ld t (ld 20) v14 0 ht_ld20) trivial ⟨callB_of 2 hts (wl_in mw_1414) rfl rfl rfl (htl _ mw_14) (htl _ mw_1411) hd_yX2_isOfClan ⟨(Nat.le_of_ble_eq_true rfl), (Nat.le_of_ble_eq_true rfl)⟩, htl _ mw_1412, htl _ mw_1413⟩ ht_ld20 (by decide) tk_no rfl (tk_w.pick [] rfl) rfl hl.1 rfl (Nat.le_of_ble_eq_true rfl) dX12_champions_17 ⟨(Nat.le_of_ble_eq_true rfl), (Nat.le_of_ble_eq_true rfl)⟩ (fun v15 H locs hpo hG hS hq9 => ?_)
    obtain ⟨hpo17, hpo18, hpo19, hpo20, hpo21⟩ := hpo
    refine lv_if_ne (tgt := 25) hx hb dX12_champions_20 (by decide) (fun c9 => ?_) (fun c9 => ?_)
    · have hc22 : ¬ (v15.toInt = 0) := fun h9 => c9 ((fi_eq rfl (show (0 : Int32).toInt = 0 by decide)).mpr h9)
      refine lv_aload_n hx hb dX12_champions_25 rfl (lv_at hl 0 rfl) ?_
      refine tk_get (ci := 12) (C := RX12) (T := TX12) (N := 17) (sp := (6, 6, 0, 0)) hx hb htl inX12 hown hK hG ht_a0 (by decide) tk_no rfl 7 (by decide) (htl _ mw_41) (fun _ h9 => h9) rfl dX12_champions_26 (fun v9 hf23 hV9 => ?_)
      obtain ⟨b24, rfl, ht_b24⟩ := hV9
      have ht_b24 : t b24 = (6, 0, 0) := ht_b24
      refine lv_iload_n hx hb dX12_champions_29 rfl (lv_at hl 1 rfl) ?_
      refine tk_Vi (As := [.int p1]) (rest := []) (ci := 5) ⟨hx, hb, hml, hown, hts⟩ hK hG hZ hS (k_X5_chooseChampions l D cy ld t b24 p1 ht_b24) trivial ⟨callB_of 1 hts (wl_in mw_1418) rfl rfl rfl (htl _ mw_40) (htl _ mw_1415) hd_yX5_chooseChampions ⟨(Nat.le_of_ble_eq_true rfl), (Nat.le_of_ble_eq_true rfl)⟩, htl _ mw_1416, htl _ mw_1417⟩ ht_b24 (by decide) tk_no rfl (tk_w.pick [0, 1, 2, 3, 4, 5] rfl) rfl hl.1 rfl (Nat.le_of_ble_eq_true rfl) dX12_champions_30 ⟨(Nat.le_of_ble_eq_true rfl), (Nat.le_of_ble_eq_true rfl)⟩ (fun v25 H locs hpo hG hS hq9 => ?_)
      exact tk_iret (v := v25) hx hb hr rfl hlocks trivial hG hS dX12_champions_33
    · have hc22 : v15.toInt = 0 := (fi_eq rfl (show (0 : Int32).toInt = 0 by decide)).mp c9
      refine lv_iconst (v := (-1)) hx hb dX12_champions_23 (by decide) ?_
      have hk_m1 : ((-1) : Int32).toInt = (-1) := by decide
      exact tk_iret (v := (-1)) hx hb hr rfl hlocks trivial hG hS dX12_champions_24
theorem dX12_made_0 : decode cX12_made 0 = .ok (.iload_n 1, 1) := by decide +kernel
theorem dX12_made_1 : decode cX12_made 1 = .ok (.iconst 1, 1) := by decide +kernel
theorem dX12_made_2 : decode cX12_made 2 = .ok (.bipush 36, 2) := by decide +kernel
theorem dX12_made_4 : decode cX12_made 4 = .ok (.invokestatic 146, 3) := by decide +kernel
theorem dX12_made_7 : decode cX12_made 7 = .ok (.ifCond .ne 5, 3) := by decide +kernel
theorem dX12_made_12 : decode cX12_made 12 = .ok (.aload_n 0, 1) := by decide +kernel
theorem dX12_made_13 : decode cX12_made 13 = .ok (.getfield 85, 3) := by decide +kernel
theorem dX12_made_16 : decode cX12_made 16 = .ok (.iload_n 1, 1) := by decide +kernel
theorem dX12_made_17 : decode cX12_made 17 = .ok (.iload_n 2, 1) := by decide +kernel
theorem dX12_made_18 : decode cX12_made 18 = .ok (.invokevirtual 296, 3) := by decide +kernel
theorem dX12_made_21 : decode cX12_made 21 = .ok (.ireturn, 1) := by decide +kernel
theorem dX12_made_10 : decode cX12_made 10 = .ok (.iconst (-1), 1) := by decide +kernel
theorem dX12_made_11 : decode cX12_made 11 = .ok (.ireturn, 1) := by decide +kernel
set_option maxHeartbeats 4000000 in
set_option maxRecDepth 100000 in
theorem k_X12_made (l : Launch) (D : va_G) (cy : Nat → ClassId) (ld : Nat → Nat) (t : tk_T) (a0 : Nat) (p1 : Int32) (p2 : Int32) (ht_a0 : t a0 = (13, 0, 0)) : Met l yX12_made (wl yX12_made cX12_made 3 (some .int)) ({ frames := 10, cells := 0, slots := 0, locals := 630 }) (tp D cy ld t [] [.ref a0, .int p1, .int p2] (fun H => True)) (ti D cy ld t [] (fun r H => True) (tk_w t [(4, 0, 0), (22, 0, 0), (20, 0, 0)])) 0 0 (tk_w t [(4, 0, 0), (22, 0, 0), (20, 0, 0)]) := by
  refine tk_met (y := yX12_made) (cc := cX12_made) (maxL := 3) (ret := (some .int)) (av := [.ref a0, .int p1, .int p2]) _ _ (by decide) (Nat.le_of_ble_eq_true rfl) ?_
  intro p e s m args below meth c hx hb hr hml hts htl hown hlocks hK H locs hH hG hS hB hZ ls hl
  have hown : s.vm.findClass RX12 = some m.cls := hown
  have hl : lv_has ls 3 [(0, .ref a0), (1, .int p1), (2, .int p2)] := hl
  have hr_p1 := tk_rng p1
  have hr_p2 := tk_rng p2
  refine lv_iload_n hx hb dX12_made_0 rfl (lv_at hl 1 rfl) ?_
  refine lv_iconst (v := 1) hx hb dX12_made_1 (by decide) ?_
  refine lv_bipush (v := 36) hx hb dX12_made_2 (by decide) ?_
  have hk_1 : (1 : Int32).toInt = 1 := by decide
  have hk_36 : (36 : Int32).toInt = 36 := by decide
  refine tk_Si (As := [.int p1, .int 1, .int 36]) (rest := []) ⟨hx, hb, hml, hown, hts⟩ hK hG hZ hS (k_X12_within l D cy ld t _ p1 1 36) trivial ⟨callB_of 3 hts (wl_in mw_262) rfl rfl rfl (htl _ mw_2) (htl _ mw_277) hd_yX12_within ⟨(Nat.le_of_ble_eq_true rfl), (Nat.le_of_ble_eq_true rfl)⟩, htl _ mw_261⟩ (tk_w.pick [] rfl) rfl hl.1 rfl (Nat.le_of_ble_eq_true rfl) dX12_made_4 ⟨(Nat.le_of_ble_eq_true rfl), (Nat.le_of_ble_eq_true rfl)⟩ (fun v1 H locs hpo hG hS hq9 => ?_)
  obtain ⟨hpo3, hpo4, hpo5, hpo6, hpo7⟩ := hpo
  refine lv_if_ne (tgt := 12) hx hb dX12_made_7 (by decide) (fun c9 => ?_) (fun c9 => ?_)
  · have hc8 : ¬ (v1.toInt = 0) := fun h9 => c9 ((fi_eq rfl (show (0 : Int32).toInt = 0 by decide)).mpr h9)
    refine lv_aload_n hx hb dX12_made_12 rfl (lv_at hl 0 rfl) ?_
    refine tk_get (ci := 12) (C := RX12) (T := TX12) (N := 17) (sp := (6, 4, 0, 0)) hx hb htl inX12 hown hK hG ht_a0 (by decide) tk_no rfl 9 (by decide) (htl _ mw_49) (fun _ h9 => h9) rfl dX12_made_13 (fun v9 hf9 hV9 => ?_)
    obtain ⟨b10, rfl, ht_b10⟩ := hV9
    have ht_b10 : t b10 = (4, 0, 0) := ht_b10
    refine lv_iload_n hx hb dX12_made_16 rfl (lv_at hl 1 rfl) ?_
    refine lv_iload_n hx hb dX12_made_17 rfl (lv_at hl 2 rfl) ?_
    refine tk_Vi (As := [.int p1, .int p2]) (rest := []) (ci := 3) ⟨hx, hb, hml, hown, hts⟩ hK hG hZ hS (k_X3_strongest l D cy ld t b10 p1 p2 ht_b10) trivial ⟨callB_of 2 hts (wl_in mw_1454) rfl rfl rfl (htl _ mw_48) (htl _ mw_1451) hd_yX3_strongest ⟨(Nat.le_of_ble_eq_true rfl), (Nat.le_of_ble_eq_true rfl)⟩, htl _ mw_1452, htl _ mw_1453⟩ ht_b10 (by decide) tk_no rfl (tk_w.pick [0, 1, 2] rfl) rfl hl.1 rfl (Nat.le_of_ble_eq_true rfl) dX12_made_18 ⟨(Nat.le_of_ble_eq_true rfl), (Nat.le_of_ble_eq_true rfl)⟩ (fun v11 H locs hpo hG hS hq9 => ?_)
    exact tk_iret (v := v11) hx hb hr rfl hlocks trivial hG hS dX12_made_21
  · have hc8 : v1.toInt = 0 := (fi_eq rfl (show (0 : Int32).toInt = 0 by decide)).mp c9
    refine lv_iconst (v := (-1)) hx hb dX12_made_10 (by decide) ?_
    have hk_m1 : ((-1) : Int32).toInt = (-1) := by decide
    exact tk_iret (v := (-1)) hx hb hr rfl hlocks trivial hG hS dX12_made_11
theorem dX12_sight_0 : decode cX12_sight 0 = .ok (.iload_n 3, 1) := by decide +kernel
theorem dX12_sight_1 : decode cX12_sight 1 = .ok (.iconst 0, 1) := by decide +kernel
theorem dX12_sight_2 : decode cX12_sight 2 = .ok (.bipush 11, 2) := by decide +kernel
theorem dX12_sight_4 : decode cX12_sight 4 = .ok (.invokestatic 146, 3) := by decide +kernel
theorem dX12_sight_7 : decode cX12_sight 7 = .ok (.ifCond .eq 23, 3) := by decide +kernel
theorem dX12_sight_30 : decode cX12_sight 30 = .ok (.aload_n 0, 1) := by decide +kernel
theorem dX12_sight_31 : decode cX12_sight 31 = .ok (.iconst (-1), 1) := by decide +kernel
theorem dX12_sight_32 : decode cX12_sight 32 = .ok (.invokevirtual 159, 3) := by decide +kernel
theorem dX12_sight_35 : decode cX12_sight 35 = .ok (.ireturn, 1) := by decide +kernel
theorem dX12_sight_10 : decode cX12_sight 10 = .ok (.iload 4, 2) := by decide +kernel
theorem dX12_sight_12 : decode cX12_sight 12 = .ok (.iconst 0, 1) := by decide +kernel
theorem dX12_sight_13 : decode cX12_sight 13 = .ok (.iconst 1, 1) := by decide +kernel
theorem dX12_sight_14 : decode cX12_sight 14 = .ok (.invokestatic 146, 3) := by decide +kernel
theorem dX12_sight_17 : decode cX12_sight 17 = .ok (.ifCond .eq 13, 3) := by decide +kernel
theorem dX12_sight_20 : decode cX12_sight 20 = .ok (.iload 5, 2) := by decide +kernel
theorem dX12_sight_22 : decode cX12_sight 22 = .ok (.iconst 0, 1) := by decide +kernel
theorem dX12_sight_23 : decode cX12_sight 23 = .ok (.iconst 1, 1) := by decide +kernel
theorem dX12_sight_24 : decode cX12_sight 24 = .ok (.invokestatic 146, 3) := by decide +kernel
theorem dX12_sight_27 : decode cX12_sight 27 = .ok (.ifCond .ne 9, 3) := by decide +kernel
theorem dX12_sight_36 : decode cX12_sight 36 = .ok (.aload_n 0, 1) := by decide +kernel
theorem dX12_sight_37 : decode cX12_sight 37 = .ok (.getfield 10, 3) := by decide +kernel
theorem dX12_sight_40 : decode cX12_sight 40 = .ok (.iload_n 1, 1) := by decide +kernel
theorem dX12_sight_41 : decode cX12_sight 41 = .ok (.invokevirtual 143, 3) := by decide +kernel
theorem dX12_sight_44 : decode cX12_sight 44 = .ok (.ifCond .eq 14, 3) := by decide +kernel
theorem dX12_sight_58 : decode cX12_sight 58 = .ok (.aload_n 0, 1) := by decide +kernel
theorem dX12_sight_59 : decode cX12_sight 59 = .ok (.bipush (-2), 2) := by decide +kernel
theorem dX12_sight_61 : decode cX12_sight 61 = .ok (.invokevirtual 159, 3) := by decide +kernel
theorem dX12_sight_64 : decode cX12_sight 64 = .ok (.ireturn, 1) := by decide +kernel
theorem dX12_sight_47 : decode cX12_sight 47 = .ok (.aload_n 0, 1) := by decide +kernel
theorem dX12_sight_48 : decode cX12_sight 48 = .ok (.getfield 10, 3) := by decide +kernel
theorem dX12_sight_51 : decode cX12_sight 51 = .ok (.iload_n 2, 1) := by decide +kernel
theorem dX12_sight_52 : decode cX12_sight 52 = .ok (.invokevirtual 114, 3) := by decide +kernel
theorem dX12_sight_55 : decode cX12_sight 55 = .ok (.ifCond .ne 10, 3) := by decide +kernel
theorem dX12_sight_65 : decode cX12_sight 65 = .ok (.aload_n 0, 1) := by decide +kernel
theorem dX12_sight_66 : decode cX12_sight 66 = .ok (.aload_n 0, 1) := by decide +kernel
theorem dX12_sight_67 : decode cX12_sight 67 = .ok (.getfield 10, 3) := by decide +kernel
theorem dX12_sight_70 : decode cX12_sight 70 = .ok (.iload_n 1, 1) := by decide +kernel
theorem dX12_sight_71 : decode cX12_sight 71 = .ok (.iload_n 2, 1) := by decide +kernel
theorem dX12_sight_72 : decode cX12_sight 72 = .ok (.iload_n 3, 1) := by decide +kernel
theorem dX12_sight_73 : decode cX12_sight 73 = .ok (.iload 4, 2) := by decide +kernel
theorem dX12_sight_75 : decode cX12_sight 75 = .ok (.iload 5, 2) := by decide +kernel
theorem dX12_sight_77 : decode cX12_sight 77 = .ok (.invokevirtual 299, 3) := by decide +kernel
theorem dX12_sight_80 : decode cX12_sight 80 = .ok (.invokevirtual 110, 3) := by decide +kernel
theorem dX12_sight_83 : decode cX12_sight 83 = .ok (.ireturn, 1) := by decide +kernel
theorem dX12_forget_0 : decode cX12_forget 0 = .ok (.aload_n 0, 1) := by decide +kernel
theorem dX12_forget_1 : decode cX12_forget 1 = .ok (.getfield 10, 3) := by decide +kernel
theorem dX12_forget_4 : decode cX12_forget 4 = .ok (.getfield 303, 3) := by decide +kernel
theorem dX12_forget_7 : decode cX12_forget 7 = .ok (.istore_n 1, 1) := by decide +kernel
theorem dX12_forget_8 : decode cX12_forget 8 = .ok (.aload_n 0, 1) := by decide +kernel
theorem dX12_forget_9 : decode cX12_forget 9 = .ok (.getfield 10, 3) := by decide +kernel
theorem dX12_forget_12 : decode cX12_forget 12 = .ok (.iconst 0, 1) := by decide +kernel
theorem dX12_forget_13 : decode cX12_forget 13 = .ok (.putfield 303, 3) := by decide +kernel
theorem dX12_forget_16 : decode cX12_forget 16 = .ok (.iload_n 1, 1) := by decide +kernel
theorem dX12_forget_17 : decode cX12_forget 17 = .ok (.ireturn, 1) := by decide +kernel
theorem dX12_fits_0 : decode cX12_fits 0 = .ok (.iload_n 1, 1) := by decide +kernel
theorem dX12_fits_1 : decode cX12_fits 1 = .ok (.iconst 0, 1) := by decide +kernel
theorem dX12_fits_2 : decode cX12_fits 2 = .ok (.bipush 9, 2) := by decide +kernel
theorem dX12_fits_4 : decode cX12_fits 4 = .ok (.invokestatic 146, 3) := by decide +kernel
theorem dX12_fits_7 : decode cX12_fits 7 = .ok (.ifCond .ne 5, 3) := by decide +kernel
theorem dX12_fits_12 : decode cX12_fits 12 = .ok (.iload_n 2, 1) := by decide +kernel
theorem dX12_fits_13 : decode cX12_fits 13 = .ok (.tableswitch 54 0 2 #[27, 36, 45], 27) := by decide +kernel
theorem dX12_fits_40 : decode cX12_fits 40 = .ok (.aload_n 0, 1) := by decide +kernel
theorem dX12_fits_41 : decode cX12_fits 41 = .ok (.getfield 92, 3) := by decide +kernel
theorem dX12_fits_44 : decode cX12_fits 44 = .ok (.iload_n 1, 1) := by decide +kernel
theorem dX12_fits_45 : decode cX12_fits 45 = .ok (.invokevirtual 306, 3) := by decide +kernel
theorem dX12_fits_48 : decode cX12_fits 48 = .ok (.ireturn, 1) := by decide +kernel
theorem dX12_fits_49 : decode cX12_fits 49 = .ok (.aload_n 0, 1) := by decide +kernel
theorem dX12_fits_50 : decode cX12_fits 50 = .ok (.getfield 92, 3) := by decide +kernel
theorem dX12_fits_53 : decode cX12_fits 53 = .ok (.iload_n 1, 1) := by decide +kernel
theorem dX12_fits_54 : decode cX12_fits 54 = .ok (.invokevirtual 309, 3) := by decide +kernel
theorem dX12_fits_57 : decode cX12_fits 57 = .ok (.ireturn, 1) := by decide +kernel
theorem dX12_fits_58 : decode cX12_fits 58 = .ok (.aload_n 0, 1) := by decide +kernel
theorem dX12_fits_59 : decode cX12_fits 59 = .ok (.getfield 92, 3) := by decide +kernel
theorem dX12_fits_62 : decode cX12_fits 62 = .ok (.iload_n 1, 1) := by decide +kernel
theorem dX12_fits_63 : decode cX12_fits 63 = .ok (.invokevirtual 312, 3) := by decide +kernel
theorem dX12_fits_66 : decode cX12_fits 66 = .ok (.ireturn, 1) := by decide +kernel
theorem dX12_fits_67 : decode cX12_fits 67 = .ok (.aload_n 0, 1) := by decide +kernel
theorem dX12_fits_68 : decode cX12_fits 68 = .ok (.getfield 10, 3) := by decide +kernel
theorem dX12_fits_71 : decode cX12_fits 71 = .ok (.iload_n 2, 1) := by decide +kernel
theorem dX12_fits_72 : decode cX12_fits 72 = .ok (.iconst 3, 1) := by decide +kernel
theorem dX12_fits_73 : decode cX12_fits 73 = .ok (.isub, 1) := by decide +kernel
theorem dX12_fits_74 : decode cX12_fits 74 = .ok (.invokevirtual 114, 3) := by decide +kernel
theorem dX12_fits_77 : decode cX12_fits 77 = .ok (.ifCond .eq 17, 3) := by decide +kernel
theorem dX12_fits_94 : decode cX12_fits 94 = .ok (.iconst (-1), 1) := by decide +kernel
theorem dX12_fits_95 : decode cX12_fits 95 = .ok (.ireturn, 1) := by decide +kernel
theorem dX12_fits_80 : decode cX12_fits 80 = .ok (.aload_n 0, 1) := by decide +kernel
theorem dX12_fits_81 : decode cX12_fits 81 = .ok (.getfield 92, 3) := by decide +kernel
theorem dX12_fits_84 : decode cX12_fits 84 = .ok (.iload_n 1, 1) := by decide +kernel
theorem dX12_fits_85 : decode cX12_fits 85 = .ok (.iload_n 2, 1) := by decide +kernel
theorem dX12_fits_86 : decode cX12_fits 86 = .ok (.iconst 3, 1) := by decide +kernel
theorem dX12_fits_87 : decode cX12_fits 87 = .ok (.isub, 1) := by decide +kernel
theorem dX12_fits_88 : decode cX12_fits 88 = .ok (.invokevirtual 315, 3) := by decide +kernel
theorem dX12_fits_91 : decode cX12_fits 91 = .ok (.goto 4, 3) := by decide +kernel
theorem dX12_fits_10 : decode cX12_fits 10 = .ok (.iconst (-1), 1) := by decide +kernel
theorem dX12_fits_11 : decode cX12_fits 11 = .ok (.ireturn, 1) := by decide +kernel
set_option maxHeartbeats 4000000 in
set_option maxRecDepth 100000 in
theorem k_X12_fits (l : Launch) (D : va_G) (cy : Nat → ClassId) (ld : Nat → Nat) (t : tk_T) (a0 : Nat) (p1 : Int32) (p2 : Int32) (ht_a0 : t a0 = (13, 0, 0)) : Met l yX12_fits (wl yX12_fits cX12_fits 3 (some .int)) ({ frames := 10, cells := 0, slots := 0, locals := 630 }) (tp D cy ld t [] [.ref a0, .int p1, .int p2] (fun H => True)) (ti D cy ld t [] (fun r H => (-1) ≤ r.toInt ∧ r.toInt ≤ 999) (tk_w t [(20, 0, 0), (12, 0, 0), (9, 0, 0)])) 0 0 (tk_w t [(20, 0, 0), (12, 0, 0), (9, 0, 0)]) := by
  refine tk_met (y := yX12_fits) (cc := cX12_fits) (maxL := 3) (ret := (some .int)) (av := [.ref a0, .int p1, .int p2]) _ _ (by decide) (Nat.le_of_ble_eq_true rfl) ?_
  intro p e s m args below meth c hx hb hr hml hts htl hown hlocks hK H locs hH hG hS hB hZ ls hl
  have hown : s.vm.findClass RX12 = some m.cls := hown
  have hl : lv_has ls 3 [(0, .ref a0), (1, .int p1), (2, .int p2)] := hl
  have hr_p1 := tk_rng p1
  have hr_p2 := tk_rng p2
  refine lv_iload_n hx hb dX12_fits_0 rfl (lv_at hl 1 rfl) ?_
  refine lv_iconst (v := 0) hx hb dX12_fits_1 (by decide) ?_
  refine lv_bipush (v := 9) hx hb dX12_fits_2 (by decide) ?_
  have hk_0 : (0 : Int32).toInt = 0 := by decide
  have hk_9 : (9 : Int32).toInt = 9 := by decide
  refine tk_Si (As := [.int p1, .int 0, .int 9]) (rest := []) ⟨hx, hb, hml, hown, hts⟩ hK hG hZ hS (k_X12_within l D cy ld t _ p1 0 9) trivial ⟨callB_of 3 hts (wl_in mw_262) rfl rfl rfl (htl _ mw_2) (htl _ mw_277) hd_yX12_within ⟨(Nat.le_of_ble_eq_true rfl), (Nat.le_of_ble_eq_true rfl)⟩, htl _ mw_261⟩ (tk_w.pick [] rfl) rfl hl.1 rfl (Nat.le_of_ble_eq_true rfl) dX12_fits_4 ⟨(Nat.le_of_ble_eq_true rfl), (Nat.le_of_ble_eq_true rfl)⟩ (fun v1 H locs hpo hG hS hq9 => ?_)
  obtain ⟨hpo3, hpo4, hpo5, hpo6, hpo7⟩ := hpo
  refine lv_if_ne (tgt := 12) hx hb dX12_fits_7 (by decide) (fun c9 => ?_) (fun c9 => ?_)
  · have hc8 : ¬ (v1.toInt = 0) := fun h9 => c9 ((fi_eq rfl (show (0 : Int32).toInt = 0 by decide)).mpr h9)
    refine lv_iload_n hx hb dX12_fits_12 rfl (lv_at hl 2 rfl) ?_
    rcases (show p2.toInt = 0 ∨ p2.toInt = 1 ∨ p2.toInt = 2 ∨ p2.toInt < 0 ∨ 2 < p2.toInt by omega) with hsw | hsw | hsw | hsw | hsw
    · refine lv_tableIn (off := 27) (tgt := 40) hx hb dX12_fits_13 (by omega) (by omega) (by rw [hsw]; rfl) (by decide) ?_
      refine lv_aload_n hx hb dX12_fits_40 rfl (lv_at hl 0 rfl) ?_
      refine tk_get (ci := 12) (C := RX12) (T := TX12) (N := 17) (sp := (6, 11, 0, 0)) hx hb htl inX12 hown hK hG ht_a0 (by decide) tk_no rfl 10 (by decide) (htl _ mw_53) (fun _ h9 => h9) rfl dX12_fits_41 (fun v9 hf9 hV9 => ?_)
      obtain ⟨b10, rfl, ht_b10⟩ := hV9
      have ht_b10 : t b10 = (11, 0, 0) := ht_b10
      refine lv_iload_n hx hb dX12_fits_44 rfl (lv_at hl 1 rfl) ?_
      refine tk_Vi (As := [.int p1]) (rest := []) (ci := 10) ⟨hx, hb, hml, hown, hts⟩ hK hG hZ hS (k_X10_leastWake l D cy ld t b10 p1 ht_b10) trivial ⟨callB_of 1 hts (wl_in mw_1511) rfl rfl rfl (htl _ mw_52) (htl _ mw_1508) hd_yX10_leastWake ⟨(Nat.le_of_ble_eq_true rfl), (Nat.le_of_ble_eq_true rfl)⟩, htl _ mw_1509, htl _ mw_1510⟩ ht_b10 (by decide) tk_no rfl (tk_w.pick [0, 1, 2] rfl) rfl hl.1 rfl (Nat.le_of_ble_eq_true rfl) dX12_fits_45 ⟨(Nat.le_of_ble_eq_true rfl), (Nat.le_of_ble_eq_true rfl)⟩ (fun v11 H locs hpo hG hS hq9 => ?_)
      obtain ⟨hpo13, hpo14⟩ := hpo
      exact tk_iret (v := v11) hx hb hr rfl hlocks (show (-1) ≤ v11.toInt ∧ v11.toInt ≤ 999 from ⟨(by omega), (by omega)⟩) hG hS dX12_fits_48
    · refine lv_tableIn (off := 36) (tgt := 49) hx hb dX12_fits_13 (by omega) (by omega) (by rw [hsw]; rfl) (by decide) ?_
      refine lv_aload_n hx hb dX12_fits_49 rfl (lv_at hl 0 rfl) ?_
      refine tk_get (ci := 12) (C := RX12) (T := TX12) (N := 17) (sp := (6, 11, 0, 0)) hx hb htl inX12 hown hK hG ht_a0 (by decide) tk_no rfl 10 (by decide) (htl _ mw_53) (fun _ h9 => h9) rfl dX12_fits_50 (fun v9 hf15 hV9 => ?_)
      obtain ⟨b16, rfl, ht_b16⟩ := hV9
      have ht_b16 : t b16 = (11, 0, 0) := ht_b16
      refine lv_iload_n hx hb dX12_fits_53 rfl (lv_at hl 1 rfl) ?_
      refine tk_Vi (As := [.int p1]) (rest := []) (ci := 10) ⟨hx, hb, hml, hown, hts⟩ hK hG hZ hS (k_X10_greatestWake l D cy ld t b16 p1 ht_b16) trivial ⟨callB_of 1 hts (wl_in mw_1540) rfl rfl rfl (htl _ mw_52) (htl _ mw_1537) hd_yX10_greatestWake ⟨(Nat.le_of_ble_eq_true rfl), (Nat.le_of_ble_eq_true rfl)⟩, htl _ mw_1538, htl _ mw_1539⟩ ht_b16 (by decide) tk_no rfl (tk_w.pick [0, 1, 2] rfl) rfl hl.1 rfl (Nat.le_of_ble_eq_true rfl) dX12_fits_54 ⟨(Nat.le_of_ble_eq_true rfl), (Nat.le_of_ble_eq_true rfl)⟩ (fun v17 H locs hpo hG hS hq9 => ?_)
      obtain ⟨hpo19, hpo20⟩ := hpo
      exact tk_iret (v := v17) hx hb hr rfl hlocks (show (-1) ≤ v17.toInt ∧ v17.toInt ≤ 999 from ⟨(by omega), (by omega)⟩) hG hS dX12_fits_57
    · refine lv_tableIn (off := 45) (tgt := 58) hx hb dX12_fits_13 (by omega) (by omega) (by rw [hsw]; rfl) (by decide) ?_
      refine lv_aload_n hx hb dX12_fits_58 rfl (lv_at hl 0 rfl) ?_
      refine tk_get (ci := 12) (C := RX12) (T := TX12) (N := 17) (sp := (6, 11, 0, 0)) hx hb htl inX12 hown hK hG ht_a0 (by decide) tk_no rfl 10 (by decide) (htl _ mw_53) (fun _ h9 => h9) rfl dX12_fits_59 (fun v9 hf21 hV9 => ?_)
      obtain ⟨b22, rfl, ht_b22⟩ := hV9
      have ht_b22 : t b22 = (11, 0, 0) := ht_b22
      refine lv_iload_n hx hb dX12_fits_62 rfl (lv_at hl 1 rfl) ?_
      refine tk_Vi (As := [.int p1]) (rest := []) (ci := 10) ⟨hx, hb, hml, hown, hts⟩ hK hG hZ hS (k_X10_howMany l D cy ld t b22 p1 ht_b22) trivial ⟨callB_of 1 hts (wl_in mw_1544) rfl rfl rfl (htl _ mw_52) (htl _ mw_1541) hd_yX10_howMany ⟨(Nat.le_of_ble_eq_true rfl), (Nat.le_of_ble_eq_true rfl)⟩, htl _ mw_1542, htl _ mw_1543⟩ ht_b22 (by decide) tk_no rfl (tk_w.pick [0, 1, 2] rfl) rfl hl.1 rfl (Nat.le_of_ble_eq_true rfl) dX12_fits_63 ⟨(Nat.le_of_ble_eq_true rfl), (Nat.le_of_ble_eq_true rfl)⟩ (fun v23 H locs hpo hG hS hq9 => ?_)
      obtain ⟨hpo25, hpo26⟩ := hpo
      exact tk_iret (v := v23) hx hb hr rfl hlocks (show (-1) ≤ v23.toInt ∧ v23.toInt ≤ 999 from ⟨(by omega), (by omega)⟩) hG hS dX12_fits_66
    · refine lv_tableOut (tgt := 67) hx hb dX12_fits_13 (by omega) (by decide) ?_
      refine lv_aload_n hx hb dX12_fits_67 rfl (lv_at hl 0 rfl) ?_
      refine tk_get (ci := 12) (C := RX12) (T := TX12) (N := 17) (sp := (8, 20, 3, 0)) hx hb htl inX12 hown hK hG ht_a0 (by decide) tk_no rfl 0 (by decide) (htl _ mw_15) (fun _ h9 => h9) rfl dX12_fits_68 (fun v9 hf27 hV9 => ?_)
      obtain ⟨rfl, ht_ld20⟩ := hV9
      have ht_ld20 : t (ld 20) = (3, 0, 0) := ht_ld20
      refine fx_top (v := .ref (ld 20)) rfl ?_
      refine lv_iload_n hx hb dX12_fits_71 rfl (lv_at hl 2 rfl) ?_
      refine lv_iconst (v := 3) hx hb dX12_fits_72 (by decide) ?_
      refine lv_isub hx hb dX12_fits_73 ?_
      obtain ⟨v28, hm_v28⟩ : ∃ z : Int32, p2 - 3 = z := ⟨_, rfl⟩
      refine fx_ti hm_v28 ?_
      refine tk_Vi (As := [.int v28]) (rest := []) (ci := 2) ⟨hx, hb, hml, hown, hts⟩ hK hG hZ hS (k_X2_isSinger l D cy ld t (ld 20) v28 ht_ld20) trivial ⟨callB_of 1 hts (wl_in mw_311) rfl rfl rfl (htl _ mw_14) (htl _ mw_308) hd_yX2_isSinger ⟨(Nat.le_of_ble_eq_true rfl), (Nat.le_of_ble_eq_true rfl)⟩, htl _ mw_309, htl _ mw_310⟩ ht_ld20 (by decide) tk_no rfl (tk_w.pick [] rfl) rfl hl.1 rfl (Nat.le_of_ble_eq_true rfl) dX12_fits_74 ⟨(Nat.le_of_ble_eq_true rfl), (Nat.le_of_ble_eq_true rfl)⟩ (fun v29 H locs hpo hG hS hq9 => ?_)
      obtain ⟨hpo31, hpo32, hpo33, hpo34, hpo35⟩ := hpo
      refine lv_if_eq (tgt := 94) hx hb dX12_fits_77 (by decide) (fun c9 => ?_) (fun c9 => ?_)
      · have hc36 : v29.toInt = 0 := (fi_eq rfl (show (0 : Int32).toInt = 0 by decide)).mp c9
        refine lv_iconst (v := (-1)) hx hb dX12_fits_94 (by decide) ?_
        have hk_m1 : ((-1) : Int32).toInt = (-1) := by decide
        exact tk_iret (v := (-1)) hx hb hr rfl hlocks (show (-1) ≤ ((-1) : Int32).toInt ∧ ((-1) : Int32).toInt ≤ 999 from ⟨(by omega), (by omega)⟩) hG hS dX12_fits_95
      · have hc36 : ¬ (v29.toInt = 0) := fun h9 => c9 ((fi_eq rfl (show (0 : Int32).toInt = 0 by decide)).mpr h9)
        refine lv_aload_n hx hb dX12_fits_80 rfl (lv_at hl 0 rfl) ?_
        refine tk_get (ci := 12) (C := RX12) (T := TX12) (N := 17) (sp := (6, 11, 0, 0)) hx hb htl inX12 hown hK hG ht_a0 (by decide) tk_no rfl 10 (by decide) (htl _ mw_53) (fun _ h9 => h9) rfl dX12_fits_81 (fun v9 hf37 hV9 => ?_)
        obtain ⟨b38, rfl, ht_b38⟩ := hV9
        have ht_b38 : t b38 = (11, 0, 0) := ht_b38
        refine lv_iload_n hx hb dX12_fits_84 rfl (lv_at hl 1 rfl) ?_
        refine lv_iload_n hx hb dX12_fits_85 rfl (lv_at hl 2 rfl) ?_
        refine lv_iconst (v := 3) hx hb dX12_fits_86 (by decide) ?_
        refine lv_isub hx hb dX12_fits_87 ?_
        refine fx_ti hm_v28 ?_
        refine tk_Vi (As := [.int p1, .int v28]) (rest := []) (ci := 10) ⟨hx, hb, hml, hown, hts⟩ hK hG hZ hS (k_X10_nextVerse l D cy ld t b38 p1 v28 ht_b38 (by omega) (by omega)) trivial ⟨callB_of 2 hts (wl_in mw_1548) rfl rfl rfl (htl _ mw_52) (htl _ mw_1545) hd_yX10_nextVerse ⟨(Nat.le_of_ble_eq_true rfl), (Nat.le_of_ble_eq_true rfl)⟩, htl _ mw_1546, htl _ mw_1547⟩ ht_b38 (by decide) tk_no rfl (tk_w.pick [0, 1, 2] rfl) rfl hl.1 rfl (Nat.le_of_ble_eq_true rfl) dX12_fits_88 ⟨(Nat.le_of_ble_eq_true rfl), (Nat.le_of_ble_eq_true rfl)⟩ (fun v40 H locs hpo hG hS hq9 => ?_)
        obtain ⟨hpo42, hpo43⟩ := hpo
        refine lv_goto (tgt := 95) hx hb dX12_fits_91 (by decide) ?_
        exact tk_iret (v := v40) hx hb hr rfl hlocks (show (-1) ≤ v40.toInt ∧ v40.toInt ≤ 999 from ⟨(by omega), (by omega)⟩) hG hS dX12_fits_95
    · refine lv_tableOut (tgt := 67) hx hb dX12_fits_13 (by omega) (by decide) ?_
      refine lv_aload_n hx hb dX12_fits_67 rfl (lv_at hl 0 rfl) ?_
      refine tk_get (ci := 12) (C := RX12) (T := TX12) (N := 17) (sp := (8, 20, 3, 0)) hx hb htl inX12 hown hK hG ht_a0 (by decide) tk_no rfl 0 (by decide) (htl _ mw_15) (fun _ h9 => h9) rfl dX12_fits_68 (fun v9 hf44 hV9 => ?_)
      obtain ⟨rfl, ht_ld20⟩ := hV9
      have ht_ld20 : t (ld 20) = (3, 0, 0) := ht_ld20
      refine fx_top (v := .ref (ld 20)) rfl ?_
      refine lv_iload_n hx hb dX12_fits_71 rfl (lv_at hl 2 rfl) ?_
      refine lv_iconst (v := 3) hx hb dX12_fits_72 (by decide) ?_
      refine lv_isub hx hb dX12_fits_73 ?_
      refine tk_sub rfl (show (3 : Int32).toInt = 3 by decide) (by omega) (by omega) (fun v45 h_v45 => ?_)
      refine tk_Vi (As := [.int v45]) (rest := []) (ci := 2) ⟨hx, hb, hml, hown, hts⟩ hK hG hZ hS (k_X2_isSinger l D cy ld t (ld 20) v45 ht_ld20) trivial ⟨callB_of 1 hts (wl_in mw_311) rfl rfl rfl (htl _ mw_14) (htl _ mw_308) hd_yX2_isSinger ⟨(Nat.le_of_ble_eq_true rfl), (Nat.le_of_ble_eq_true rfl)⟩, htl _ mw_309, htl _ mw_310⟩ ht_ld20 (by decide) tk_no rfl (tk_w.pick [] rfl) rfl hl.1 rfl (Nat.le_of_ble_eq_true rfl) dX12_fits_74 ⟨(Nat.le_of_ble_eq_true rfl), (Nat.le_of_ble_eq_true rfl)⟩ (fun v46 H locs hpo hG hS hq9 => ?_)
      obtain ⟨hpo48, hpo49, hpo50, hpo51, hpo52⟩ := hpo
      refine lv_if_eq (tgt := 94) hx hb dX12_fits_77 (by decide) (fun c9 => ?_) (fun c9 => ?_)
      · have hc53 : v46.toInt = 0 := (fi_eq rfl (show (0 : Int32).toInt = 0 by decide)).mp c9
        refine lv_iconst (v := (-1)) hx hb dX12_fits_94 (by decide) ?_
        have hk_m1 : ((-1) : Int32).toInt = (-1) := by decide
        exact tk_iret (v := (-1)) hx hb hr rfl hlocks (show (-1) ≤ ((-1) : Int32).toInt ∧ ((-1) : Int32).toInt ≤ 999 from ⟨(by omega), (by omega)⟩) hG hS dX12_fits_95
      · have hc53 : ¬ (v46.toInt = 0) := fun h9 => c9 ((fi_eq rfl (show (0 : Int32).toInt = 0 by decide)).mpr h9)
        refine lv_aload_n hx hb dX12_fits_80 rfl (lv_at hl 0 rfl) ?_
        refine tk_get (ci := 12) (C := RX12) (T := TX12) (N := 17) (sp := (6, 11, 0, 0)) hx hb htl inX12 hown hK hG ht_a0 (by decide) tk_no rfl 10 (by decide) (htl _ mw_53) (fun _ h9 => h9) rfl dX12_fits_81 (fun v9 hf54 hV9 => ?_)
        obtain ⟨b55, rfl, ht_b55⟩ := hV9
        have ht_b55 : t b55 = (11, 0, 0) := ht_b55
        refine lv_iload_n hx hb dX12_fits_84 rfl (lv_at hl 1 rfl) ?_
        refine lv_iload_n hx hb dX12_fits_85 rfl (lv_at hl 2 rfl) ?_
        refine lv_iconst (v := 3) hx hb dX12_fits_86 (by decide) ?_
        refine lv_isub hx hb dX12_fits_87 ?_
        refine tk_sub rfl (show (3 : Int32).toInt = 3 by decide) (by omega) (by omega) (fun v56 h_v56 => ?_)
        refine tk_Vi (As := [.int p1, .int v56]) (rest := []) (ci := 10) ⟨hx, hb, hml, hown, hts⟩ hK hG hZ hS (k_X10_nextVerse l D cy ld t b55 p1 v56 ht_b55 (by omega) (by omega)) trivial ⟨callB_of 2 hts (wl_in mw_1548) rfl rfl rfl (htl _ mw_52) (htl _ mw_1545) hd_yX10_nextVerse ⟨(Nat.le_of_ble_eq_true rfl), (Nat.le_of_ble_eq_true rfl)⟩, htl _ mw_1546, htl _ mw_1547⟩ ht_b55 (by decide) tk_no rfl (tk_w.pick [0, 1, 2] rfl) rfl hl.1 rfl (Nat.le_of_ble_eq_true rfl) dX12_fits_88 ⟨(Nat.le_of_ble_eq_true rfl), (Nat.le_of_ble_eq_true rfl)⟩ (fun v57 H locs hpo hG hS hq9 => ?_)
        obtain ⟨hpo59, hpo60⟩ := hpo
        refine lv_goto (tgt := 95) hx hb dX12_fits_91 (by decide) ?_
        exact tk_iret (v := v57) hx hb hr rfl hlocks (show (-1) ≤ v57.toInt ∧ v57.toInt ≤ 999 from ⟨(by omega), (by omega)⟩) hG hS dX12_fits_95
  · have hc8 : v1.toInt = 0 := (fi_eq rfl (show (0 : Int32).toInt = 0 by decide)).mp c9
    refine lv_iconst (v := (-1)) hx hb dX12_fits_10 (by decide) ?_
    have hk_m1 : ((-1) : Int32).toInt = (-1) := by decide
    exact tk_iret (v := (-1)) hx hb hr rfl hlocks (show (-1) ≤ ((-1) : Int32).toInt ∧ ((-1) : Int32).toInt ≤ 999 from ⟨(by omega), (by omega)⟩) hG hS dX12_fits_11
theorem dX12_catching_0 : decode cX12_catching 0 = .ok (.aload_n 0, 1) := by decide +kernel
theorem dX12_catching_1 : decode cX12_catching 1 = .ok (.getfield 10, 3) := by decide +kernel
theorem dX12_catching_4 : decode cX12_catching 4 = .ok (.iload_n 1, 1) := by decide +kernel
theorem dX12_catching_5 : decode cX12_catching 5 = .ok (.invokevirtual 114, 3) := by decide +kernel
theorem dX12_catching_8 : decode cX12_catching 8 = .ok (.ifCond .eq 12, 3) := by decide +kernel
theorem dX12_catching_20 : decode cX12_catching 20 = .ok (.iconst (-1), 1) := by decide +kernel
theorem dX12_catching_21 : decode cX12_catching 21 = .ok (.ireturn, 1) := by decide +kernel
theorem dX12_catching_11 : decode cX12_catching 11 = .ok (.iload_n 2, 1) := by decide +kernel
theorem dX12_catching_12 : decode cX12_catching 12 = .ok (.iconst 0, 1) := by decide +kernel
theorem dX12_catching_13 : decode cX12_catching 13 = .ok (.iconst 1, 1) := by decide +kernel
theorem dX12_catching_14 : decode cX12_catching 14 = .ok (.invokestatic 146, 3) := by decide +kernel
theorem dX12_catching_17 : decode cX12_catching 17 = .ok (.ifCond .ne 5, 3) := by decide +kernel
theorem dX12_catching_22 : decode cX12_catching 22 = .ok (.iload_n 2, 1) := by decide +kernel
theorem dX12_catching_23 : decode cX12_catching 23 = .ok (.ifCond .ne 15, 3) := by decide +kernel
theorem dX12_catching_38 : decode cX12_catching 38 = .ok (.aload_n 0, 1) := by decide +kernel
theorem dX12_catching_39 : decode cX12_catching 39 = .ok (.getfield 10, 3) := by decide +kernel
theorem dX12_catching_42 : decode cX12_catching 42 = .ok (.iload_n 1, 1) := by decide +kernel
theorem dX12_catching_43 : decode cX12_catching 43 = .ok (.invokevirtual 321, 3) := by decide +kernel
theorem dX12_catching_46 : decode cX12_catching 46 = .ok (.ireturn, 1) := by decide +kernel
theorem dX12_catching_26 : decode cX12_catching 26 = .ok (.aload_n 0, 1) := by decide +kernel
theorem dX12_catching_27 : decode cX12_catching 27 = .ok (.getfield 10, 3) := by decide +kernel
theorem dX12_catching_30 : decode cX12_catching 30 = .ok (.iload_n 1, 1) := by decide +kernel
theorem dX12_catching_31 : decode cX12_catching 31 = .ok (.iconst 0, 1) := by decide +kernel
theorem dX12_catching_32 : decode cX12_catching 32 = .ok (.invokevirtual 318, 3) := by decide +kernel
theorem dX12_catching_35 : decode cX12_catching 35 = .ok (.goto 11, 3) := by decide +kernel
set_option maxHeartbeats 4000000 in
set_option maxRecDepth 100000 in
theorem k_X12_catching (l : Launch) (D : va_G) (cy : Nat → ClassId) (ld : Nat → Nat) (t : tk_T) (a0 : Nat) (p1 : Int32) (p2 : Int32) (ht_a0 : t a0 = (13, 0, 0)) : Met l yX12_catching (wl yX12_catching cX12_catching 3 (some .int)) ({ frames := 5, cells := 0, slots := 0, locals := 280 }) (tp D cy ld t [] [.ref a0, .int p1, .int p2] (fun H => True)) (ti D cy ld t [] (fun r H => True) (tk_w t [])) 0 0 (tk_w t []) := by
  refine tk_met (y := yX12_catching) (cc := cX12_catching) (maxL := 3) (ret := (some .int)) (av := [.ref a0, .int p1, .int p2]) _ _ (by decide) (Nat.le_of_ble_eq_true rfl) ?_
  intro p e s m args below meth c hx hb hr hml hts htl hown hlocks hK H locs hH hG hS hB hZ ls hl
  have hown : s.vm.findClass RX12 = some m.cls := hown
  have hl : lv_has ls 3 [(0, .ref a0), (1, .int p1), (2, .int p2)] := hl
  have hr_p1 := tk_rng p1
  have hr_p2 := tk_rng p2
  refine lv_aload_n hx hb dX12_catching_0 rfl (lv_at hl 0 rfl) ?_
  refine tk_get (ci := 12) (C := RX12) (T := TX12) (N := 17) (sp := (8, 20, 3, 0)) hx hb htl inX12 hown hK hG ht_a0 (by decide) tk_no rfl 0 (by decide) (htl _ mw_15) (fun _ h9 => h9) rfl dX12_catching_1 (fun v9 hf1 hV9 => ?_)
  obtain ⟨rfl, ht_ld20⟩ := hV9
  have ht_ld20 : t (ld 20) = (3, 0, 0) := ht_ld20
  refine fx_top (v := .ref (ld 20)) rfl ?_
  refine lv_iload_n hx hb dX12_catching_4 rfl (lv_at hl 1 rfl) ?_
  refine tk_Vi (As := [.int p1]) (rest := []) (ci := 2) ⟨hx, hb, hml, hown, hts⟩ hK hG hZ hS (k_X2_isSinger l D cy ld t (ld 20) p1 ht_ld20) trivial ⟨callB_of 1 hts (wl_in mw_311) rfl rfl rfl (htl _ mw_14) (htl _ mw_308) hd_yX2_isSinger ⟨(Nat.le_of_ble_eq_true rfl), (Nat.le_of_ble_eq_true rfl)⟩, htl _ mw_309, htl _ mw_310⟩ ht_ld20 (by decide) tk_no rfl (tk_w.pick [] rfl) rfl hl.1 rfl (Nat.le_of_ble_eq_true rfl) dX12_catching_5 ⟨(Nat.le_of_ble_eq_true rfl), (Nat.le_of_ble_eq_true rfl)⟩ (fun v2 H locs hpo hG hS hq9 => ?_)
  obtain ⟨hpo4, hpo5, hpo6, hpo7, hpo8⟩ := hpo
  refine lv_if_eq (tgt := 20) hx hb dX12_catching_8 (by decide) (fun c9 => ?_) (fun c9 => ?_)
  · have hc9 : v2.toInt = 0 := (fi_eq rfl (show (0 : Int32).toInt = 0 by decide)).mp c9
    refine lv_iconst (v := (-1)) hx hb dX12_catching_20 (by decide) ?_
    have hk_m1 : ((-1) : Int32).toInt = (-1) := by decide
    exact tk_iret (v := (-1)) hx hb hr rfl hlocks trivial hG hS dX12_catching_21
  · have hc9 : ¬ (v2.toInt = 0) := fun h9 => c9 ((fi_eq rfl (show (0 : Int32).toInt = 0 by decide)).mpr h9)
    refine lv_iload_n hx hb dX12_catching_11 rfl (lv_at hl 2 rfl) ?_
    refine lv_iconst (v := 0) hx hb dX12_catching_12 (by decide) ?_
    refine lv_iconst (v := 1) hx hb dX12_catching_13 (by decide) ?_
    have hk_0 : (0 : Int32).toInt = 0 := by decide
    have hk_1 : (1 : Int32).toInt = 1 := by decide
    refine tk_Si (As := [.int p2, .int 0, .int 1]) (rest := []) ⟨hx, hb, hml, hown, hts⟩ hK hG hZ hS (k_X12_within l D cy ld t _ p2 0 1) trivial ⟨callB_of 3 hts (wl_in mw_262) rfl rfl rfl (htl _ mw_2) (htl _ mw_277) hd_yX12_within ⟨(Nat.le_of_ble_eq_true rfl), (Nat.le_of_ble_eq_true rfl)⟩, htl _ mw_261⟩ (tk_w.pick [] rfl) rfl hl.1 rfl (Nat.le_of_ble_eq_true rfl) dX12_catching_14 ⟨(Nat.le_of_ble_eq_true rfl), (Nat.le_of_ble_eq_true rfl)⟩ (fun v10 H locs hpo hG hS hq9 => ?_)
    obtain ⟨hpo12, hpo13, hpo14, hpo15, hpo16⟩ := hpo
    refine lv_if_ne (tgt := 22) hx hb dX12_catching_17 (by decide) (fun c9 => ?_) (fun c9 => ?_)
    · have hc17 : ¬ (v10.toInt = 0) := fun h9 => c9 ((fi_eq rfl (show (0 : Int32).toInt = 0 by decide)).mpr h9)
      refine lv_iload_n hx hb dX12_catching_22 rfl (lv_at hl 2 rfl) ?_
      refine lv_if_ne (tgt := 38) hx hb dX12_catching_23 (by decide) (fun c9 => ?_) (fun c9 => ?_)
      · have hc18 : ¬ (p2.toInt = 0) := fun h9 => c9 ((fi_eq rfl (show (0 : Int32).toInt = 0 by decide)).mpr h9)
        refine lv_aload_n hx hb dX12_catching_38 rfl (lv_at hl 0 rfl) ?_
        refine tk_get (ci := 12) (C := RX12) (T := TX12) (N := 17) (sp := (8, 20, 3, 0)) hx hb htl inX12 hown hK hG ht_a0 (by decide) tk_no rfl 0 (by decide) (htl _ mw_15) (fun _ h9 => h9) rfl dX12_catching_39 (fun v9 hf19 hV9 => ?_)
        obtain ⟨rfl, ht_ld20⟩ := hV9
        have ht_ld20 : t (ld 20) = (3, 0, 0) := ht_ld20
        refine fx_top (v := .ref (ld 20)) rfl ?_
        refine lv_iload_n hx hb dX12_catching_42 rfl (lv_at hl 1 rfl) ?_
        refine tk_Vi (As := [.int p1]) (rest := []) (ci := 2) ⟨hx, hb, hml, hown, hts⟩ hK hG hZ hS (k_X2_roundsBehind l D cy ld t (ld 20) p1 ht_ld20) trivial ⟨callB_of 1 hts (wl_in mw_1590) rfl rfl rfl (htl _ mw_14) (htl _ mw_1587) hd_yX2_roundsBehind ⟨(Nat.le_of_ble_eq_true rfl), (Nat.le_of_ble_eq_true rfl)⟩, htl _ mw_1588, htl _ mw_1589⟩ ht_ld20 (by decide) tk_no rfl (tk_w.pick [] rfl) rfl hl.1 rfl (Nat.le_of_ble_eq_true rfl) dX12_catching_43 ⟨(Nat.le_of_ble_eq_true rfl), (Nat.le_of_ble_eq_true rfl)⟩ (fun v20 H locs hpo hG hS hq9 => ?_)
        obtain ⟨hpo22, hpo23⟩ := hpo
        exact tk_iret (v := v20) hx hb hr rfl hlocks trivial hG hS dX12_catching_46
      · have hc18 : p2.toInt = 0 := (fi_eq rfl (show (0 : Int32).toInt = 0 by decide)).mp c9
        refine lv_aload_n hx hb dX12_catching_26 rfl (lv_at hl 0 rfl) ?_
        refine tk_get (ci := 12) (C := RX12) (T := TX12) (N := 17) (sp := (8, 20, 3, 0)) hx hb htl inX12 hown hK hG ht_a0 (by decide) tk_no rfl 0 (by decide) (htl _ mw_15) (fun _ h9 => h9) rfl dX12_catching_27 (fun v9 hf24 hV9 => ?_)
        obtain ⟨rfl, ht_ld20⟩ := hV9
        have ht_ld20 : t (ld 20) = (3, 0, 0) := ht_ld20
        refine fx_top (v := .ref (ld 20)) rfl ?_
        refine lv_iload_n hx hb dX12_catching_30 rfl (lv_at hl 1 rfl) ?_
        refine lv_iconst (v := 0) hx hb dX12_catching_31 (by decide) ?_
        have hk_0 : (0 : Int32).toInt = 0 := by decide
        refine tk_Vi (As := [.int p1, .int 0]) (rest := []) (ci := 2) ⟨hx, hb, hml, hown, hts⟩ hK hG hZ hS (k_X2_asleepBehind l D cy ld t (ld 20) p1 0 ht_ld20) trivial ⟨callB_of 2 hts (wl_in mw_1578) rfl rfl rfl (htl _ mw_14) (htl _ mw_1575) hd_yX2_asleepBehind ⟨(Nat.le_of_ble_eq_true rfl), (Nat.le_of_ble_eq_true rfl)⟩, htl _ mw_1576, htl _ mw_1577⟩ ht_ld20 (by decide) tk_no rfl (tk_w.pick [] rfl) rfl hl.1 rfl (Nat.le_of_ble_eq_true rfl) dX12_catching_32 ⟨(Nat.le_of_ble_eq_true rfl), (Nat.le_of_ble_eq_true rfl)⟩ (fun v25 H locs hpo hG hS hq9 => ?_)
        refine lv_goto (tgt := 46) hx hb dX12_catching_35 (by decide) ?_
        exact tk_iret (v := v25) hx hb hr rfl hlocks trivial hG hS dX12_catching_46
    · have hc17 : v10.toInt = 0 := (fi_eq rfl (show (0 : Int32).toInt = 0 by decide)).mp c9
      refine lv_iconst (v := (-1)) hx hb dX12_catching_20 (by decide) ?_
      have hk_m1 : ((-1) : Int32).toInt = (-1) := by decide
      exact tk_iret (v := (-1)) hx hb hr rfl hlocks trivial hG hS dX12_catching_21
theorem dX12_keep_0 : decode cX12_keep 0 = .ok (.aload_n 0, 1) := by decide +kernel
theorem dX12_keep_1 : decode cX12_keep 1 = .ok (.getfield 10, 3) := by decide +kernel
theorem dX12_keep_4 : decode cX12_keep 4 = .ok (.iload_n 1, 1) := by decide +kernel
theorem dX12_keep_5 : decode cX12_keep 5 = .ok (.invokevirtual 114, 3) := by decide +kernel
theorem dX12_keep_8 : decode cX12_keep 8 = .ok (.ifCond .eq 28, 3) := by decide +kernel
theorem dX12_keep_36 : decode cX12_keep 36 = .ok (.iconst (-1), 1) := by decide +kernel
theorem dX12_keep_37 : decode cX12_keep 37 = .ok (.ireturn, 1) := by decide +kernel
theorem dX12_keep_11 : decode cX12_keep 11 = .ok (.aload_n 0, 1) := by decide +kernel
theorem dX12_keep_12 : decode cX12_keep 12 = .ok (.getfield 10, 3) := by decide +kernel
theorem dX12_keep_15 : decode cX12_keep 15 = .ok (.iload_n 2, 1) := by decide +kernel
theorem dX12_keep_16 : decode cX12_keep 16 = .ok (.invokevirtual 114, 3) := by decide +kernel
theorem dX12_keep_19 : decode cX12_keep 19 = .ok (.ifCond .eq 17, 3) := by decide +kernel
theorem dX12_keep_22 : decode cX12_keep 22 = .ok (.iload_n 1, 1) := by decide +kernel
theorem dX12_keep_23 : decode cX12_keep 23 = .ok (.iload_n 2, 1) := by decide +kernel
theorem dX12_keep_24 : decode cX12_keep 24 = .ok (.if_icmp .eq 12, 3) := by decide +kernel
theorem dX12_keep_27 : decode cX12_keep 27 = .ok (.iload_n 3, 1) := by decide +kernel
theorem dX12_keep_28 : decode cX12_keep 28 = .ok (.iconst 0, 1) := by decide +kernel
theorem dX12_keep_29 : decode cX12_keep 29 = .ok (.iconst 1, 1) := by decide +kernel
theorem dX12_keep_30 : decode cX12_keep 30 = .ok (.invokestatic 146, 3) := by decide +kernel
theorem dX12_keep_33 : decode cX12_keep 33 = .ok (.ifCond .ne 5, 3) := by decide +kernel
theorem dX12_keep_38 : decode cX12_keep 38 = .ok (.aload_n 0, 1) := by decide +kernel
theorem dX12_keep_39 : decode cX12_keep 39 = .ok (.getfield 10, 3) := by decide +kernel
theorem dX12_keep_42 : decode cX12_keep 42 = .ok (.iload_n 1, 1) := by decide +kernel
theorem dX12_keep_43 : decode cX12_keep 43 = .ok (.iload_n 2, 1) := by decide +kernel
theorem dX12_keep_44 : decode cX12_keep 44 = .ok (.invokevirtual 324, 3) := by decide +kernel
theorem dX12_keep_47 : decode cX12_keep 47 = .ok (.istore 4, 2) := by decide +kernel
theorem dX12_keep_49 : decode cX12_keep 49 = .ok (.iload 4, 2) := by decide +kernel
theorem dX12_keep_51 : decode cX12_keep 51 = .ok (.iconst (-1), 1) := by decide +kernel
theorem dX12_keep_52 : decode cX12_keep 52 = .ok (.if_icmp .ne 5, 3) := by decide +kernel
theorem dX12_keep_57 : decode cX12_keep 57 = .ok (.iload_n 3, 1) := by decide +kernel
theorem dX12_keep_58 : decode cX12_keep 58 = .ok (.ifCond .ne 11, 3) := by decide +kernel
theorem dX12_keep_69 : decode cX12_keep 69 = .ok (.iload 4, 2) := by decide +kernel
theorem dX12_keep_71 : decode cX12_keep 71 = .ok (.ireturn, 1) := by decide +kernel
theorem dX12_keep_61 : decode cX12_keep 61 = .ok (.iload 4, 2) := by decide +kernel
theorem dX12_keep_63 : decode cX12_keep 63 = .ok (.invokestatic 327, 3) := by decide +kernel
theorem dX12_keep_66 : decode cX12_keep 66 = .ok (.goto 5, 3) := by decide +kernel
theorem dX12_keep_55 : decode cX12_keep 55 = .ok (.iconst (-1), 1) := by decide +kernel
theorem dX12_keep_56 : decode cX12_keep 56 = .ok (.ireturn, 1) := by decide +kernel
set_option maxHeartbeats 4000000 in
set_option maxRecDepth 100000 in
theorem k_X12_keep (l : Launch) (D : va_G) (cy : Nat → ClassId) (ld : Nat → Nat) (t : tk_T) (a0 : Nat) (p1 : Int32) (p2 : Int32) (p3 : Int32) (ht_a0 : t a0 = (13, 0, 0)) : Met l yX12_keep (wl yX12_keep cX12_keep 5 (some .int)) ({ frames := 6, cells := 0, slots := 0, locals := 350 }) (tp D cy ld t [] [.ref a0, .int p1, .int p2, .int p3] (fun H => True)) (ti D cy ld t [] (fun r H => (-1) ≤ r.toInt ∧ r.toInt ≤ 1099) (tk_w t [])) 0 0 (tk_w t []) := by
  refine tk_met (y := yX12_keep) (cc := cX12_keep) (maxL := 5) (ret := (some .int)) (av := [.ref a0, .int p1, .int p2, .int p3]) _ _ (by decide) (Nat.le_of_ble_eq_true rfl) ?_
  intro p e s m args below meth c hx hb hr hml hts htl hown hlocks hK H locs hH hG hS hB hZ ls hl
  have hown : s.vm.findClass RX12 = some m.cls := hown
  have hl : lv_has ls 5 [(0, .ref a0), (1, .int p1), (2, .int p2), (3, .int p3)] := hl
  have hr_p1 := tk_rng p1
  have hr_p2 := tk_rng p2
  have hr_p3 := tk_rng p3
  refine lv_aload_n hx hb dX12_keep_0 rfl (lv_at hl 0 rfl) ?_
  refine tk_get (ci := 12) (C := RX12) (T := TX12) (N := 17) (sp := (8, 20, 3, 0)) hx hb htl inX12 hown hK hG ht_a0 (by decide) tk_no rfl 0 (by decide) (htl _ mw_15) (fun _ h9 => h9) rfl dX12_keep_1 (fun v9 hf1 hV9 => ?_)
  obtain ⟨rfl, ht_ld20⟩ := hV9
  have ht_ld20 : t (ld 20) = (3, 0, 0) := ht_ld20
  refine fx_top (v := .ref (ld 20)) rfl ?_
  refine lv_iload_n hx hb dX12_keep_4 rfl (lv_at hl 1 rfl) ?_
  refine tk_Vi (As := [.int p1]) (rest := []) (ci := 2) ⟨hx, hb, hml, hown, hts⟩ hK hG hZ hS (k_X2_isSinger l D cy ld t (ld 20) p1 ht_ld20) trivial ⟨callB_of 1 hts (wl_in mw_311) rfl rfl rfl (htl _ mw_14) (htl _ mw_308) hd_yX2_isSinger ⟨(Nat.le_of_ble_eq_true rfl), (Nat.le_of_ble_eq_true rfl)⟩, htl _ mw_309, htl _ mw_310⟩ ht_ld20 (by decide) tk_no rfl (tk_w.pick [] rfl) rfl hl.1 rfl (Nat.le_of_ble_eq_true rfl) dX12_keep_5 ⟨(Nat.le_of_ble_eq_true rfl), (Nat.le_of_ble_eq_true rfl)⟩ (fun v2 H locs hpo hG hS hq9 => ?_)
  obtain ⟨hpo4, hpo5, hpo6, hpo7, hpo8⟩ := hpo
  refine lv_if_eq (tgt := 36) hx hb dX12_keep_8 (by decide) (fun c9 => ?_) (fun c9 => ?_)
  · have hc9 : v2.toInt = 0 := (fi_eq rfl (show (0 : Int32).toInt = 0 by decide)).mp c9
    refine lv_iconst (v := (-1)) hx hb dX12_keep_36 (by decide) ?_
    have hk_m1 : ((-1) : Int32).toInt = (-1) := by decide
    exact tk_iret (v := (-1)) hx hb hr rfl hlocks (show (-1) ≤ ((-1) : Int32).toInt ∧ ((-1) : Int32).toInt ≤ 1099 from ⟨(by omega), (by omega)⟩) hG hS dX12_keep_37
  · have hc9 : ¬ (v2.toInt = 0) := fun h9 => c9 ((fi_eq rfl (show (0 : Int32).toInt = 0 by decide)).mpr h9)
    refine lv_aload_n hx hb dX12_keep_11 rfl (lv_at hl 0 rfl) ?_
    refine tk_get (ci := 12) (C := RX12) (T := TX12) (N := 17) (sp := (8, 20, 3, 0)) hx hb htl inX12 hown hK hG ht_a0 (by decide) tk_no rfl 0 (by decide) (htl _ mw_15) (fun _ h9 => h9) rfl dX12_keep_12 (fun v9 hf10 hV9 => ?_)
    obtain ⟨rfl, ht_ld20⟩ := hV9
    have ht_ld20 : t (ld 20) = (3, 0, 0) := ht_ld20
    refine fx_top (v := .ref (ld 20)) rfl ?_
    refine lv_iload_n hx hb dX12_keep_15 rfl (lv_at hl 2 rfl) ?_
    refine tk_Vi (As := [.int p2]) (rest := []) (ci := 2) ⟨hx, hb, hml, hown, hts⟩ hK hG hZ hS (k_X2_isSinger l D cy ld t (ld 20) p2 ht_ld20) trivial ⟨callB_of 1 hts (wl_in mw_311) rfl rfl rfl (htl _ mw_14) (htl _ mw_308) hd_yX2_isSinger ⟨(Nat.le_of_ble_eq_true rfl), (Nat.le_of_ble_eq_true rfl)⟩, htl _ mw_309, htl _ mw_310⟩ ht_ld20 (by decide) tk_no rfl (tk_w.pick [] rfl) rfl hl.1 rfl (Nat.le_of_ble_eq_true rfl) dX12_keep_16 ⟨(Nat.le_of_ble_eq_true rfl), (Nat.le_of_ble_eq_true rfl)⟩ (fun v11 H locs hpo hG hS hq9 => ?_)
    obtain ⟨hpo13, hpo14, hpo15, hpo16, hpo17⟩ := hpo
    refine lv_if_eq (tgt := 36) hx hb dX12_keep_19 (by decide) (fun c9 => ?_) (fun c9 => ?_)
    · have hc18 : v11.toInt = 0 := (fi_eq rfl (show (0 : Int32).toInt = 0 by decide)).mp c9
      refine lv_iconst (v := (-1)) hx hb dX12_keep_36 (by decide) ?_
      have hk_m1 : ((-1) : Int32).toInt = (-1) := by decide
      exact tk_iret (v := (-1)) hx hb hr rfl hlocks (show (-1) ≤ ((-1) : Int32).toInt ∧ ((-1) : Int32).toInt ≤ 1099 from ⟨(by omega), (by omega)⟩) hG hS dX12_keep_37
    · have hc18 : ¬ (v11.toInt = 0) := fun h9 => c9 ((fi_eq rfl (show (0 : Int32).toInt = 0 by decide)).mpr h9)
      refine lv_iload_n hx hb dX12_keep_22 rfl (lv_at hl 1 rfl) ?_
      refine lv_iload_n hx hb dX12_keep_23 rfl (lv_at hl 2 rfl) ?_
      refine lv_icmp_eq (tgt := 36) hx hb dX12_keep_24 (by decide) (fun c9 => ?_) (fun c9 => ?_)
      · have hc19 : p1.toInt = p2.toInt := (fi_eq rfl rfl).mp c9
        refine lv_iconst (v := (-1)) hx hb dX12_keep_36 (by decide) ?_
        have hk_m1 : ((-1) : Int32).toInt = (-1) := by decide
        exact tk_iret (v := (-1)) hx hb hr rfl hlocks (show (-1) ≤ ((-1) : Int32).toInt ∧ ((-1) : Int32).toInt ≤ 1099 from ⟨(by omega), (by omega)⟩) hG hS dX12_keep_37
      · have hc19 : ¬ (p1.toInt = p2.toInt) := fun h9 => c9 ((fi_eq rfl rfl).mpr h9)
        refine lv_iload_n hx hb dX12_keep_27 rfl (lv_at hl 3 rfl) ?_
        refine lv_iconst (v := 0) hx hb dX12_keep_28 (by decide) ?_
        refine lv_iconst (v := 1) hx hb dX12_keep_29 (by decide) ?_
        have hk_0 : (0 : Int32).toInt = 0 := by decide
        have hk_1 : (1 : Int32).toInt = 1 := by decide
        refine tk_Si (As := [.int p3, .int 0, .int 1]) (rest := []) ⟨hx, hb, hml, hown, hts⟩ hK hG hZ hS (k_X12_within l D cy ld t _ p3 0 1) trivial ⟨callB_of 3 hts (wl_in mw_262) rfl rfl rfl (htl _ mw_2) (htl _ mw_277) hd_yX12_within ⟨(Nat.le_of_ble_eq_true rfl), (Nat.le_of_ble_eq_true rfl)⟩, htl _ mw_261⟩ (tk_w.pick [] rfl) rfl hl.1 rfl (Nat.le_of_ble_eq_true rfl) dX12_keep_30 ⟨(Nat.le_of_ble_eq_true rfl), (Nat.le_of_ble_eq_true rfl)⟩ (fun v20 H locs hpo hG hS hq9 => ?_)
        obtain ⟨hpo22, hpo23, hpo24, hpo25, hpo26⟩ := hpo
        refine lv_if_ne (tgt := 38) hx hb dX12_keep_33 (by decide) (fun c9 => ?_) (fun c9 => ?_)
        · have hc27 : ¬ (v20.toInt = 0) := fun h9 => c9 ((fi_eq rfl (show (0 : Int32).toInt = 0 by decide)).mpr h9)
          refine lv_aload_n hx hb dX12_keep_38 rfl (lv_at hl 0 rfl) ?_
          refine tk_get (ci := 12) (C := RX12) (T := TX12) (N := 17) (sp := (8, 20, 3, 0)) hx hb htl inX12 hown hK hG ht_a0 (by decide) tk_no rfl 0 (by decide) (htl _ mw_15) (fun _ h9 => h9) rfl dX12_keep_39 (fun v9 hf28 hV9 => ?_)
          obtain ⟨rfl, ht_ld20⟩ := hV9
          have ht_ld20 : t (ld 20) = (3, 0, 0) := ht_ld20
          refine fx_top (v := .ref (ld 20)) rfl ?_
          refine lv_iload_n hx hb dX12_keep_42 rfl (lv_at hl 1 rfl) ?_
          refine lv_iload_n hx hb dX12_keep_43 rfl (lv_at hl 2 rfl) ?_
          refine tk_Vi (As := [.int p1, .int p2]) (rest := []) (ci := 2) ⟨hx, hb, hml, hown, hts⟩ hK hG hZ hS (k_X2_ledAway l D cy ld t (ld 20) p1 p2 ht_ld20) trivial ⟨callB_of 2 hts (wl_in mw_1610) rfl rfl rfl (htl _ mw_14) (htl _ mw_1607) hd_yX2_ledAway ⟨(Nat.le_of_ble_eq_true rfl), (Nat.le_of_ble_eq_true rfl)⟩, htl _ mw_1608, htl _ mw_1609⟩ ht_ld20 (by decide) tk_no rfl (tk_w.pick [] rfl) rfl hl.1 rfl (Nat.le_of_ble_eq_true rfl) dX12_keep_44 ⟨(Nat.le_of_ble_eq_true rfl), (Nat.le_of_ble_eq_true rfl)⟩ (fun v29 H locs hpo hG hS hq9 => ?_)
          obtain ⟨hpo31, hpo32⟩ := hpo
          refine lv_istore (lv' := [(4, .int v29), (0, .ref a0), (1, .int p1), (2, .int p2), (3, .int p3)]) hx hb dX12_keep_47 hl (by decide) rfl (fun ls hl => ?_)
          refine lv_iload hx hb dX12_keep_49 (lv_at hl 0 rfl) ?_
          refine lv_iconst (v := (-1)) hx hb dX12_keep_51 (by decide) ?_
          refine lv_icmp_ne (tgt := 57) hx hb dX12_keep_52 (by decide) (fun c9 => ?_) (fun c9 => ?_)
          · have hc33 : ¬ (v29.toInt = (-1)) := fun h9 => c9 ((fi_eq rfl (show ((-1) : Int32).toInt = (-1) by decide)).mpr h9)
            refine lv_iload_n hx hb dX12_keep_57 rfl (lv_at hl 4 rfl) ?_
            refine lv_if_ne (tgt := 69) hx hb dX12_keep_58 (by decide) (fun c9 => ?_) (fun c9 => ?_)
            · have hc34 : ¬ (p3.toInt = 0) := fun h9 => c9 ((fi_eq rfl (show (0 : Int32).toInt = 0 by decide)).mpr h9)
              refine lv_iload hx hb dX12_keep_69 (lv_at hl 0 rfl) ?_
              exact tk_iret (v := v29) hx hb hr rfl hlocks (show (-1) ≤ v29.toInt ∧ v29.toInt ≤ 1099 from ⟨(by omega), (by omega)⟩) hG hS dX12_keep_71
            · have hc34 : p3.toInt = 0 := (fi_eq rfl (show (0 : Int32).toInt = 0 by decide)).mp c9
              refine lv_iload hx hb dX12_keep_61 (lv_at hl 0 rfl) ?_
              refine tk_Si (As := [.int v29]) (rest := []) ⟨hx, hb, hml, hown, hts⟩ hK hG hZ hS (k_J6_bitCount_0f7a4 l D cy ld t _ v29) trivial ⟨callB_of 1 hts (wl_in mw_1614) rfl rfl rfl (htl _ mw_1613) (htl _ mw_1619) hd_yJ6_bitCount_0f7a4 ⟨(Nat.le_of_ble_eq_true rfl), (Nat.le_of_ble_eq_true rfl)⟩, htl _ mw_1612⟩ (tk_w.pick [] rfl) rfl hl.1 rfl (Nat.le_of_ble_eq_true rfl) dX12_keep_63 ⟨(Nat.le_of_ble_eq_true rfl), (Nat.le_of_ble_eq_true rfl)⟩ (fun v35 H locs hpo hG hS hq9 => ?_)
              obtain ⟨hpo37, hpo38⟩ := hpo
              refine lv_goto (tgt := 71) hx hb dX12_keep_66 (by decide) ?_
              exact tk_iret (v := v35) hx hb hr rfl hlocks (show (-1) ≤ v35.toInt ∧ v35.toInt ≤ 1099 from ⟨(by omega), (by omega)⟩) hG hS dX12_keep_71
          · have hc33 : v29.toInt = (-1) := (fi_eq rfl (show ((-1) : Int32).toInt = (-1) by decide)).mp c9
            refine lv_iconst (v := (-1)) hx hb dX12_keep_55 (by decide) ?_
            have hk_m1 : ((-1) : Int32).toInt = (-1) := by decide
            exact tk_iret (v := (-1)) hx hb hr rfl hlocks (show (-1) ≤ ((-1) : Int32).toInt ∧ ((-1) : Int32).toInt ≤ 1099 from ⟨(by omega), (by omega)⟩) hG hS dX12_keep_56
        · have hc27 : v20.toInt = 0 := (fi_eq rfl (show (0 : Int32).toInt = 0 by decide)).mp c9
          refine lv_iconst (v := (-1)) hx hb dX12_keep_36 (by decide) ?_
          have hk_m1 : ((-1) : Int32).toInt = (-1) := by decide
          exact tk_iret (v := (-1)) hx hb hr rfl hlocks (show (-1) ≤ ((-1) : Int32).toInt ∧ ((-1) : Int32).toInt ≤ 1099 from ⟨(by omega), (by omega)⟩) hG hS dX12_keep_37
theorem dX12_decade_0 : decode cX12_decade 0 = .ok (.iload_n 1, 1) := by decide +kernel
theorem dX12_decade_1 : decode cX12_decade 1 = .ok (.iconst 0, 1) := by decide +kernel
theorem dX12_decade_2 : decode cX12_decade 2 = .ok (.ldc_w 332, 3) := by decide +kernel
theorem dX12_decade_5 : decode cX12_decade 5 = .ok (.invokestatic 146, 3) := by decide +kernel
theorem dX12_decade_8 : decode cX12_decade 8 = .ok (.ifCond .eq 13, 3) := by decide +kernel
theorem dX12_decade_21 : decode cX12_decade 21 = .ok (.aload_n 0, 1) := by decide +kernel
theorem dX12_decade_22 : decode cX12_decade 22 = .ok (.iconst (-1), 1) := by decide +kernel
theorem dX12_decade_23 : decode cX12_decade 23 = .ok (.invokevirtual 159, 3) := by decide +kernel
theorem dX12_decade_26 : decode cX12_decade 26 = .ok (.ireturn, 1) := by decide +kernel
theorem dX12_decade_11 : decode cX12_decade 11 = .ok (.iload_n 2, 1) := by decide +kernel
theorem dX12_decade_12 : decode cX12_decade 12 = .ok (.iconst 1, 1) := by decide +kernel
theorem dX12_decade_13 : decode cX12_decade 13 = .ok (.bipush 60, 2) := by decide +kernel
theorem dX12_decade_15 : decode cX12_decade 15 = .ok (.invokestatic 146, 3) := by decide +kernel
theorem dX12_decade_18 : decode cX12_decade 18 = .ok (.ifCond .ne 9, 3) := by decide +kernel
theorem dX12_decade_27 : decode cX12_decade 27 = .ok (.aload_n 0, 1) := by decide +kernel
theorem dX12_decade_28 : decode cX12_decade 28 = .ok (.getfield 10, 3) := by decide +kernel
theorem dX12_decade_31 : decode cX12_decade 31 = .ok (.getfield 277, 3) := by decide +kernel
theorem dX12_decade_34 : decode cX12_decade 34 = .ok (.ifCond .eq 25, 3) := by decide +kernel
theorem dX12_decade_59 : decode cX12_decade 59 = .ok (.aload_n 0, 1) := by decide +kernel
theorem dX12_decade_60 : decode cX12_decade 60 = .ok (.bipush (-3), 2) := by decide +kernel
theorem dX12_decade_62 : decode cX12_decade 62 = .ok (.invokevirtual 159, 3) := by decide +kernel
theorem dX12_decade_65 : decode cX12_decade 65 = .ok (.ireturn, 1) := by decide +kernel
theorem dX12_decade_37 : decode cX12_decade 37 = .ok (.aload_n 0, 1) := by decide +kernel
theorem dX12_decade_38 : decode cX12_decade 38 = .ok (.getfield 10, 3) := by decide +kernel
theorem dX12_decade_41 : decode cX12_decade 41 = .ok (.iconst 0, 1) := by decide +kernel
theorem dX12_decade_42 : decode cX12_decade 42 = .ok (.invokevirtual 333, 3) := by decide +kernel
theorem dX12_decade_45 : decode cX12_decade 45 = .ok (.ifCond .eq 14, 3) := by decide +kernel
theorem dX12_decade_48 : decode cX12_decade 48 = .ok (.aload_n 0, 1) := by decide +kernel
theorem dX12_decade_49 : decode cX12_decade 49 = .ok (.getfield 10, 3) := by decide +kernel
theorem dX12_decade_52 : decode cX12_decade 52 = .ok (.iconst 1, 1) := by decide +kernel
theorem dX12_decade_53 : decode cX12_decade 53 = .ok (.invokevirtual 333, 3) := by decide +kernel
theorem dX12_decade_56 : decode cX12_decade 56 = .ok (.ifCond .ne 10, 3) := by decide +kernel
theorem dX12_decade_66 : decode cX12_decade 66 = .ok (.aload_n 0, 1) := by decide +kernel
theorem dX12_decade_67 : decode cX12_decade 67 = .ok (.aload_n 0, 1) := by decide +kernel
theorem dX12_decade_68 : decode cX12_decade 68 = .ok (.getfield 78, 3) := by decide +kernel
theorem dX12_decade_71 : decode cX12_decade 71 = .ok (.iload_n 1, 1) := by decide +kernel
theorem dX12_decade_72 : decode cX12_decade 72 = .ok (.iload_n 2, 1) := by decide +kernel
theorem dX12_decade_73 : decode cX12_decade 73 = .ok (.invokevirtual 336, 3) := by decide +kernel
theorem dX12_decade_76 : decode cX12_decade 76 = .ok (.invokevirtual 165, 3) := by decide +kernel
theorem dX12_decade_79 : decode cX12_decade 79 = .ok (.ireturn, 1) := by decide +kernel
theorem dX12_drawn_0 : decode cX12_drawn 0 = .ok (.iload_n 2, 1) := by decide +kernel
theorem dX12_drawn_1 : decode cX12_drawn 1 = .ok (.tableswitch 128 0 2 #[27, 61, 97], 27) := by decide +kernel
theorem dX12_drawn_28 : decode cX12_drawn 28 = .ok (.iload_n 1, 1) := by decide +kernel
theorem dX12_drawn_29 : decode cX12_drawn 29 = .ok (.iconst 0, 1) := by decide +kernel
theorem dX12_drawn_30 : decode cX12_drawn 30 = .ok (.aload_n 0, 1) := by decide +kernel
theorem dX12_drawn_31 : decode cX12_drawn 31 = .ok (.getfield 78, 3) := by decide +kernel
theorem dX12_drawn_34 : decode cX12_drawn 34 = .ok (.getfield 338, 3) := by decide +kernel
theorem dX12_drawn_37 : decode cX12_drawn 37 = .ok (.iconst 1, 1) := by decide +kernel
theorem dX12_drawn_38 : decode cX12_drawn 38 = .ok (.isub, 1) := by decide +kernel
theorem dX12_drawn_39 : decode cX12_drawn 39 = .ok (.invokestatic 146, 3) := by decide +kernel
theorem dX12_drawn_42 : decode cX12_drawn 42 = .ok (.ifCond .eq 18, 3) := by decide +kernel
theorem dX12_drawn_60 : decode cX12_drawn 60 = .ok (.iconst (-1), 1) := by decide +kernel
theorem dX12_drawn_61 : decode cX12_drawn 61 = .ok (.ireturn, 1) := by decide +kernel
theorem dX12_drawn_45 : decode cX12_drawn 45 = .ok (.aload_n 0, 1) := by decide +kernel
theorem dX12_drawn_46 : decode cX12_drawn 46 = .ok (.getfield 78, 3) := by decide +kernel
theorem dX12_drawn_49 : decode cX12_drawn 49 = .ok (.getfield 341, 3) := by decide +kernel
theorem dX12_drawn_52 : decode cX12_drawn 52 = .ok (.getfield 122, 3) := by decide +kernel
theorem dX12_drawn_55 : decode cX12_drawn 55 = .ok (.iload_n 1, 1) := by decide +kernel
theorem dX12_drawn_56 : decode cX12_drawn 56 = .ok (.iaload, 1) := by decide +kernel
theorem dX12_drawn_57 : decode cX12_drawn 57 = .ok (.goto 4, 3) := by decide +kernel
theorem dX12_drawn_62 : decode cX12_drawn 62 = .ok (.aload_n 0, 1) := by decide +kernel
theorem dX12_drawn_63 : decode cX12_drawn 63 = .ok (.getfield 78, 3) := by decide +kernel
theorem dX12_drawn_66 : decode cX12_drawn 66 = .ok (.getfield 338, 3) := by decide +kernel
theorem dX12_drawn_69 : decode cX12_drawn 69 = .ok (.ifCond .le 27, 3) := by decide +kernel
theorem dX12_drawn_96 : decode cX12_drawn 96 = .ok (.iconst (-1), 1) := by decide +kernel
theorem dX12_drawn_97 : decode cX12_drawn 97 = .ok (.ireturn, 1) := by decide +kernel
theorem dX12_drawn_72 : decode cX12_drawn 72 = .ok (.iload_n 1, 1) := by decide +kernel
theorem dX12_drawn_73 : decode cX12_drawn 73 = .ok (.iconst 0, 1) := by decide +kernel
theorem dX12_drawn_74 : decode cX12_drawn 74 = .ok (.iconst 1, 1) := by decide +kernel
theorem dX12_drawn_75 : decode cX12_drawn 75 = .ok (.invokestatic 146, 3) := by decide +kernel
theorem dX12_drawn_78 : decode cX12_drawn 78 = .ok (.ifCond .eq 18, 3) := by decide +kernel
theorem dX12_drawn_81 : decode cX12_drawn 81 = .ok (.aload_n 0, 1) := by decide +kernel
theorem dX12_drawn_82 : decode cX12_drawn 82 = .ok (.getfield 78, 3) := by decide +kernel
theorem dX12_drawn_85 : decode cX12_drawn 85 = .ok (.getfield 341, 3) := by decide +kernel
theorem dX12_drawn_88 : decode cX12_drawn 88 = .ok (.getfield 168, 3) := by decide +kernel
theorem dX12_drawn_91 : decode cX12_drawn 91 = .ok (.iload_n 1, 1) := by decide +kernel
theorem dX12_drawn_92 : decode cX12_drawn 92 = .ok (.iaload, 1) := by decide +kernel
theorem dX12_drawn_93 : decode cX12_drawn 93 = .ok (.goto 4, 3) := by decide +kernel
theorem dX12_drawn_98 : decode cX12_drawn 98 = .ok (.iload_n 1, 1) := by decide +kernel
theorem dX12_drawn_99 : decode cX12_drawn 99 = .ok (.iconst 0, 1) := by decide +kernel
theorem dX12_drawn_100 : decode cX12_drawn 100 = .ok (.aload_n 0, 1) := by decide +kernel
theorem dX12_drawn_101 : decode cX12_drawn 101 = .ok (.getfield 78, 3) := by decide +kernel
theorem dX12_drawn_104 : decode cX12_drawn 104 = .ok (.getfield 338, 3) := by decide +kernel
theorem dX12_drawn_107 : decode cX12_drawn 107 = .ok (.iconst 1, 1) := by decide +kernel
theorem dX12_drawn_108 : decode cX12_drawn 108 = .ok (.isub, 1) := by decide +kernel
theorem dX12_drawn_109 : decode cX12_drawn 109 = .ok (.invokestatic 146, 3) := by decide +kernel
theorem dX12_drawn_112 : decode cX12_drawn 112 = .ok (.ifCond .eq 15, 3) := by decide +kernel
theorem dX12_drawn_127 : decode cX12_drawn 127 = .ok (.iconst (-1), 1) := by decide +kernel
theorem dX12_drawn_128 : decode cX12_drawn 128 = .ok (.ireturn, 1) := by decide +kernel
theorem dX12_drawn_115 : decode cX12_drawn 115 = .ok (.aload_n 0, 1) := by decide +kernel
theorem dX12_drawn_116 : decode cX12_drawn 116 = .ok (.getfield 78, 3) := by decide +kernel
theorem dX12_drawn_119 : decode cX12_drawn 119 = .ok (.getfield 342, 3) := by decide +kernel
theorem dX12_drawn_122 : decode cX12_drawn 122 = .ok (.iload_n 1, 1) := by decide +kernel
theorem dX12_drawn_123 : decode cX12_drawn 123 = .ok (.iaload, 1) := by decide +kernel
theorem dX12_drawn_124 : decode cX12_drawn 124 = .ok (.goto 4, 3) := by decide +kernel
theorem dX12_drawn_129 : decode cX12_drawn 129 = .ok (.iconst (-1), 1) := by decide +kernel
theorem dX12_drawn_130 : decode cX12_drawn 130 = .ok (.ireturn, 1) := by decide +kernel
set_option maxHeartbeats 4000000 in
set_option maxRecDepth 100000 in
theorem k_X12_drawn (l : Launch) (D : va_G) (cy : Nat → ClassId) (ld : Nat → Nat) (t : tk_T) (a0 : Nat) (p1 : Int32) (p2 : Int32) (ht_a0 : t a0 = (13, 0, 0)) : Met l yX12_drawn (wl yX12_drawn cX12_drawn 3 (some .int)) ({ frames := 4, cells := 0, slots := 0, locals := 210 }) (tp D cy ld t [] [.ref a0, .int p1, .int p2] (fun H => True)) (ti D cy ld t [] (fun r H => True) (tk_w t [])) 0 0 (tk_w t []) := by
  refine tk_met (y := yX12_drawn) (cc := cX12_drawn) (maxL := 3) (ret := (some .int)) (av := [.ref a0, .int p1, .int p2]) _ _ (by decide) (Nat.le_of_ble_eq_true rfl) ?_
  intro p e s m args below meth c hx hb hr hml hts htl hown hlocks hK H locs hH hG hS hB hZ ls hl
  have hown : s.vm.findClass RX12 = some m.cls := hown
  have hl : lv_has ls 3 [(0, .ref a0), (1, .int p1), (2, .int p2)] := hl
  have hr_p1 := tk_rng p1
  have hr_p2 := tk_rng p2
  refine lv_iload_n hx hb dX12_drawn_0 rfl (lv_at hl 2 rfl) ?_
  rcases (show p2.toInt = 0 ∨ p2.toInt = 1 ∨ p2.toInt = 2 ∨ p2.toInt < 0 ∨ 2 < p2.toInt by omega) with hsw | hsw | hsw | hsw | hsw
  · refine lv_tableIn (off := 27) (tgt := 28) hx hb dX12_drawn_1 (by omega) (by omega) (by rw [hsw]; rfl) (by decide) ?_
    refine lv_iload_n hx hb dX12_drawn_28 rfl (lv_at hl 1 rfl) ?_
    refine lv_iconst (v := 0) hx hb dX12_drawn_29 (by decide) ?_
    refine lv_aload_n hx hb dX12_drawn_30 rfl (lv_at hl 0 rfl) ?_
    refine tk_get (ci := 12) (C := RX12) (T := TX12) (N := 17) (sp := (6, 1, 0, 0)) hx hb htl inX12 hown hK hG ht_a0 (by decide) tk_no rfl 8 (by decide) (htl _ mw_45) (fun _ h9 => h9) rfl dX12_drawn_31 (fun v9 hf1 hV9 => ?_)
    obtain ⟨b2, rfl, ht_b2⟩ := hV9
    have ht_b2 : t b2 = (1, 0, 0) := ht_b2
    refine tk_get (ci := 0) (C := RX0) (T := TX0) (N := 7) (sp := (0, 0, 8, 0)) hx hb htl inX0 hown hK hG ht_b2 (by decide) tk_no rfl 2 (by decide) (htl _ mw_1697) (fun _ h9 => h9) rfl dX12_drawn_34 (fun v9 hf3 hV9 => ?_)
    obtain ⟨v4, rfl, (ha_v4 : 0 ≤ v4.toInt), (hb_v4 : v4.toInt ≤ 8)⟩ := hV9
    refine lv_iconst (v := 1) hx hb dX12_drawn_37 (by decide) ?_
    refine lv_isub hx hb dX12_drawn_38 ?_
    refine tk_sub rfl (show (1 : Int32).toInt = 1 by decide) (by omega) (by omega) (fun v5 h_v5 => ?_)
    have hk_0 : (0 : Int32).toInt = 0 := by decide
    refine tk_Si (As := [.int p1, .int 0, .int v5]) (rest := []) ⟨hx, hb, hml, hown, hts⟩ hK hG hZ hS (k_X12_within l D cy ld t _ p1 0 v5) trivial ⟨callB_of 3 hts (wl_in mw_262) rfl rfl rfl (htl _ mw_2) (htl _ mw_277) hd_yX12_within ⟨(Nat.le_of_ble_eq_true rfl), (Nat.le_of_ble_eq_true rfl)⟩, htl _ mw_261⟩ (tk_w.pick [] rfl) rfl hl.1 rfl (Nat.le_of_ble_eq_true rfl) dX12_drawn_39 ⟨(Nat.le_of_ble_eq_true rfl), (Nat.le_of_ble_eq_true rfl)⟩ (fun v6 H locs hpo hG hS hq9 => ?_)
    obtain ⟨hpo8, hpo9, hpo10, hpo11, hpo12⟩ := hpo
    refine lv_if_eq (tgt := 60) hx hb dX12_drawn_42 (by decide) (fun c9 => ?_) (fun c9 => ?_)
    · have hc13 : v6.toInt = 0 := (fi_eq rfl (show (0 : Int32).toInt = 0 by decide)).mp c9
      refine lv_iconst (v := (-1)) hx hb dX12_drawn_60 (by decide) ?_
      have hk_m1 : ((-1) : Int32).toInt = (-1) := by decide
      exact tk_iret (v := (-1)) hx hb hr rfl hlocks trivial hG hS dX12_drawn_61
    · have hc13 : ¬ (v6.toInt = 0) := fun h9 => c9 ((fi_eq rfl (show (0 : Int32).toInt = 0 by decide)).mpr h9)
      refine lv_aload_n hx hb dX12_drawn_45 rfl (lv_at hl 0 rfl) ?_
      refine tk_get (ci := 12) (C := RX12) (T := TX12) (N := 17) (sp := (6, 1, 0, 0)) hx hb htl inX12 hown hK hG ht_a0 (by decide) tk_no rfl 8 (by decide) (htl _ mw_45) (fun _ h9 => h9) rfl dX12_drawn_46 (fun v9 hf14 hV9 => ?_)
      obtain ⟨b15, rfl, ht_b15⟩ := hV9
      have ht_b15 : t b15 = (1, 0, 0) := ht_b15
      refine tk_get (ci := 0) (C := RX0) (T := TX0) (N := 7) (sp := (8, 22, 10, 5)) hx hb htl inX0 hown hK hG ht_b15 (by decide) tk_no rfl 0 (by decide) (htl _ mw_1698) (fun _ h9 => h9) rfl dX12_drawn_49 (fun v9 hf16 hV9 => ?_)
      obtain ⟨rfl, ht_ld22⟩ := hV9
      have ht_ld22 : t (ld 22) = (10, 0, 5) := ht_ld22
      refine fx_top (v := .ref (ld 22)) rfl ?_
      refine tk_get (ci := 9) (C := RX9) (T := TX9) (N := 11) (sp := (1, 20, 8, 0)) hx hb htl inX9 hown hK hG ht_ld22 (by decide) tk_no rfl 0 (by decide) (htl _ mw_303) (fun _ h9 => h9) rfl dX12_drawn_52 (fun v9 hf17 hV9 => ?_)
      obtain ⟨b18, rfl, ht_b18⟩ := hV9
      have ht_b18 : t b18 = (20, 8, 5) := ht_b18
      refine lv_iload_n hx hb dX12_drawn_55 rfl (lv_at hl 1 rfl) ?_
      refine tk_iald hx hb hK hG ht_b18 (by decide) (fun _ h => h) tk_no rfl (by omega) (by omega) dX12_drawn_56 (fun v19 _ _ => ?_)
      have hr_v19 := tk_rng v19
      refine lv_goto (tgt := 61) hx hb dX12_drawn_57 (by decide) ?_
      exact tk_iret (v := v19) hx hb hr rfl hlocks trivial hG hS dX12_drawn_61
  · refine lv_tableIn (off := 61) (tgt := 62) hx hb dX12_drawn_1 (by omega) (by omega) (by rw [hsw]; rfl) (by decide) ?_
    refine lv_aload_n hx hb dX12_drawn_62 rfl (lv_at hl 0 rfl) ?_
    refine tk_get (ci := 12) (C := RX12) (T := TX12) (N := 17) (sp := (6, 1, 0, 0)) hx hb htl inX12 hown hK hG ht_a0 (by decide) tk_no rfl 8 (by decide) (htl _ mw_45) (fun _ h9 => h9) rfl dX12_drawn_63 (fun v9 hf20 hV9 => ?_)
    obtain ⟨b21, rfl, ht_b21⟩ := hV9
    have ht_b21 : t b21 = (1, 0, 0) := ht_b21
    refine tk_get (ci := 0) (C := RX0) (T := TX0) (N := 7) (sp := (0, 0, 8, 0)) hx hb htl inX0 hown hK hG ht_b21 (by decide) tk_no rfl 2 (by decide) (htl _ mw_1697) (fun _ h9 => h9) rfl dX12_drawn_66 (fun v9 hf22 hV9 => ?_)
    obtain ⟨v23, rfl, (ha_v23 : 0 ≤ v23.toInt), (hb_v23 : v23.toInt ≤ 8)⟩ := hV9
    refine lv_if_le (tgt := 96) hx hb dX12_drawn_69 (by decide) (fun c9 => ?_) (fun c9 => ?_)
    · have hc24 : v23.toInt ≤ 0 := (fi_le rfl (show (0 : Int32).toInt = 0 by decide)).mp c9
      refine lv_iconst (v := (-1)) hx hb dX12_drawn_96 (by decide) ?_
      have hk_m1 : ((-1) : Int32).toInt = (-1) := by decide
      exact tk_iret (v := (-1)) hx hb hr rfl hlocks trivial hG hS dX12_drawn_97
    · have hc24 : ¬ (v23.toInt ≤ 0) := fun h9 => c9 ((fi_le rfl (show (0 : Int32).toInt = 0 by decide)).mpr h9)
      refine lv_iload_n hx hb dX12_drawn_72 rfl (lv_at hl 1 rfl) ?_
      refine lv_iconst (v := 0) hx hb dX12_drawn_73 (by decide) ?_
      refine lv_iconst (v := 1) hx hb dX12_drawn_74 (by decide) ?_
      have hk_0 : (0 : Int32).toInt = 0 := by decide
      have hk_1 : (1 : Int32).toInt = 1 := by decide
      refine tk_Si (As := [.int p1, .int 0, .int 1]) (rest := []) ⟨hx, hb, hml, hown, hts⟩ hK hG hZ hS (k_X12_within l D cy ld t _ p1 0 1) trivial ⟨callB_of 3 hts (wl_in mw_262) rfl rfl rfl (htl _ mw_2) (htl _ mw_277) hd_yX12_within ⟨(Nat.le_of_ble_eq_true rfl), (Nat.le_of_ble_eq_true rfl)⟩, htl _ mw_261⟩ (tk_w.pick [] rfl) rfl hl.1 rfl (Nat.le_of_ble_eq_true rfl) dX12_drawn_75 ⟨(Nat.le_of_ble_eq_true rfl), (Nat.le_of_ble_eq_true rfl)⟩ (fun v25 H locs hpo hG hS hq9 => ?_)
      obtain ⟨hpo27, hpo28, hpo29, hpo30, hpo31⟩ := hpo
      refine lv_if_eq (tgt := 96) hx hb dX12_drawn_78 (by decide) (fun c9 => ?_) (fun c9 => ?_)
      · have hc32 : v25.toInt = 0 := (fi_eq rfl (show (0 : Int32).toInt = 0 by decide)).mp c9
        refine lv_iconst (v := (-1)) hx hb dX12_drawn_96 (by decide) ?_
        have hk_m1 : ((-1) : Int32).toInt = (-1) := by decide
        exact tk_iret (v := (-1)) hx hb hr rfl hlocks trivial hG hS dX12_drawn_97
      · have hc32 : ¬ (v25.toInt = 0) := fun h9 => c9 ((fi_eq rfl (show (0 : Int32).toInt = 0 by decide)).mpr h9)
        refine lv_aload_n hx hb dX12_drawn_81 rfl (lv_at hl 0 rfl) ?_
        refine tk_get (ci := 12) (C := RX12) (T := TX12) (N := 17) (sp := (6, 1, 0, 0)) hx hb htl inX12 hown hK hG ht_a0 (by decide) tk_no rfl 8 (by decide) (htl _ mw_45) (fun _ h9 => h9) rfl dX12_drawn_82 (fun v9 hf33 hV9 => ?_)
        obtain ⟨b34, rfl, ht_b34⟩ := hV9
        have ht_b34 : t b34 = (1, 0, 0) := ht_b34
        refine tk_get (ci := 0) (C := RX0) (T := TX0) (N := 7) (sp := (8, 22, 10, 5)) hx hb htl inX0 hown hK hG ht_b34 (by decide) tk_no rfl 0 (by decide) (htl _ mw_1698) (fun _ h9 => h9) rfl dX12_drawn_85 (fun v9 hf35 hV9 => ?_)
        obtain ⟨rfl, ht_ld22⟩ := hV9
        have ht_ld22 : t (ld 22) = (10, 0, 5) := ht_ld22
        refine fx_top (v := .ref (ld 22)) rfl ?_
        refine tk_get (ci := 9) (C := RX9) (T := TX9) (N := 11) (sp := (1, 20, 2, 0)) hx hb htl inX9 hown hK hG ht_ld22 (by decide) tk_no rfl 3 (by decide) (htl _ mw_390) (fun _ h9 => h9) rfl dX12_drawn_88 (fun v9 hf36 hV9 => ?_)
        obtain ⟨b37, rfl, ht_b37⟩ := hV9
        have ht_b37 : t b37 = (20, 2, 5) := ht_b37
        refine lv_iload_n hx hb dX12_drawn_91 rfl (lv_at hl 1 rfl) ?_
        refine tk_iald hx hb hK hG ht_b37 (by decide) (fun _ h => h) tk_no rfl (by omega) (by omega) dX12_drawn_92 (fun v38 _ _ => ?_)
        have hr_v38 := tk_rng v38
        refine lv_goto (tgt := 97) hx hb dX12_drawn_93 (by decide) ?_
        exact tk_iret (v := v38) hx hb hr rfl hlocks trivial hG hS dX12_drawn_97
  · refine lv_tableIn (off := 97) (tgt := 98) hx hb dX12_drawn_1 (by omega) (by omega) (by rw [hsw]; rfl) (by decide) ?_
    refine lv_iload_n hx hb dX12_drawn_98 rfl (lv_at hl 1 rfl) ?_
    refine lv_iconst (v := 0) hx hb dX12_drawn_99 (by decide) ?_
    refine lv_aload_n hx hb dX12_drawn_100 rfl (lv_at hl 0 rfl) ?_
    refine tk_get (ci := 12) (C := RX12) (T := TX12) (N := 17) (sp := (6, 1, 0, 0)) hx hb htl inX12 hown hK hG ht_a0 (by decide) tk_no rfl 8 (by decide) (htl _ mw_45) (fun _ h9 => h9) rfl dX12_drawn_101 (fun v9 hf39 hV9 => ?_)
    obtain ⟨b40, rfl, ht_b40⟩ := hV9
    have ht_b40 : t b40 = (1, 0, 0) := ht_b40
    refine tk_get (ci := 0) (C := RX0) (T := TX0) (N := 7) (sp := (0, 0, 8, 0)) hx hb htl inX0 hown hK hG ht_b40 (by decide) tk_no rfl 2 (by decide) (htl _ mw_1697) (fun _ h9 => h9) rfl dX12_drawn_104 (fun v9 hf41 hV9 => ?_)
    obtain ⟨v42, rfl, (ha_v42 : 0 ≤ v42.toInt), (hb_v42 : v42.toInt ≤ 8)⟩ := hV9
    refine lv_iconst (v := 1) hx hb dX12_drawn_107 (by decide) ?_
    refine lv_isub hx hb dX12_drawn_108 ?_
    refine tk_sub rfl (show (1 : Int32).toInt = 1 by decide) (by omega) (by omega) (fun v43 h_v43 => ?_)
    have hk_0 : (0 : Int32).toInt = 0 := by decide
    refine tk_Si (As := [.int p1, .int 0, .int v43]) (rest := []) ⟨hx, hb, hml, hown, hts⟩ hK hG hZ hS (k_X12_within l D cy ld t _ p1 0 v43) trivial ⟨callB_of 3 hts (wl_in mw_262) rfl rfl rfl (htl _ mw_2) (htl _ mw_277) hd_yX12_within ⟨(Nat.le_of_ble_eq_true rfl), (Nat.le_of_ble_eq_true rfl)⟩, htl _ mw_261⟩ (tk_w.pick [] rfl) rfl hl.1 rfl (Nat.le_of_ble_eq_true rfl) dX12_drawn_109 ⟨(Nat.le_of_ble_eq_true rfl), (Nat.le_of_ble_eq_true rfl)⟩ (fun v44 H locs hpo hG hS hq9 => ?_)
    obtain ⟨hpo46, hpo47, hpo48, hpo49, hpo50⟩ := hpo
    refine lv_if_eq (tgt := 127) hx hb dX12_drawn_112 (by decide) (fun c9 => ?_) (fun c9 => ?_)
    · have hc51 : v44.toInt = 0 := (fi_eq rfl (show (0 : Int32).toInt = 0 by decide)).mp c9
      refine lv_iconst (v := (-1)) hx hb dX12_drawn_127 (by decide) ?_
      have hk_m1 : ((-1) : Int32).toInt = (-1) := by decide
      exact tk_iret (v := (-1)) hx hb hr rfl hlocks trivial hG hS dX12_drawn_128
    · have hc51 : ¬ (v44.toInt = 0) := fun h9 => c9 ((fi_eq rfl (show (0 : Int32).toInt = 0 by decide)).mpr h9)
      refine lv_aload_n hx hb dX12_drawn_115 rfl (lv_at hl 0 rfl) ?_
      refine tk_get (ci := 12) (C := RX12) (T := TX12) (N := 17) (sp := (6, 1, 0, 0)) hx hb htl inX12 hown hK hG ht_a0 (by decide) tk_no rfl 8 (by decide) (htl _ mw_45) (fun _ h9 => h9) rfl dX12_drawn_116 (fun v9 hf52 hV9 => ?_)
      obtain ⟨b53, rfl, ht_b53⟩ := hV9
      have ht_b53 : t b53 = (1, 0, 0) := ht_b53
      refine tk_get (ci := 0) (C := RX0) (T := TX0) (N := 7) (sp := (6, 20, 8, 0)) hx hb htl inX0 hown hK hG ht_b53 (by decide) tk_no rfl 1 (by decide) (htl _ mw_1699) (fun _ h9 => h9) rfl dX12_drawn_119 (fun v9 hf54 hV9 => ?_)
      obtain ⟨b55, rfl, ht_b55⟩ := hV9
      have ht_b55 : t b55 = (20, 8, 0) := ht_b55
      refine lv_iload_n hx hb dX12_drawn_122 rfl (lv_at hl 1 rfl) ?_
      refine tk_iald hx hb hK hG ht_b55 (by decide) (fun _ h => h) tk_no rfl (by omega) (by omega) dX12_drawn_123 (fun v56 _ _ => ?_)
      have hr_v56 := tk_rng v56
      refine lv_goto (tgt := 128) hx hb dX12_drawn_124 (by decide) ?_
      exact tk_iret (v := v56) hx hb hr rfl hlocks trivial hG hS dX12_drawn_128
  · refine lv_tableOut (tgt := 129) hx hb dX12_drawn_1 (by omega) (by decide) ?_
    refine lv_iconst (v := (-1)) hx hb dX12_drawn_129 (by decide) ?_
    have hk_m1 : ((-1) : Int32).toInt = (-1) := by decide
    exact tk_iret (v := (-1)) hx hb hr rfl hlocks trivial hG hS dX12_drawn_130
  · refine lv_tableOut (tgt := 129) hx hb dX12_drawn_1 (by omega) (by decide) ?_
    refine lv_iconst (v := (-1)) hx hb dX12_drawn_129 (by decide) ?_
    have hk_m1 : ((-1) : Int32).toInt = (-1) := by decide
    exact tk_iret (v := (-1)) hx hb hr rfl hlocks trivial hG hS dX12_drawn_130
theorem dX12_image_0 : decode cX12_image 0 = .ok (.iload_n 1, 1) := by decide +kernel
theorem dX12_image_1 : decode cX12_image 1 = .ok (.iconst 0, 1) := by decide +kernel
theorem dX12_image_2 : decode cX12_image 2 = .ok (.iconst 1, 1) := by decide +kernel
theorem dX12_image_3 : decode cX12_image 3 = .ok (.invokestatic 146, 3) := by decide +kernel
theorem dX12_image_6 : decode cX12_image 6 = .ok (.ifCond .ne 9, 3) := by decide +kernel
theorem dX12_image_15 : decode cX12_image 15 = .ok (.aload_n 0, 1) := by decide +kernel
theorem dX12_image_16 : decode cX12_image 16 = .ok (.getfield 16, 3) := by decide +kernel
theorem dX12_image_19 : decode cX12_image 19 = .ok (.iload_n 1, 1) := by decide +kernel
theorem dX12_image_20 : decode cX12_image 20 = .ok (.aaload, 1) := by decide +kernel
theorem dX12_image_21 : decode cX12_image 21 = .ok (.aload_n 0, 1) := by decide +kernel
theorem dX12_image_22 : decode cX12_image 22 = .ok (.getfield 10, 3) := by decide +kernel
theorem dX12_image_25 : decode cX12_image 25 = .ok (.invokevirtual 345, 3) := by decide +kernel
theorem dX12_image_28 : decode cX12_image 28 = .ok (.aload_n 0, 1) := by decide +kernel
theorem dX12_image_29 : decode cX12_image 29 = .ok (.getfield 20, 3) := by decide +kernel
theorem dX12_image_32 : decode cX12_image 32 = .ok (.iload_n 1, 1) := by decide +kernel
theorem dX12_image_33 : decode cX12_image 33 = .ok (.iconst 1, 1) := by decide +kernel
theorem dX12_image_34 : decode cX12_image 34 = .ok (.bastore, 1) := by decide +kernel
theorem dX12_image_35 : decode cX12_image 35 = .ok (.aload_n 0, 1) := by decide +kernel
theorem dX12_image_36 : decode cX12_image 36 = .ok (.iconst 0, 1) := by decide +kernel
theorem dX12_image_37 : decode cX12_image 37 = .ok (.invokevirtual 165, 3) := by decide +kernel
theorem dX12_image_40 : decode cX12_image 40 = .ok (.ireturn, 1) := by decide +kernel
theorem dX12_image_9 : decode cX12_image 9 = .ok (.aload_n 0, 1) := by decide +kernel
theorem dX12_image_10 : decode cX12_image 10 = .ok (.iconst (-1), 1) := by decide +kernel
theorem dX12_image_11 : decode cX12_image 11 = .ok (.invokevirtual 159, 3) := by decide +kernel
theorem dX12_image_14 : decode cX12_image 14 = .ok (.ireturn, 1) := by decide +kernel
