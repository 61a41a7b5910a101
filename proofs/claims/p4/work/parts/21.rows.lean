set_option maxHeartbeats 4000000 in
set_option maxRecDepth 100000 in
theorem k_X6_isWord_4 (l : Launch) (D : va_G) (cy : Nat → ClassId) (ld : Nat → Nat) (t : tk_T) (a0 : Nat) (ht_a0 : t a0 = (7, 0, 0)) : Met l yX6_isWord (wl yX6_isWord cX6_isWord 2 (some .boolean)) ({ frames := 9, cells := 0, slots := 0, locals := 560 }) (tp D cy ld t [] [.ref a0, .ref (ld 4)] (fun H => True)) (ti D cy ld t [] (fun r H => 0 ≤ r.toInt ∧ r.toInt ≤ 1 ∧ 0 ≤ r.toInt ∧ r.toInt ≤ 1) (tk_w t [])) 0 0 (tk_w t []) := by
  refine tk_met (y := yX6_isWord) (cc := cX6_isWord) (maxL := 2) (ret := (some .boolean)) (av := [.ref a0, .ref (ld 4)]) _ _ (by decide) (Nat.le_of_ble_eq_true rfl) ?_
  intro p e s m args below meth c hx hb hr hml hts htl hown hlocks hK H locs hH hG hS hB hZ ls hl
  have hown : s.vm.findClass RX6 = some m.cls := hown
  have hl : lv_has ls 2 [(0, .ref a0), (1, .ref (ld 4))] := hl
  refine lv_aload_n hx hb dX6_isWord_0 rfl (lv_at hl 0 rfl) ?_
  refine lv_aload_n hx hb dX6_isWord_1 rfl (lv_at hl 1 rfl) ?_
  refine tk_Vi (As := [.ref (ld 4)]) (rest := []) (ci := 6) ⟨hx, hb, hml, hown, hts⟩ hK hG hZ hS (k_X6_wordAmong_4 l D cy ld t a0 ht_a0) trivial ⟨callB_of 1 hts (wl_in mw_517) rfl rfl rfl (htl _ mw_36) (htl _ mw_514) hd_yX6_wordAmong ⟨(Nat.le_of_ble_eq_true rfl), (Nat.le_of_ble_eq_true rfl)⟩, htl _ mw_515, htl _ mw_516⟩ ht_a0 (by decide) tk_no rfl (tk_w.pick [] rfl) rfl hl.1 rfl (Nat.le_of_ble_eq_true rfl) dX6_isWord_2 ⟨(Nat.le_of_ble_eq_true rfl), (Nat.le_of_ble_eq_true rfl)⟩ (fun v1 H locs hpo hG hS hq9 => ?_)
  obtain ⟨hpo3, hpo4⟩ := hpo
  refine lv_if_ne (tgt := 12) hx hb dX6_isWord_5 (by decide) (fun c9 => ?_) (fun c9 => ?_)
  · have hc5 : ¬ (v1.toInt = 0) := fun h9 => c9 ((fi_eq rfl (show (0 : Int32).toInt = 0 by decide)).mpr h9)
    refine lv_iconst (v := 0) hx hb dX6_isWord_12 (by decide) ?_
    have hk_0 : (0 : Int32).toInt = 0 := by decide
    exact tk_iret (v := 0) hx hb hr rfl hlocks (show 0 ≤ (0 : Int32).toInt ∧ (0 : Int32).toInt ≤ 1 ∧ 0 ≤ (0 : Int32).toInt ∧ (0 : Int32).toInt ≤ 1 from ⟨(by omega), (by omega), (by omega), (by omega)⟩) hG hS dX6_isWord_13
  · have hc5 : v1.toInt = 0 := (fi_eq rfl (show (0 : Int32).toInt = 0 by decide)).mp c9
    refine lv_iconst (v := 1) hx hb dX6_isWord_8 (by decide) ?_
    refine lv_goto (tgt := 13) hx hb dX6_isWord_9 (by decide) ?_
    have hk_1 : (1 : Int32).toInt = 1 := by decide
    exact tk_iret (v := 1) hx hb hr rfl hlocks (show 0 ≤ (1 : Int32).toInt ∧ (1 : Int32).toInt ≤ 1 ∧ 0 ≤ (1 : Int32).toInt ∧ (1 : Int32).toInt ≤ 1 from ⟨(by omega), (by omega), (by omega), (by omega)⟩) hG hS dX6_isWord_13
theorem dX6_takeWord_0 : decode cX6_takeWord 0 = .ok (.aload_n 0, 1) := by decide +kernel
theorem dX6_takeWord_1 : decode cX6_takeWord 1 = .ok (.aload_n 1, 1) := by decide +kernel
theorem dX6_takeWord_2 : decode cX6_takeWord 2 = .ok (.invokevirtual 104, 3) := by decide +kernel
theorem dX6_takeWord_5 : decode cX6_takeWord 5 = .ok (.ifCond .eq 10, 3) := by decide +kernel
theorem dX6_takeWord_15 : decode cX6_takeWord 15 = .ok (.aload_n 0, 1) := by decide +kernel
theorem dX6_takeWord_16 : decode cX6_takeWord 16 = .ok (.invokevirtual 60, 3) := by decide +kernel
theorem dX6_takeWord_19 : decode cX6_takeWord 19 = .ok (.return_, 1) := by decide +kernel
theorem dX6_takeWord_8 : decode cX6_takeWord 8 = .ok (.aload_n 0, 1) := by decide +kernel
theorem dX6_takeWord_9 : decode cX6_takeWord 9 = .ok (.invokevirtual 53, 3) := by decide +kernel
theorem dX6_takeWord_12 : decode cX6_takeWord 12 = .ok (.goto 7, 3) := by decide +kernel
set_option maxHeartbeats 4000000 in
set_option maxRecDepth 100000 in
theorem k_X6_takeWord_4 (l : Launch) (D : va_G) (cy : Nat → ClassId) (ld : Nat → Nat) (t : tk_T) (a0 : Nat) (g9 : Int32) (ht_a0 : t a0 = (7, 0, 0)) (hp_0 : 0 ≤ g9.toInt) (hp_1 : g9.toInt ≤ 8) : Met l yX6_takeWord (wl yX6_takeWord cX6_takeWord 2 none) ({ frames := 10, cells := 0, slots := 0, locals := 630 }) (tp D cy ld t [] [.ref a0, .ref (ld 4)] (fun H => tk_f D H a0 6 9 (.int g9))) (tv D cy ld t [] (fun H => tk_f D H a0 6 9 (.int g9)) (tk_w t [(7, 0, 0)])) 0 0 (tk_w t [(7, 0, 0)]) := by
  refine tk_met (y := yX6_takeWord) (cc := cX6_takeWord) (maxL := 2) (ret := none) (av := [.ref a0, .ref (ld 4)]) _ _ (by decide) (Nat.le_of_ble_eq_true rfl) ?_
  intro p e s m args below meth c hx hb hr hml hts htl hown hlocks hK H locs hH hG hS hB hZ ls hl
  have hown : s.vm.findClass RX6 = some m.cls := hown
  have hl : lv_has ls 2 [(0, .ref a0), (1, .ref (ld 4))] := hl
  have hg_0 := hB
  refine lv_aload_n hx hb dX6_takeWord_0 rfl (lv_at hl 0 rfl) ?_
  refine lv_aload_n hx hb dX6_takeWord_1 rfl (lv_at hl 1 rfl) ?_
  refine tk_Vi (As := [.ref (ld 4)]) (rest := []) (ci := 6) ⟨hx, hb, hml, hown, hts⟩ hK hG hZ hS (k_X6_isWord_4 l D cy ld t a0 ht_a0) trivial ⟨callB_of 1 hts (wl_in mw_626) rfl rfl rfl (htl _ mw_36) (htl _ mw_623) hd_yX6_isWord ⟨(Nat.le_of_ble_eq_true rfl), (Nat.le_of_ble_eq_true rfl)⟩, htl _ mw_624, htl _ mw_625⟩ ht_a0 (by decide) tk_no rfl (tk_w.pick [] rfl) rfl hl.1 rfl (Nat.le_of_ble_eq_true rfl) dX6_takeWord_2 ⟨(Nat.le_of_ble_eq_true rfl), (Nat.le_of_ble_eq_true rfl)⟩ (fun v1 H locs hpo hG hS hq9 => ?_)
  have hg_0 := hg_0.call hq9 tk_w.nil
  obtain ⟨hpo3, hpo4, hpo5, hpo6⟩ := hpo
  refine lv_if_eq (tgt := 15) hx hb dX6_takeWord_5 (by decide) (fun c9 => ?_) (fun c9 => ?_)
  · have hc7 : v1.toInt = 0 := (fi_eq rfl (show (0 : Int32).toInt = 0 by decide)).mp c9
    refine lv_aload_n hx hb dX6_takeWord_15 rfl (lv_at hl 0 rfl) ?_
    refine tk_Vv (As := []) (rest := []) (ci := 6) ⟨hx, hb, hml, hown, hts⟩ hK hG hZ hS (k_X6_fail l D cy ld t a0 g9 ht_a0 (by omega) (by omega)) hg_0 ⟨callB_of 0 hts (wl_in mw_507) rfl rfl rfl (htl _ mw_36) (htl _ mw_504) hd_yX6_fail ⟨(Nat.le_of_ble_eq_true rfl), (Nat.le_of_ble_eq_true rfl)⟩, htl _ mw_505, htl _ mw_506⟩ ht_a0 (by decide) tk_no rfl (tk_w.pick [0] rfl) rfl hl.1 rfl (Nat.le_of_ble_eq_true rfl) dX6_takeWord_16 ⟨(Nat.le_of_ble_eq_true rfl), (Nat.le_of_ble_eq_true rfl)⟩ (fun H locs hpo hG hS hq9 => ?_)
    have hf9 := hpo
    exact tk_vret hx hb hr hlocks (show tk_f D H a0 6 9 (.int g9) from hf9) hG hS dX6_takeWord_19
  · have hc7 : ¬ (v1.toInt = 0) := fun h9 => c9 ((fi_eq rfl (show (0 : Int32).toInt = 0 by decide)).mpr h9)
    refine lv_aload_n hx hb dX6_takeWord_8 rfl (lv_at hl 0 rfl) ?_
    refine tk_Vv (As := []) (rest := []) (ci := 6) ⟨hx, hb, hml, hown, hts⟩ hK hG hZ hS (k_X6_step l D cy ld t a0 g9 ht_a0 (by omega) (by omega)) hg_0 ⟨callB_of 0 hts (wl_in mw_494) rfl rfl rfl (htl _ mw_36) (htl _ mw_491) hd_yX6_step ⟨(Nat.le_of_ble_eq_true rfl), (Nat.le_of_ble_eq_true rfl)⟩, htl _ mw_492, htl _ mw_493⟩ ht_a0 (by decide) tk_no rfl (tk_w.pick [0] rfl) rfl hl.1 rfl (Nat.le_of_ble_eq_true rfl) dX6_takeWord_9 ⟨(Nat.le_of_ble_eq_true rfl), (Nat.le_of_ble_eq_true rfl)⟩ (fun H locs hpo hG hS hq9 => ?_)
    have hf11 := hpo
    refine lv_goto (tgt := 19) hx hb dX6_takeWord_12 (by decide) ?_
    exact tk_vret hx hb hr hlocks (show tk_f D H a0 6 9 (.int g9) from hf11) hG hS dX6_takeWord_19
set_option maxHeartbeats 4000000 in
set_option maxRecDepth 100000 in
theorem k_J0_isLatin1_aae02_5 (l : Launch) (D : va_G) (cy : Nat → ClassId) (ld : Nat → Nat) (t : tk_T) : Met l yJ0_isLatin1_aae02 (wl yJ0_isLatin1_aae02 cJ0_isLatin1_aae02 1 (some .boolean)) ({ frames := 3, cells := 0, slots := 0, locals := 140 }) (tp D cy ld t [] [.ref (ld 5)] (fun H => True)) (ti D cy ld t [] (fun r H => r.toInt + (-1) = 0 ∧ 0 ≤ r.toInt ∧ r.toInt ≤ 1) (tk_w t [])) 0 0 (tk_w t []) := by
  refine tk_met (y := yJ0_isLatin1_aae02) (cc := cJ0_isLatin1_aae02) (maxL := 1) (ret := (some .boolean)) (av := [.ref (ld 5)]) _ _ (by decide) (Nat.le_of_ble_eq_true rfl) ?_
  intro p e s m args below meth c hx hb hr hml hts htl hown hlocks hK H locs hH hG hS hB hZ ls hl
  have hown : s.vm.findClass RJ0 = some m.cls := hown
  have hl : lv_has ls 1 [(0, .ref (ld 5))] := hl
  refine va_gets hx hb (hZ.2.1.narrow (fun _ h => h.1)) hS hown (htl _ mw_528) (fun _ h9 => h9) dJ0_isLatin1_aae02_0 ?_
  refine lv_if_eq (tgt := 17) hx hb dJ0_isLatin1_aae02_3 (by decide) (fun c9 => absurd c9 (by decide)) (fun _ => ?_)
  refine lv_aload_n hx hb dJ0_isLatin1_aae02_6 rfl (lv_at hl 0 rfl) ?_
  refine vk_getf hx hb ((hZ.1.1 5 (by decide)).2.1.narrow (fun _ h => h.1)) hS hown (htl _ mw_529) (fun _ h9 => h9) dJ0_isLatin1_aae02_7 ?_
  refine lv_if_ne (tgt := 17) hx hb dJ0_isLatin1_aae02_10 (by decide) (fun c9 => absurd (by decide) c9) (fun _ => ?_)
  refine lv_iconst (v := 1) hx hb dJ0_isLatin1_aae02_13 (by decide) ?_
  refine lv_goto (tgt := 18) hx hb dJ0_isLatin1_aae02_14 (by decide) ?_
  have hk_1 : (1 : Int32).toInt = 1 := by decide
  exact tk_iret (v := 1) hx hb hr rfl hlocks (show (1 : Int32).toInt + (-1) = 0 ∧ 0 ≤ (1 : Int32).toInt ∧ (1 : Int32).toInt ≤ 1 from ⟨(by omega), (by omega), (by omega)⟩) hG hS dJ0_isLatin1_aae02_18
set_option maxHeartbeats 4000000 in
set_option maxRecDepth 100000 in
theorem k_J1_charAt_3b067_5 (l : Launch) (D : va_G) (cy : Nat → ClassId) (ld : Nat → Nat) (t : tk_T) (p1 : Int32) (hp_0 : 0 ≤ p1.toInt) (hp_1 : p1.toInt ≤ 2) : Met l yJ1_charAt_3b067 (wl yJ1_charAt_3b067 cJ1_charAt_3b067 2 (some .char)) ({ frames := 5, cells := 0, slots := 0, locals := 280 }) (tp D cy ld t [] [.ref (ld 55), .int p1] (fun H => True)) (ti D cy ld t [] (fun r H => 0 ≤ r.toInt ∧ r.toInt ≤ 255) (tk_w t [])) 0 0 (tk_w t []) := by
  refine tk_met (y := yJ1_charAt_3b067) (cc := cJ1_charAt_3b067) (maxL := 2) (ret := (some .char)) (av := [.ref (ld 55), .int p1]) _ _ (by decide) (Nat.le_of_ble_eq_true rfl) ?_
  intro p e s m args below meth c hx hb hr hml hts htl hown hlocks hK H locs hH hG hS hB hZ ls hl
  have hown : s.vm.findClass RJ1 = some m.cls := hown
  have hl : lv_has ls 2 [(0, .ref (ld 55)), (1, .int p1)] := hl
  have hr_p1 := tk_rng p1
  refine lv_iload_n hx hb dJ1_charAt_3b067_0 rfl (lv_at hl 1 rfl) ?_
  refine lv_aload_n hx hb dJ1_charAt_3b067_1 rfl (lv_at hl 0 rfl) ?_
  refine va_tlen (v := 3) hx hb ((hZ.1.1 5 (by decide)).2.2.2.narrow (fun _ h => h.1)) hS rfl dJ1_charAt_3b067_2 ?_
  have hk_3 : (3 : Int32).toInt = 3 := by decide
  refine tk_Sv (As := [.int p1, .int 3]) (rest := []) ⟨hx, hb, hml, hown, hts⟩ hK hG hZ hS (k_J0_checkIndex_df160 l D cy ld t p1 3 (by omega) (by omega) (by omega) (by omega) (by omega)) trivial ⟨callB_of 2 hts (wl_in mw_544) rfl rfl rfl (htl _ mw_521) (htl _ mw_542) hd_yJ0_checkIndex_df160 ⟨(Nat.le_of_ble_eq_true rfl), (Nat.le_of_ble_eq_true rfl)⟩, htl _ mw_543⟩ (tk_w.pick [] rfl) rfl hl.1 rfl (Nat.le_of_ble_eq_true rfl) dJ1_charAt_3b067_3 ⟨(Nat.le_of_ble_eq_true rfl), (Nat.le_of_ble_eq_true rfl)⟩ (fun H locs hpo hG hS hq9 => ?_)
  refine lv_aload_n hx hb dJ1_charAt_3b067_6 rfl (lv_at hl 0 rfl) ?_
  refine lv_iload_n hx hb dJ1_charAt_3b067_7 rfl (lv_at hl 1 rfl) ?_
  refine va_tb hx hb ((hZ.1.1 5 (by decide)).2.2.2.narrow (fun _ h => h.1)) hS (vp_in_iff.mpr ⟨by omega, show _ < ((3 : Nat) : Int) by omega⟩) rfl dJ1_charAt_3b067_8 ?_
  refine tk_any (fun v2 => ?_)
  refine lv_sipush (v := 255) hx hb dJ1_charAt_3b067_9 (by decide) ?_
  refine lv_iand hx hb dJ1_charAt_3b067_12 ?_
  refine tk_say (P := fun z => 0 ≤ z.toInt ∧ z.toInt ≤ 255) (tk_and v2 8 (by decide) (by decide)) (fun v3 h_v3 => ?_)
  obtain ⟨v4, e_v4, h_v4⟩ := tk_i2c (x := v3) (by omega) (by omega)
  refine lv_i2c (v := v4) hx hb dJ1_charAt_3b067_13 e_v4 ?_
  exact tk_iret (v := v4) hx hb hr (tk_nc (by omega) (by omega)) hlocks (show 0 ≤ v4.toInt ∧ v4.toInt ≤ 255 from ⟨(by omega), (by omega)⟩) hG hS dJ1_charAt_3b067_14
set_option maxHeartbeats 4000000 in
set_option maxRecDepth 100000 in
theorem k_J0_charAt_5068e_5 (l : Launch) (D : va_G) (cy : Nat → ClassId) (ld : Nat → Nat) (t : tk_T) (p1 : Int32) (hp_0 : 0 ≤ p1.toInt) (hp_1 : p1.toInt ≤ 2) : Met l yJ0_charAt_5068e (wl yJ0_charAt_5068e cJ0_charAt_5068e 2 (some .char)) ({ frames := 6, cells := 0, slots := 0, locals := 350 }) (tp D cy ld t [] [.ref (ld 5), .int p1] (fun H => True)) (ti D cy ld t [] (fun r H => 0 ≤ r.toInt ∧ r.toInt ≤ 255) (tk_w t [])) 0 0 (tk_w t []) := by
  refine tk_met (y := yJ0_charAt_5068e) (cc := cJ0_charAt_5068e) (maxL := 2) (ret := (some .char)) (av := [.ref (ld 5), .int p1]) _ _ (by decide) (Nat.le_of_ble_eq_true rfl) ?_
  intro p e s m args below meth c hx hb hr hml hts htl hown hlocks hK H locs hH hG hS hB hZ ls hl
  have hown : s.vm.findClass RJ0 = some m.cls := hown
  have hl : lv_has ls 2 [(0, .ref (ld 5)), (1, .int p1)] := hl
  have hr_p1 := tk_rng p1
  refine lv_aload_n hx hb dJ0_charAt_5068e_0 rfl (lv_at hl 0 rfl) ?_
  refine tk_Ti (As := []) (rest := []) (j := 5) ⟨hx, hb, hml, hown, hts⟩ hK hG hZ hS (k_J0_isLatin1_aae02_5 l D cy ld t) trivial ⟨callB_of 0 hts (wl_in mw_537) rfl rfl rfl (htl _ mw_521) (htl _ mw_534) hd_yJ0_isLatin1_aae02 ⟨(Nat.le_of_ble_eq_true rfl), (Nat.le_of_ble_eq_true rfl)⟩, htl _ mw_535, htl _ mw_536⟩ (by decide) (tk_w.pick [] rfl) rfl hl.1 rfl (Nat.le_of_ble_eq_true rfl) dJ0_charAt_5068e_1 ⟨(Nat.le_of_ble_eq_true rfl), (Nat.le_of_ble_eq_true rfl)⟩ (fun v1 H locs hpo hG hS hq9 => ?_)
  obtain ⟨hpo3, hpo4, hpo5⟩ := hpo
  obtain rfl : v1 = 1 := (fi_eq (show v1.toInt = 1 by omega) (by decide)).mpr rfl
  refine lv_if_eq (tgt := 16) hx hb dJ0_charAt_5068e_4 (by decide) (fun c9 => absurd c9 (by decide)) (fun _ => ?_)
  refine lv_aload_n hx hb dJ0_charAt_5068e_7 rfl (lv_at hl 0 rfl) ?_
  refine vk_getf hx hb ((hZ.1.1 5 (by decide)).2.2.1.narrow (fun _ h => h.1)) hS hown (htl _ mw_523) (fun _ h9 => h9) dJ0_charAt_5068e_8 ?_
  refine lv_iload_n hx hb dJ0_charAt_5068e_11 rfl (lv_at hl 1 rfl) ?_
  refine tk_Si (As := [.ref (ld 55), .int p1]) (rest := []) ⟨hx, hb, hml, hown, hts⟩ hK hG hZ hS (k_J1_charAt_3b067_5 l D cy ld t p1 (by omega) (by omega)) trivial ⟨callB_of 2 hts (wl_in mw_541) rfl rfl rfl (htl _ mw_540) (htl _ mw_538) hd_yJ1_charAt_3b067 ⟨(Nat.le_of_ble_eq_true rfl), (Nat.le_of_ble_eq_true rfl)⟩, htl _ mw_539⟩ (tk_w.pick [] rfl) rfl hl.1 rfl (Nat.le_of_ble_eq_true rfl) dJ0_charAt_5068e_12 ⟨(Nat.le_of_ble_eq_true rfl), (Nat.le_of_ble_eq_true rfl)⟩ (fun v6 H locs hpo hG hS hq9 => ?_)
  obtain ⟨hpo8, hpo9⟩ := hpo
  exact tk_iret (v := v6) hx hb hr (tk_nc (by omega) (by omega)) hlocks (show 0 ≤ v6.toInt ∧ v6.toInt ≤ 255 from ⟨(by omega), (by omega)⟩) hG hS dJ0_charAt_5068e_15
set_option maxHeartbeats 4000000 in
set_option maxRecDepth 100000 in
theorem k_J0_coder_7d493_5 (l : Launch) (D : va_G) (cy : Nat → ClassId) (ld : Nat → Nat) (t : tk_T) : Met l yJ0_coder_7d493 (wl yJ0_coder_7d493 cJ0_coder_7d493 1 (some .byte)) ({ frames := 3, cells := 0, slots := 0, locals := 140 }) (tp D cy ld t [] [.ref (ld 5)] (fun H => True)) (ti D cy ld t [] (fun r H => r.toInt = 0) (tk_w t [])) 0 0 (tk_w t []) := by
  refine tk_met (y := yJ0_coder_7d493) (cc := cJ0_coder_7d493) (maxL := 1) (ret := (some .byte)) (av := [.ref (ld 5)]) _ _ (by decide) (Nat.le_of_ble_eq_true rfl) ?_
  intro p e s m args below meth c hx hb hr hml hts htl hown hlocks hK H locs hH hG hS hB hZ ls hl
  have hown : s.vm.findClass RJ0 = some m.cls := hown
  have hl : lv_has ls 1 [(0, .ref (ld 5))] := hl
  refine va_gets hx hb (hZ.2.1.narrow (fun _ h => h.1)) hS hown (htl _ mw_528) (fun _ h9 => h9) dJ0_coder_7d493_0 ?_
  refine lv_if_eq (tgt := 13) hx hb dJ0_coder_7d493_3 (by decide) (fun c9 => absurd c9 (by decide)) (fun _ => ?_)
  refine lv_aload_n hx hb dJ0_coder_7d493_6 rfl (lv_at hl 0 rfl) ?_
  refine vk_getf hx hb ((hZ.1.1 5 (by decide)).2.1.narrow (fun _ h => h.1)) hS hown (htl _ mw_529) (fun _ h9 => h9) dJ0_coder_7d493_7 ?_
  refine lv_goto (tgt := 14) hx hb dJ0_coder_7d493_10 (by decide) ?_
  have hk_0 : (0 : Int32).toInt = 0 := by decide
  exact tk_iret (v := 0) hx hb hr rfl hlocks (show (0 : Int32).toInt = 0 from (by omega)) hG hS dJ0_coder_7d493_14
set_option maxHeartbeats 4000000 in
set_option maxRecDepth 100000 in
theorem k_J0_length_8abf5_5 (l : Launch) (D : va_G) (cy : Nat → ClassId) (ld : Nat → Nat) (t : tk_T) : Met l yJ0_length_8abf5 (wl yJ0_length_8abf5 cJ0_length_8abf5 1 (some .int)) ({ frames := 4, cells := 0, slots := 0, locals := 210 }) (tp D cy ld t [] [.ref (ld 5)] (fun H => True)) (ti D cy ld t [] (fun r H => r.toInt + (-3) = 0) (tk_w t [])) 0 0 (tk_w t []) := by
  refine tk_met (y := yJ0_length_8abf5) (cc := cJ0_length_8abf5) (maxL := 1) (ret := (some .int)) (av := [.ref (ld 5)]) _ _ (by decide) (Nat.le_of_ble_eq_true rfl) ?_
  intro p e s m args below meth c hx hb hr hml hts htl hown hlocks hK H locs hH hG hS hB hZ ls hl
  have hown : s.vm.findClass RJ0 = some m.cls := hown
  have hl : lv_has ls 1 [(0, .ref (ld 5))] := hl
  refine lv_aload_n hx hb dJ0_length_8abf5_0 rfl (lv_at hl 0 rfl) ?_
  refine vk_getf hx hb ((hZ.1.1 5 (by decide)).2.2.1.narrow (fun _ h => h.1)) hS hown (htl _ mw_523) (fun _ h9 => h9) dJ0_length_8abf5_1 ?_
  refine va_tlen (v := 3) hx hb ((hZ.1.1 5 (by decide)).2.2.2.narrow (fun _ h => h.1)) hS rfl dJ0_length_8abf5_4 ?_
  refine lv_aload_n hx hb dJ0_length_8abf5_5 rfl (lv_at hl 0 rfl) ?_
  refine tk_Ti (As := []) (rest := [.int 3]) (j := 5) ⟨hx, hb, hml, hown, hts⟩ hK hG hZ hS (k_J0_coder_7d493_5 l D cy ld t) trivial ⟨callB_of 0 hts (wl_in mw_527) rfl rfl rfl (htl _ mw_521) (htl _ mw_524) hd_yJ0_coder_7d493 ⟨(Nat.le_of_ble_eq_true rfl), (Nat.le_of_ble_eq_true rfl)⟩, htl _ mw_525, htl _ mw_526⟩ (by decide) (tk_w.pick [] rfl) rfl hl.1 rfl (Nat.le_of_ble_eq_true rfl) dJ0_length_8abf5_6 ⟨(Nat.le_of_ble_eq_true rfl), (Nat.le_of_ble_eq_true rfl)⟩ (fun v1 H locs hpo hG hS hq9 => ?_)
  have hpo3 := hpo
  obtain rfl : v1 = 0 := (fi_eq (show v1.toInt = 0 by omega) (by decide)).mpr rfl
  refine lv_ishr hx hb dJ0_length_8abf5_9 ?_
  refine fx_ti (v := 3) (by decide) ?_
  have hk_3 : (3 : Int32).toInt = 3 := by decide
  exact tk_iret (v := 3) hx hb hr rfl hlocks (show (3 : Int32).toInt + (-3) = 0 from (by omega)) hG hS dJ0_length_8abf5_10
set_option maxHeartbeats 4000000 in
set_option maxRecDepth 100000 in
theorem k_X6_isToken_5 (l : Launch) (D : va_G) (cy : Nat → ClassId) (ld : Nat → Nat) (t : tk_T) (a0 : Nat) (p2 : Int32) (p3 : Int32) (ht_a0 : t a0 = (7, 0, 0)) (hp_0 : 0 ≤ p2.toInt) (hp_1 : p2.toInt ≤ 3) (hp_2 : 0 ≤ p3.toInt) (hp_3 : p3.toInt ≤ 3) : Met l yX6_isToken (wl yX6_isToken cX6_isToken 5 (some .boolean)) ({ frames := 7, cells := 0, slots := 0, locals := 420 }) (tp D cy ld t [] [.ref a0, .ref (ld 5), .int p2, .int p3] (fun H => True)) (ti D cy ld t [] (fun r H => 0 ≤ r.toInt ∧ r.toInt ≤ 1 ∧ 0 ≤ r.toInt ∧ r.toInt ≤ 1) (tk_w t [])) 0 0 (tk_w t []) := by
  refine tk_met (y := yX6_isToken) (cc := cX6_isToken) (maxL := 5) (ret := (some .boolean)) (av := [.ref a0, .ref (ld 5), .int p2, .int p3]) _ _ (by decide) (Nat.le_of_ble_eq_true rfl) ?_
  intro p e s m args below meth c hx hb hr hml hts htl hown hlocks hK H locs hH hG hS hB hZ ls hl
  have hown : s.vm.findClass RX6 = some m.cls := hown
  have hl : lv_has ls 5 [(0, .ref a0), (1, .ref (ld 5)), (2, .int p2), (3, .int p3)] := hl
  have hr_p2 := tk_rng p2
  have hr_p3 := tk_rng p3
  refine lv_iload_n hx hb dX6_isToken_0 rfl (lv_at hl 3 rfl) ?_
  refine lv_iload_n hx hb dX6_isToken_1 rfl (lv_at hl 2 rfl) ?_
  refine lv_isub hx hb dX6_isToken_2 ?_
  refine tk_sub rfl rfl (by omega) (by omega) (fun v1 h_v1 => ?_)
  refine lv_aload_n hx hb dX6_isToken_3 rfl (lv_at hl 0 rfl) ?_
  refine tk_get (ci := 6) (C := RX6) (T := TX6) (N := 11) (sp := (0, 0, 400, 0)) hx hb htl inX6 hown hK hG ht_a0 (by decide) tk_no rfl 5 (by decide) (htl _ mw_478) (fun _ h9 => h9) rfl dX6_isToken_4 (fun v9 hf2 hV9 => ?_)
  obtain ⟨v3, rfl, (ha_v3 : 0 ≤ v3.toInt), (hb_v3 : v3.toInt ≤ 400)⟩ := hV9
  refine lv_aload_n hx hb dX6_isToken_7 rfl (lv_at hl 0 rfl) ?_
  refine tk_get (ci := 6) (C := RX6) (T := TX6) (N := 11) (sp := (0, 0, 400, 0)) hx hb htl inX6 hown hK hG ht_a0 (by decide) tk_no rfl 4 (by decide) (htl _ mw_495) (fun _ h9 => h9) rfl dX6_isToken_8 (fun v9 hf4 hV9 => ?_)
  obtain ⟨v5, rfl, (ha_v5 : 0 ≤ v5.toInt), (hb_v5 : v5.toInt ≤ 400)⟩ := hV9
  refine lv_isub hx hb dX6_isToken_11 ?_
  refine tk_sub rfl rfl (by omega) (by omega) (fun v6 h_v6 => ?_)
  refine lv_icmp_eq (tgt := 17) hx hb dX6_isToken_12 (by decide) (fun c9 => ?_) (fun c9 => ?_)
  · have hc7 : v1.toInt = v6.toInt := (fi_eq rfl rfl).mp c9
    refine lv_iload_n hx hb dX6_isToken_17 rfl (lv_at hl 2 rfl) ?_
    refine lv_istore (lv' := [(4, .int p2), (0, .ref a0), (1, .ref (ld 5)), (2, .int p2), (3, .int p3)]) hx hb dX6_isToken_18 hl (by decide) rfl (fun ls hl => ?_)
    have hl82 : ∀ (N_l82 : Nat) (v8 : Int32) (H : Heap) (locs : List Loc), v8.toInt ≤ 3 → 0 ≤ (-1) * p2.toInt + v8.toInt → (-1) * v8.toInt + 3 < (N_l82 : Int) → tk_G D cy ld t [] H → va_S (tk_w t []) s.heap H locs → tk_f D H a0 6 5 (.int v3) → tk_f D H a0 6 4 (.int v5) → ∀ ls : Array Slot, lv_has ls 5 [(4, .int v8), (0, .ref a0), (1, .ref (ld 5)), (2, .int p2), (3, .int p3)] → W p l e ({ frames := 7, cells := 0, slots := 0, locals := 420 }) s m args below meth c H locs 0 0 (MQ below (ti D cy ld t [] (fun r H => 0 ≤ r.toInt ∧ r.toInt ≤ 1 ∧ 0 ≤ r.toInt ∧ r.toInt ≤ 1) (tk_w t [])) args s 0 0 (tk_w t [])) (F0 m 20 ls []) := by
      intro N_l82
      induction N_l82 with
      | zero => intro v8 H locs hq0_l82 hq1_l82 hm_l82 hG hS hf2 hf4 ls hl; exfalso; omega
      | succ N_l82 ih_l82 =>
        intro v8 H locs hq0_l82 hq1_l82 hm_l82 hG hS hf2 hf4 ls hl
        refine lv_iload hx hb dX6_isToken_20 (lv_at hl 0 rfl) ?_
        refine lv_iload_n hx hb dX6_isToken_22 rfl (lv_at hl 4 rfl) ?_
        refine lv_icmp_ge (tgt := 57) hx hb dX6_isToken_23 (by decide) (fun c9 => ?_) (fun c9 => ?_)
        · have hc83 : p3.toInt ≤ v8.toInt := (fi_le rfl rfl).mp c9
          refine lv_iconst (v := 1) hx hb dX6_isToken_57 (by decide) ?_
          have hk_1 : (1 : Int32).toInt = 1 := by decide
          exact tk_iret (v := 1) hx hb hr rfl hlocks (show 0 ≤ (1 : Int32).toInt ∧ (1 : Int32).toInt ≤ 1 ∧ 0 ≤ (1 : Int32).toInt ∧ (1 : Int32).toInt ≤ 1 from ⟨(by omega), (by omega), (by omega), (by omega)⟩) hG hS dX6_isToken_58
        · have hc83 : ¬ (p3.toInt ≤ v8.toInt) := fun h9 => c9 ((fi_le rfl rfl).mpr h9)
          refine lv_aload_n hx hb dX6_isToken_26 rfl (lv_at hl 2 rfl) ?_
          refine lv_iload hx hb dX6_isToken_27 (lv_at hl 0 rfl) ?_
          refine tk_Ti (As := [.int v8]) (rest := []) (j := 5) ⟨hx, hb, hml, hown, hts⟩ hK hG hZ hS (k_J0_charAt_5068e_5 l D cy ld t v8 (by omega) (by omega)) trivial ⟨callB_of 1 hts (wl_in mw_533) rfl rfl rfl (htl _ mw_521) (htl _ mw_530) hd_yJ0_charAt_5068e ⟨(Nat.le_of_ble_eq_true rfl), (Nat.le_of_ble_eq_true rfl)⟩, htl _ mw_531, htl _ mw_532⟩ (by decide) (tk_w.pick [] rfl) rfl hl.1 rfl (Nat.le_of_ble_eq_true rfl) dX6_isToken_29 ⟨(Nat.le_of_ble_eq_true rfl), (Nat.le_of_ble_eq_true rfl)⟩ (fun v84 H locs hpo hG hS hq9 => ?_)
          have hf2 := hf2.call hq9 tk_w.nil
          have hf4 := hf4.call hq9 tk_w.nil
          obtain ⟨hpo86, hpo87⟩ := hpo
          refine lv_aload_n hx hb dX6_isToken_32 rfl (lv_at hl 1 rfl) ?_
          refine tk_get (ci := 6) (C := RX6) (T := TX6) (N := 11) (sp := (6, 20, 400, 9)) hx hb htl inX6 hown hK hG ht_a0 (by decide) tk_no rfl 1 (by decide) (htl _ mw_133) (fun _ h9 => h9) rfl dX6_isToken_33 (fun v9 hf88 hV9 => ?_)
          obtain ⟨b89, rfl, ht_b89⟩ := hV9
          have ht_b89 : t b89 = (20, 400, 9) := ht_b89
          refine lv_aload_n hx hb dX6_isToken_36 rfl (lv_at hl 1 rfl) ?_
          refine tk_getk (ci := 6) (C := RX6) (T := TX6) (N := 11) (sp := (0, 0, 400, 0)) hx hb htl inX6 hown hK hG ht_a0 (by decide) tk_no rfl 4 (by decide) (htl _ mw_495) (fun _ h9 => h9) rfl hf4 dX6_isToken_37 ?_
          refine lv_iload hx hb dX6_isToken_40 (lv_at hl 0 rfl) ?_
          refine lv_iadd hx hb dX6_isToken_42 ?_
          refine tk_add rfl rfl (by omega) (by omega) (fun v90 h_v90 => ?_)
          refine lv_iload_n hx hb dX6_isToken_43 rfl (lv_at hl 3 rfl) ?_
          refine lv_isub hx hb dX6_isToken_44 ?_
          refine tk_sub rfl rfl (by omega) (by omega) (fun v91 h_v91 => ?_)
          refine tk_iald hx hb hK hG ht_b89 (by decide) (fun _ h => h) tk_no rfl (by omega) (by omega) dX6_isToken_45 (fun v92 _ _ => ?_)
          have hr_v92 := tk_rng v92
          refine lv_icmp_eq (tgt := 51) hx hb dX6_isToken_46 (by decide) (fun c9 => ?_) (fun c9 => ?_)
          · have hc93 : v84.toInt = v92.toInt := (fi_eq rfl rfl).mp c9
            obtain ⟨v94, h_v94, e_v94⟩ := tk_inc v8 1 (by decide) (by omega) (by omega)
            refine lv_iinc (v := v94) (lv' := [(4, .int v94), (0, .ref a0), (1, .ref (ld 5)), (2, .int p2), (3, .int p3)]) hx hb dX6_isToken_51 hl (k := 0) rfl e_v94 (by decide) rfl (fun ls hl => ?_)
            refine lv_goto (tgt := 20) hx hb dX6_isToken_54 (by decide) ?_
            exact ih_l82 v94 _ _ (by omega) (by omega) (by omega) hG hS hf2 hf4 _ (lv_sub hl [0, 1, 2, 3, 4] rfl)
          · have hc93 : ¬ (v84.toInt = v92.toInt) := fun h9 => c9 ((fi_eq rfl rfl).mpr h9)
            refine lv_iconst (v := 0) hx hb dX6_isToken_49 (by decide) ?_
            have hk_0 : (0 : Int32).toInt = 0 := by decide
            exact tk_iret (v := 0) hx hb hr rfl hlocks (show 0 ≤ (0 : Int32).toInt ∧ (0 : Int32).toInt ≤ 1 ∧ 0 ≤ (0 : Int32).toInt ∧ (0 : Int32).toInt ≤ 1 from ⟨(by omega), (by omega), (by omega), (by omega)⟩) hG hS dX6_isToken_50
    exact hl82 4 p2 _ _ (by omega) (by omega) (by omega) hG hS hf2 hf4 _ (lv_sub hl [0, 1, 2, 3, 4] rfl)
  · have hc7 : ¬ (v1.toInt = v6.toInt) := fun h9 => c9 ((fi_eq rfl rfl).mpr h9)
    refine lv_iconst (v := 0) hx hb dX6_isToken_15 (by decide) ?_
    have hk_0 : (0 : Int32).toInt = 0 := by decide
    exact tk_iret (v := 0) hx hb hr rfl hlocks (show 0 ≤ (0 : Int32).toInt ∧ (0 : Int32).toInt ≤ 1 ∧ 0 ≤ (0 : Int32).toInt ∧ (0 : Int32).toInt ≤ 1 from ⟨(by omega), (by omega), (by omega), (by omega)⟩) hG hS dX6_isToken_16
set_option maxHeartbeats 4000000 in
set_option maxRecDepth 100000 in
theorem k_X6_wordAmong_5 (l : Launch) (D : va_G) (cy : Nat → ClassId) (ld : Nat → Nat) (t : tk_T) (a0 : Nat) (ht_a0 : t a0 = (7, 0, 0)) : Met l yX6_wordAmong (wl yX6_wordAmong cX6_wordAmong 5 (some .int)) ({ frames := 8, cells := 0, slots := 0, locals := 490 }) (tp D cy ld t [] [.ref a0, .ref (ld 5)] (fun H => True)) (ti D cy ld t [] (fun r H => (-1) ≤ r.toInt ∧ r.toInt ≤ 3) (tk_w t [])) 0 0 (tk_w t []) := by
  refine tk_met (y := yX6_wordAmong) (cc := cX6_wordAmong) (maxL := 5) (ret := (some .int)) (av := [.ref a0, .ref (ld 5)]) _ _ (by decide) (Nat.le_of_ble_eq_true rfl) ?_
  intro p e s m args below meth c hx hb hr hml hts htl hown hlocks hK H locs hH hG hS hB hZ ls hl
  have hown : s.vm.findClass RX6 = some m.cls := hown
  have hl : lv_has ls 5 [(0, .ref a0), (1, .ref (ld 5))] := hl
  refine lv_aload_n hx hb dX6_wordAmong_0 rfl (lv_at hl 0 rfl) ?_
  refine tk_Vi (As := []) (rest := []) (ci := 6) ⟨hx, hb, hml, hown, hts⟩ hK hG hZ hS (k_X6_isGood l D cy ld t a0 ht_a0) trivial ⟨callB_of 0 hts (wl_in mw_503) rfl rfl rfl (htl _ mw_36) (htl _ mw_500) hd_yX6_isGood ⟨(Nat.le_of_ble_eq_true rfl), (Nat.le_of_ble_eq_true rfl)⟩, htl _ mw_501, htl _ mw_502⟩ ht_a0 (by decide) tk_no rfl (tk_w.pick [] rfl) rfl hl.1 rfl (Nat.le_of_ble_eq_true rfl) dX6_wordAmong_1 ⟨(Nat.le_of_ble_eq_true rfl), (Nat.le_of_ble_eq_true rfl)⟩ (fun v1 H locs hpo hG hS hq9 => ?_)
  obtain ⟨hpo3, hpo4, hpo5, hpo6⟩ := hpo
  refine lv_if_eq (tgt := 15) hx hb dX6_wordAmong_4 (by decide) (fun c9 => ?_) (fun c9 => ?_)
  · have hc7 : v1.toInt = 0 := (fi_eq rfl (show (0 : Int32).toInt = 0 by decide)).mp c9
    refine lv_iconst (v := (-1)) hx hb dX6_wordAmong_15 (by decide) ?_
    have hk_m1 : ((-1) : Int32).toInt = (-1) := by decide
    exact tk_iret (v := (-1)) hx hb hr rfl hlocks (show (-1) ≤ ((-1) : Int32).toInt ∧ ((-1) : Int32).toInt ≤ 3 from ⟨(by omega), (by omega)⟩) hG hS dX6_wordAmong_16
  · have hc7 : ¬ (v1.toInt = 0) := fun h9 => c9 ((fi_eq rfl (show (0 : Int32).toInt = 0 by decide)).mpr h9)
    refine lv_aload_n hx hb dX6_wordAmong_7 rfl (lv_at hl 0 rfl) ?_
    refine tk_get (ci := 6) (C := RX6) (T := TX6) (N := 11) (sp := (0, (-2147483648), 2147483647, 0)) hx hb htl inX6 hown hK hG ht_a0 (by decide) tk_no rfl 6 (by decide) (htl _ mw_482) (fun _ h9 => h9) rfl dX6_wordAmong_8 (fun v9 hf8 hV9 => ?_)
    obtain ⟨v9, rfl, (ha_v9 : (-2147483648) ≤ v9.toInt), (hb_v9 : v9.toInt ≤ 2147483647)⟩ := hV9
    refine lv_iconst (v := 1) hx hb dX6_wordAmong_11 (by decide) ?_
    refine lv_icmp_eq (tgt := 17) hx hb dX6_wordAmong_12 (by decide) (fun c9 => ?_) (fun c9 => ?_)
    · have hc10 : v9.toInt = 1 := (fi_eq rfl (show (1 : Int32).toInt = 1 by decide)).mp c9
      refine lv_iconst (v := 0) hx hb dX6_wordAmong_17 (by decide) ?_
      refine lv_istore_n (lv' := [(2, .int 0), (0, .ref a0), (1, .ref (ld 5))]) hx hb dX6_wordAmong_18 rfl hl (by decide) rfl (fun ls hl => ?_)
      refine lv_iconst (v := 0) hx hb dX6_wordAmong_19 (by decide) ?_
      refine lv_istore_n (lv' := [(3, .int 0), (2, .int 0), (0, .ref a0), (1, .ref (ld 5))]) hx hb dX6_wordAmong_20 rfl hl (by decide) rfl (fun ls hl => ?_)
      refine lv_iconst (v := 0) hx hb dX6_wordAmong_21 (by decide) ?_
      refine lv_istore (lv' := [(4, .int 0), (3, .int 0), (2, .int 0), (0, .ref a0), (1, .ref (ld 5))]) hx hb dX6_wordAmong_22 hl (by decide) rfl (fun ls hl => ?_)
      have hl275 : ∀ (N_l275 : Nat) (v11 : Int32) (v12 : Int32) (v13 : Int32) (H : Heap) (locs : List Loc), v11.toInt ≤ 4 → 0 ≤ v13.toInt → 0 ≤ v11.toInt + (-1) * v12.toInt → 0 ≤ v12.toInt + (-1) * v13.toInt → (-1) * v11.toInt + 4 < (N_l275 : Int) → tk_G D cy ld t [] H → va_S (tk_w t []) s.heap H locs → tk_f D H a0 6 6 (.int v9) → ∀ ls : Array Slot, lv_has ls 5 [(4, .int v11), (3, .int v12), (2, .int v13), (0, .ref a0), (1, .ref (ld 5))] → W p l e ({ frames := 8, cells := 0, slots := 0, locals := 490 }) s m args below meth c H locs 0 0 (MQ below (ti D cy ld t [] (fun r H => (-1) ≤ r.toInt ∧ r.toInt ≤ 3) (tk_w t [])) args s 0 0 (tk_w t [])) (F0 m 24 ls []) := by
        intro N_l275
        induction N_l275 with
        | zero => intro v11 v12 v13 H locs hq0_l275 hq1_l275 hq2_l275 hq3_l275 hm_l275 hG hS hf8 ls hl; exfalso; omega
        | succ N_l275 ih_l275 =>
          intro v11 v12 v13 H locs hq0_l275 hq1_l275 hq2_l275 hq3_l275 hm_l275 hG hS hf8 ls hl
          refine lv_iload hx hb dX6_wordAmong_24 (lv_at hl 0 rfl) ?_
          refine lv_aload_n hx hb dX6_wordAmong_26 rfl (lv_at hl 4 rfl) ?_
          refine tk_Ti (As := []) (rest := [.int v11]) (j := 5) ⟨hx, hb, hml, hown, hts⟩ hK hG hZ hS (k_J0_length_8abf5_5 l D cy ld t) trivial ⟨callB_of 0 hts (wl_in mw_522) rfl rfl rfl (htl _ mw_521) (htl _ mw_518) hd_yJ0_length_8abf5 ⟨(Nat.le_of_ble_eq_true rfl), (Nat.le_of_ble_eq_true rfl)⟩, htl _ mw_519, htl _ mw_520⟩ (by decide) (tk_w.pick [] rfl) rfl hl.1 rfl (Nat.le_of_ble_eq_true rfl) dX6_wordAmong_27 ⟨(Nat.le_of_ble_eq_true rfl), (Nat.le_of_ble_eq_true rfl)⟩ (fun v276 H locs hpo hG hS hq9 => ?_)
          have hf8 := hf8.call hq9 tk_w.nil
          have hpo278 := hpo
          obtain rfl : v276 = 3 := (fi_eq (show v276.toInt = 3 by omega) (by decide)).mpr rfl
          refine lv_icmp_gt (tgt := 80) hx hb dX6_wordAmong_30 (by decide) (fun c9 => ?_) (fun c9 => ?_)
          · have hc279 : 3 < v11.toInt := (fi_lt (show (3 : Int32).toInt = 3 by decide) rfl).mp c9
            refine lv_iconst (v := (-1)) hx hb dX6_wordAmong_80 (by decide) ?_
            have hk_m1 : ((-1) : Int32).toInt = (-1) := by decide
            exact tk_iret (v := (-1)) hx hb hr rfl hlocks (show (-1) ≤ ((-1) : Int32).toInt ∧ ((-1) : Int32).toInt ≤ 3 from ⟨(by omega), (by omega)⟩) hG hS dX6_wordAmong_81
          · have hc279 : ¬ (3 < v11.toInt) := fun h9 => c9 ((fi_lt (show (3 : Int32).toInt = 3 by decide) rfl).mpr h9)
            refine lv_iload hx hb dX6_wordAmong_33 (lv_at hl 0 rfl) ?_
            refine lv_aload_n hx hb dX6_wordAmong_35 rfl (lv_at hl 4 rfl) ?_
            refine tk_Ti (As := []) (rest := [.int v11]) (j := 5) ⟨hx, hb, hml, hown, hts⟩ hK hG hZ hS (k_J0_length_8abf5_5 l D cy ld t) trivial ⟨callB_of 0 hts (wl_in mw_522) rfl rfl rfl (htl _ mw_521) (htl _ mw_518) hd_yJ0_length_8abf5 ⟨(Nat.le_of_ble_eq_true rfl), (Nat.le_of_ble_eq_true rfl)⟩, htl _ mw_519, htl _ mw_520⟩ (by decide) (tk_w.pick [] rfl) rfl hl.1 rfl (Nat.le_of_ble_eq_true rfl) dX6_wordAmong_36 ⟨(Nat.le_of_ble_eq_true rfl), (Nat.le_of_ble_eq_true rfl)⟩ (fun v280 H locs hpo hG hS hq9 => ?_)
            have hf8 := hf8.call hq9 tk_w.nil
            have hpo282 := hpo
            obtain rfl : v280 = 3 := (fi_eq (show v280.toInt = 3 by omega) (by decide)).mpr rfl
            refine lv_icmp_eq (tgt := 53) hx hb dX6_wordAmong_39 (by decide) (fun c9 => ?_) (fun c9 => ?_)
            · have hc283 : v11.toInt = 3 := (fi_eq rfl (show (3 : Int32).toInt = 3 by decide)).mp c9
              refine lv_aload_n hx hb dX6_wordAmong_53 rfl (lv_at hl 3 rfl) ?_
              refine lv_aload_n hx hb dX6_wordAmong_54 rfl (lv_at hl 4 rfl) ?_
              refine lv_iload_n hx hb dX6_wordAmong_55 rfl (lv_at hl 1 rfl) ?_
              refine lv_iload hx hb dX6_wordAmong_56 (lv_at hl 0 rfl) ?_
              refine tk_Vi (As := [.ref (ld 5), .int v12, .int v11]) (rest := []) (ci := 6) ⟨hx, hb, hml, hown, hts⟩ hK hG hZ hS (k_X6_isToken_5 l D cy ld t a0 v12 v11 ht_a0 (by omega) (by omega) (by omega) (by omega)) trivial ⟨callB_of 3 hts (wl_in mw_570) rfl rfl rfl (htl _ mw_36) (htl _ mw_567) hd_yX6_isToken ⟨(Nat.le_of_ble_eq_true rfl), (Nat.le_of_ble_eq_true rfl)⟩, htl _ mw_568, htl _ mw_569⟩ ht_a0 (by decide) tk_no rfl (tk_w.pick [] rfl) rfl hl.1 rfl (Nat.le_of_ble_eq_true rfl) dX6_wordAmong_58 ⟨(Nat.le_of_ble_eq_true rfl), (Nat.le_of_ble_eq_true rfl)⟩ (fun v284 H locs hpo hG hS hq9 => ?_)
              have hf8 := hf8.call hq9 tk_w.nil
              obtain ⟨hpo286, hpo287, hpo288, hpo289⟩ := hpo
              refine lv_if_eq (tgt := 66) hx hb dX6_wordAmong_61 (by decide) (fun c9 => ?_) (fun c9 => ?_)
              · have hc290 : v284.toInt = 0 := (fi_eq rfl (show (0 : Int32).toInt = 0 by decide)).mp c9
                obtain ⟨v291, h_v291, e_v291⟩ := tk_inc v13 1 (by decide) (by omega) (by omega)
                refine lv_iinc (v := v291) (lv' := [(2, .int v291), (4, .int v11), (3, .int v12), (0, .ref a0), (1, .ref (ld 5))]) hx hb dX6_wordAmong_66 hl (k := 2) rfl e_v291 (by decide) rfl (fun ls hl => ?_)
                refine lv_iload hx hb dX6_wordAmong_69 (lv_at hl 1 rfl) ?_
                refine lv_iconst (v := 1) hx hb dX6_wordAmong_71 (by decide) ?_
                refine lv_iadd hx hb dX6_wordAmong_72 ?_
                refine tk_add rfl (show (1 : Int32).toInt = 1 by decide) (by omega) (by omega) (fun v292 h_v292 => ?_)
                refine lv_istore_n (lv' := [(3, .int v292), (2, .int v291), (4, .int v11), (0, .ref a0), (1, .ref (ld 5))]) hx hb dX6_wordAmong_73 rfl hl (by decide) rfl (fun ls hl => ?_)
                obtain ⟨v293, h_v293, e_v293⟩ := tk_inc v11 1 (by decide) (by omega) (by omega)
                refine lv_iinc (v := v293) (lv' := [(4, .int v293), (3, .int v292), (2, .int v291), (0, .ref a0), (1, .ref (ld 5))]) hx hb dX6_wordAmong_74 hl (k := 2) rfl e_v293 (by decide) rfl (fun ls hl => ?_)
                refine lv_goto (tgt := 24) hx hb dX6_wordAmong_77 (by decide) ?_
                exact ih_l275 v293 v292 v291 _ _ (by omega) (by omega) (by omega) (by omega) (by omega) hG hS hf8 _ (lv_sub hl [0, 1, 2, 3, 4] rfl)
              · have hc290 : ¬ (v284.toInt = 0) := fun h9 => c9 ((fi_eq rfl (show (0 : Int32).toInt = 0 by decide)).mpr h9)
                refine lv_iload_n hx hb dX6_wordAmong_64 rfl (lv_at hl 2 rfl) ?_
                exact tk_iret (v := v13) hx hb hr rfl hlocks (show (-1) ≤ v13.toInt ∧ v13.toInt ≤ 3 from ⟨(by omega), (by omega)⟩) hG hS dX6_wordAmong_65
            · have hc283 : ¬ (v11.toInt = 3) := fun h9 => c9 ((fi_eq rfl (show (3 : Int32).toInt = 3 by decide)).mpr h9)
              refine lv_aload_n hx hb dX6_wordAmong_42 rfl (lv_at hl 4 rfl) ?_
              refine lv_iload hx hb dX6_wordAmong_43 (lv_at hl 0 rfl) ?_
              refine tk_Ti (As := [.int v11]) (rest := []) (j := 5) ⟨hx, hb, hml, hown, hts⟩ hK hG hZ hS (k_J0_charAt_5068e_5 l D cy ld t v11 (by omega) (by omega)) trivial ⟨callB_of 1 hts (wl_in mw_533) rfl rfl rfl (htl _ mw_521) (htl _ mw_530) hd_yJ0_charAt_5068e ⟨(Nat.le_of_ble_eq_true rfl), (Nat.le_of_ble_eq_true rfl)⟩, htl _ mw_531, htl _ mw_532⟩ (by decide) (tk_w.pick [] rfl) rfl hl.1 rfl (Nat.le_of_ble_eq_true rfl) dX6_wordAmong_45 ⟨(Nat.le_of_ble_eq_true rfl), (Nat.le_of_ble_eq_true rfl)⟩ (fun v294 H locs hpo hG hS hq9 => ?_)
              have hf8 := hf8.call hq9 tk_w.nil
              obtain ⟨hpo296, hpo297⟩ := hpo
              refine lv_bipush (v := 32) hx hb dX6_wordAmong_48 (by decide) ?_
              refine lv_icmp_ne (tgt := 74) hx hb dX6_wordAmong_50 (by decide) (fun c9 => ?_) (fun c9 => ?_)
              · have hc298 : ¬ (v294.toInt = 32) := fun h9 => c9 ((fi_eq rfl (show (32 : Int32).toInt = 32 by decide)).mpr h9)
                obtain ⟨v299, h_v299, e_v299⟩ := tk_inc v11 1 (by decide) (by omega) (by omega)
                refine lv_iinc (v := v299) (lv' := [(4, .int v299), (3, .int v12), (2, .int v13), (0, .ref a0), (1, .ref (ld 5))]) hx hb dX6_wordAmong_74 hl (k := 0) rfl e_v299 (by decide) rfl (fun ls hl => ?_)
                refine lv_goto (tgt := 24) hx hb dX6_wordAmong_77 (by decide) ?_
                exact ih_l275 v299 v12 v13 _ _ (by omega) (by omega) (by omega) (by omega) (by omega) hG hS hf8 _ (lv_sub hl [0, 1, 2, 3, 4] rfl)
              · have hc298 : v294.toInt = 32 := (fi_eq rfl (show (32 : Int32).toInt = 32 by decide)).mp c9
                refine lv_aload_n hx hb dX6_wordAmong_53 rfl (lv_at hl 3 rfl) ?_
                refine lv_aload_n hx hb dX6_wordAmong_54 rfl (lv_at hl 4 rfl) ?_
                refine lv_iload_n hx hb dX6_wordAmong_55 rfl (lv_at hl 1 rfl) ?_
                refine lv_iload hx hb dX6_wordAmong_56 (lv_at hl 0 rfl) ?_
                refine tk_Vi (As := [.ref (ld 5), .int v12, .int v11]) (rest := []) (ci := 6) ⟨hx, hb, hml, hown, hts⟩ hK hG hZ hS (k_X6_isToken_5 l D cy ld t a0 v12 v11 ht_a0 (by omega) (by omega) (by omega) (by omega)) trivial ⟨callB_of 3 hts (wl_in mw_570) rfl rfl rfl (htl _ mw_36) (htl _ mw_567) hd_yX6_isToken ⟨(Nat.le_of_ble_eq_true rfl), (Nat.le_of_ble_eq_true rfl)⟩, htl _ mw_568, htl _ mw_569⟩ ht_a0 (by decide) tk_no rfl (tk_w.pick [] rfl) rfl hl.1 rfl (Nat.le_of_ble_eq_true rfl) dX6_wordAmong_58 ⟨(Nat.le_of_ble_eq_true rfl), (Nat.le_of_ble_eq_true rfl)⟩ (fun v300 H locs hpo hG hS hq9 => ?_)
                have hf8 := hf8.call hq9 tk_w.nil
                obtain ⟨hpo302, hpo303, hpo304, hpo305⟩ := hpo
                refine lv_if_eq (tgt := 66) hx hb dX6_wordAmong_61 (by decide) (fun c9 => ?_) (fun c9 => ?_)
                · have hc306 : v300.toInt = 0 := (fi_eq rfl (show (0 : Int32).toInt = 0 by decide)).mp c9
                  obtain ⟨v307, h_v307, e_v307⟩ := tk_inc v13 1 (by decide) (by omega) (by omega)
                  refine lv_iinc (v := v307) (lv' := [(2, .int v307), (4, .int v11), (3, .int v12), (0, .ref a0), (1, .ref (ld 5))]) hx hb dX6_wordAmong_66 hl (k := 2) rfl e_v307 (by decide) rfl (fun ls hl => ?_)
                  refine lv_iload hx hb dX6_wordAmong_69 (lv_at hl 1 rfl) ?_
                  refine lv_iconst (v := 1) hx hb dX6_wordAmong_71 (by decide) ?_
                  refine lv_iadd hx hb dX6_wordAmong_72 ?_
                  refine tk_add rfl (show (1 : Int32).toInt = 1 by decide) (by omega) (by omega) (fun v308 h_v308 => ?_)
                  refine lv_istore_n (lv' := [(3, .int v308), (2, .int v307), (4, .int v11), (0, .ref a0), (1, .ref (ld 5))]) hx hb dX6_wordAmong_73 rfl hl (by decide) rfl (fun ls hl => ?_)
                  obtain ⟨v309, h_v309, e_v309⟩ := tk_inc v11 1 (by decide) (by omega) (by omega)
                  refine lv_iinc (v := v309) (lv' := [(4, .int v309), (3, .int v308), (2, .int v307), (0, .ref a0), (1, .ref (ld 5))]) hx hb dX6_wordAmong_74 hl (k := 2) rfl e_v309 (by decide) rfl (fun ls hl => ?_)
                  refine lv_goto (tgt := 24) hx hb dX6_wordAmong_77 (by decide) ?_
                  exact ih_l275 v309 v308 v307 _ _ (by omega) (by omega) (by omega) (by omega) (by omega) hG hS hf8 _ (lv_sub hl [0, 1, 2, 3, 4] rfl)
                · have hc306 : ¬ (v300.toInt = 0) := fun h9 => c9 ((fi_eq rfl (show (0 : Int32).toInt = 0 by decide)).mpr h9)
                  refine lv_iload_n hx hb dX6_wordAmong_64 rfl (lv_at hl 2 rfl) ?_
                  exact tk_iret (v := v13) hx hb hr rfl hlocks (show (-1) ≤ v13.toInt ∧ v13.toInt ≤ 3 from ⟨(by omega), (by omega)⟩) hG hS dX6_wordAmong_65
      have hk_0 : (0 : Int32).toInt = 0 := by decide
      have hk_0 : (0 : Int32).toInt = 0 := by decide
      have hk_0 : (0 : Int32).toInt = 0 := by decide
      exact hl275 5 0 0 0 _ _ (by omega) (by omega) (by omega) (by omega) (by omega) hG hS hf8 _ (lv_sub hl [0, 1, 2, 3, 4] rfl)
    · have hc10 : ¬ (v9.toInt = 1) := fun h9 => c9 ((fi_eq rfl (show (1 : Int32).toInt = 1 by decide)).mpr h9)
      refine lv_iconst (v := (-1)) hx hb dX6_wordAmong_15 (by decide) ?_
      have hk_m1 : ((-1) : Int32).toInt = (-1) := by decide
      exact tk_iret (v := (-1)) hx hb hr rfl hlocks (show (-1) ≤ ((-1) : Int32).toInt ∧ ((-1) : Int32).toInt ≤ 3 from ⟨(by omega), (by omega)⟩) hG hS dX6_wordAmong_16
set_option maxHeartbeats 4000000 in
set_option maxRecDepth 100000 in
theorem k_X6_isWord_5 (l : Launch) (D : va_G) (cy : Nat → ClassId) (ld : Nat → Nat) (t : tk_T) (a0 : Nat) (ht_a0 : t a0 = (7, 0, 0)) : Met l yX6_isWord (wl yX6_isWord cX6_isWord 2 (some .boolean)) ({ frames := 9, cells := 0, slots := 0, locals := 560 }) (tp D cy ld t [] [.ref a0, .ref (ld 5)] (fun H => True)) (ti D cy ld t [] (fun r H => 0 ≤ r.toInt ∧ r.toInt ≤ 1 ∧ 0 ≤ r.toInt ∧ r.toInt ≤ 1) (tk_w t [])) 0 0 (tk_w t []) := by
  refine tk_met (y := yX6_isWord) (cc := cX6_isWord) (maxL := 2) (ret := (some .boolean)) (av := [.ref a0, .ref (ld 5)]) _ _ (by decide) (Nat.le_of_ble_eq_true rfl) ?_
  intro p e s m args below meth c hx hb hr hml hts htl hown hlocks hK H locs hH hG hS hB hZ ls hl
  have hown : s.vm.findClass RX6 = some m.cls := hown
  have hl : lv_has ls 2 [(0, .ref a0), (1, .ref (ld 5))] := hl
  refine lv_aload_n hx hb dX6_isWord_0 rfl (lv_at hl 0 rfl) ?_
  refine lv_aload_n hx hb dX6_isWord_1 rfl (lv_at hl 1 rfl) ?_
  refine tk_Vi (As := [.ref (ld 5)]) (rest := []) (ci := 6) ⟨hx, hb, hml, hown, hts⟩ hK hG hZ hS (k_X6_wordAmong_5 l D cy ld t a0 ht_a0) trivial ⟨callB_of 1 hts (wl_in mw_517) rfl rfl rfl (htl _ mw_36) (htl _ mw_514) hd_yX6_wordAmong ⟨(Nat.le_of_ble_eq_true rfl), (Nat.le_of_ble_eq_true rfl)⟩, htl _ mw_515, htl _ mw_516⟩ ht_a0 (by decide) tk_no rfl (tk_w.pick [] rfl) rfl hl.1 rfl (Nat.le_of_ble_eq_true rfl) dX6_isWord_2 ⟨(Nat.le_of_ble_eq_true rfl), (Nat.le_of_ble_eq_true rfl)⟩ (fun v1 H locs hpo hG hS hq9 => ?_)
  obtain ⟨hpo3, hpo4⟩ := hpo
  refine lv_if_ne (tgt := 12) hx hb dX6_isWord_5 (by decide) (fun c9 => ?_) (fun c9 => ?_)
  · have hc5 : ¬ (v1.toInt = 0) := fun h9 => c9 ((fi_eq rfl (show (0 : Int32).toInt = 0 by decide)).mpr h9)
    refine lv_iconst (v := 0) hx hb dX6_isWord_12 (by decide) ?_
    have hk_0 : (0 : Int32).toInt = 0 := by decide
    exact tk_iret (v := 0) hx hb hr rfl hlocks (show 0 ≤ (0 : Int32).toInt ∧ (0 : Int32).toInt ≤ 1 ∧ 0 ≤ (0 : Int32).toInt ∧ (0 : Int32).toInt ≤ 1 from ⟨(by omega), (by omega), (by omega), (by omega)⟩) hG hS dX6_isWord_13
  · have hc5 : v1.toInt = 0 := (fi_eq rfl (show (0 : Int32).toInt = 0 by decide)).mp c9
    refine lv_iconst (v := 1) hx hb dX6_isWord_8 (by decide) ?_
    refine lv_goto (tgt := 13) hx hb dX6_isWord_9 (by decide) ?_
    have hk_1 : (1 : Int32).toInt = 1 := by decide
    exact tk_iret (v := 1) hx hb hr rfl hlocks (show 0 ≤ (1 : Int32).toInt ∧ (1 : Int32).toInt ≤ 1 ∧ 0 ≤ (1 : Int32).toInt ∧ (1 : Int32).toInt ≤ 1 from ⟨(by omega), (by omega), (by omega), (by omega)⟩) hG hS dX6_isWord_13
set_option maxHeartbeats 4000000 in
set_option maxRecDepth 100000 in
theorem k_X6_takeWord_5 (l : Launch) (D : va_G) (cy : Nat → ClassId) (ld : Nat → Nat) (t : tk_T) (a0 : Nat) (g9 : Int32) (ht_a0 : t a0 = (7, 0, 0)) (hp_0 : 0 ≤ g9.toInt) (hp_1 : g9.toInt ≤ 8) : Met l yX6_takeWord (wl yX6_takeWord cX6_takeWord 2 none) ({ frames := 10, cells := 0, slots := 0, locals := 630 }) (tp D cy ld t [] [.ref a0, .ref (ld 5)] (fun H => tk_f D H a0 6 9 (.int g9))) (tv D cy ld t [] (fun H => tk_f D H a0 6 9 (.int g9)) (tk_w t [(7, 0, 0)])) 0 0 (tk_w t [(7, 0, 0)]) := by
  refine tk_met (y := yX6_takeWord) (cc := cX6_takeWord) (maxL := 2) (ret := none) (av := [.ref a0, .ref (ld 5)]) _ _ (by decide) (Nat.le_of_ble_eq_true rfl) ?_
  intro p e s m args below meth c hx hb hr hml hts htl hown hlocks hK H locs hH hG hS hB hZ ls hl
  have hown : s.vm.findClass RX6 = some m.cls := hown
  have hl : lv_has ls 2 [(0, .ref a0), (1, .ref (ld 5))] := hl
  have hg_0 := hB
  refine lv_aload_n hx hb dX6_takeWord_0 rfl (lv_at hl 0 rfl) ?_
  refine lv_aload_n hx hb dX6_takeWord_1 rfl (lv_at hl 1 rfl) ?_
  refine tk_Vi (As := [.ref (ld 5)]) (rest := []) (ci := 6) ⟨hx, hb, hml, hown, hts⟩ hK hG hZ hS (k_X6_isWord_5 l D cy ld t a0 ht_a0) trivial ⟨callB_of 1 hts (wl_in mw_626) rfl rfl rfl (htl _ mw_36) (htl _ mw_623) hd_yX6_isWord ⟨(Nat.le_of_ble_eq_true rfl), (Nat.le_of_ble_eq_true rfl)⟩, htl _ mw_624, htl _ mw_625⟩ ht_a0 (by decide) tk_no rfl (tk_w.pick [] rfl) rfl hl.1 rfl (Nat.le_of_ble_eq_true rfl) dX6_takeWord_2 ⟨(Nat.le_of_ble_eq_true rfl), (Nat.le_of_ble_eq_true rfl)⟩ (fun v1 H locs hpo hG hS hq9 => ?_)
  have hg_0 := hg_0.call hq9 tk_w.nil
  obtain ⟨hpo3, hpo4, hpo5, hpo6⟩ := hpo
  refine lv_if_eq (tgt := 15) hx hb dX6_takeWord_5 (by decide) (fun c9 => ?_) (fun c9 => ?_)
  · have hc7 : v1.toInt = 0 := (fi_eq rfl (show (0 : Int32).toInt = 0 by decide)).mp c9
    refine lv_aload_n hx hb dX6_takeWord_15 rfl (lv_at hl 0 rfl) ?_
    refine tk_Vv (As := []) (rest := []) (ci := 6) ⟨hx, hb, hml, hown, hts⟩ hK hG hZ hS (k_X6_fail l D cy ld t a0 g9 ht_a0 (by omega) (by omega)) hg_0 ⟨callB_of 0 hts (wl_in mw_507) rfl rfl rfl (htl _ mw_36) (htl _ mw_504) hd_yX6_fail ⟨(Nat.le_of_ble_eq_true rfl), (Nat.le_of_ble_eq_true rfl)⟩, htl _ mw_505, htl _ mw_506⟩ ht_a0 (by decide) tk_no rfl (tk_w.pick [0] rfl) rfl hl.1 rfl (Nat.le_of_ble_eq_true rfl) dX6_takeWord_16 ⟨(Nat.le_of_ble_eq_true rfl), (Nat.le_of_ble_eq_true rfl)⟩ (fun H locs hpo hG hS hq9 => ?_)
    have hf9 := hpo
    exact tk_vret hx hb hr hlocks (show tk_f D H a0 6 9 (.int g9) from hf9) hG hS dX6_takeWord_19
  · have hc7 : ¬ (v1.toInt = 0) := fun h9 => c9 ((fi_eq rfl (show (0 : Int32).toInt = 0 by decide)).mpr h9)
    refine lv_aload_n hx hb dX6_takeWord_8 rfl (lv_at hl 0 rfl) ?_
    refine tk_Vv (As := []) (rest := []) (ci := 6) ⟨hx, hb, hml, hown, hts⟩ hK hG hZ hS (k_X6_step l D cy ld t a0 g9 ht_a0 (by omega) (by omega)) hg_0 ⟨callB_of 0 hts (wl_in mw_494) rfl rfl rfl (htl _ mw_36) (htl _ mw_491) hd_yX6_step ⟨(Nat.le_of_ble_eq_true rfl), (Nat.le_of_ble_eq_true rfl)⟩, htl _ mw_492, htl _ mw_493⟩ ht_a0 (by decide) tk_no rfl (tk_w.pick [0] rfl) rfl hl.1 rfl (Nat.le_of_ble_eq_true rfl) dX6_takeWord_9 ⟨(Nat.le_of_ble_eq_true rfl), (Nat.le_of_ble_eq_true rfl)⟩ (fun H locs hpo hG hS hq9 => ?_)
    have hf11 := hpo
    refine lv_goto (tgt := 19) hx hb dX6_takeWord_12 (by decide) ?_
    exact tk_vret hx hb hr hlocks (show tk_f D H a0 6 9 (.int g9) from hf11) hG hS dX6_takeWord_19
set_option maxHeartbeats 4000000 in
set_option maxRecDepth 100000 in
theorem k_J0_isLatin1_aae02_0 (l : Launch) (D : va_G) (cy : Nat → ClassId) (ld : Nat → Nat) (t : tk_T) : Met l yJ0_isLatin1_aae02 (wl yJ0_isLatin1_aae02 cJ0_isLatin1_aae02 1 (some .boolean)) ({ frames := 3, cells := 0, slots := 0, locals := 140 }) (tp D cy ld t [] [.ref (ld 0)] (fun H => True)) (ti D cy ld t [] (fun r H => r.toInt + (-1) = 0 ∧ 0 ≤ r.toInt ∧ r.toInt ≤ 1) (tk_w t [])) 0 0 (tk_w t []) := by
  refine tk_met (y := yJ0_isLatin1_aae02) (cc := cJ0_isLatin1_aae02) (maxL := 1) (ret := (some .boolean)) (av := [.ref (ld 0)]) _ _ (by decide) (Nat.le_of_ble_eq_true rfl) ?_
  intro p e s m args below meth c hx hb hr hml hts htl hown hlocks hK H locs hH hG hS hB hZ ls hl
  have hown : s.vm.findClass RJ0 = some m.cls := hown
  have hl : lv_has ls 1 [(0, .ref (ld 0))] := hl
  refine va_gets hx hb (hZ.2.1.narrow (fun _ h => h.1)) hS hown (htl _ mw_528) (fun _ h9 => h9) dJ0_isLatin1_aae02_0 ?_
  refine lv_if_eq (tgt := 17) hx hb dJ0_isLatin1_aae02_3 (by decide) (fun c9 => absurd c9 (by decide)) (fun _ => ?_)
  refine lv_aload_n hx hb dJ0_isLatin1_aae02_6 rfl (lv_at hl 0 rfl) ?_
  refine vk_getf hx hb ((hZ.1.1 0 (by decide)).2.1.narrow (fun _ h => h.1)) hS hown (htl _ mw_529) (fun _ h9 => h9) dJ0_isLatin1_aae02_7 ?_
  refine lv_if_ne (tgt := 17) hx hb dJ0_isLatin1_aae02_10 (by decide) (fun c9 => absurd (by decide) c9) (fun _ => ?_)
  refine lv_iconst (v := 1) hx hb dJ0_isLatin1_aae02_13 (by decide) ?_
  refine lv_goto (tgt := 18) hx hb dJ0_isLatin1_aae02_14 (by decide) ?_
  have hk_1 : (1 : Int32).toInt = 1 := by decide
  exact tk_iret (v := 1) hx hb hr rfl hlocks (show (1 : Int32).toInt + (-1) = 0 ∧ 0 ≤ (1 : Int32).toInt ∧ (1 : Int32).toInt ≤ 1 from ⟨(by omega), (by omega), (by omega)⟩) hG hS dJ0_isLatin1_aae02_18
set_option maxHeartbeats 4000000 in
set_option maxRecDepth 100000 in
theorem k_J1_charAt_3b067_0 (l : Launch) (D : va_G) (cy : Nat → ClassId) (ld : Nat → Nat) (t : tk_T) (p1 : Int32) (hp_0 : 0 ≤ p1.toInt) (hp_1 : p1.toInt ≤ 21) : Met l yJ1_charAt_3b067 (wl yJ1_charAt_3b067 cJ1_charAt_3b067 2 (some .char)) ({ frames := 5, cells := 0, slots := 0, locals := 280 }) (tp D cy ld t [] [.ref (ld 50), .int p1] (fun H => True)) (ti D cy ld t [] (fun r H => 0 ≤ r.toInt ∧ r.toInt ≤ 255) (tk_w t [])) 0 0 (tk_w t []) := by
  refine tk_met (y := yJ1_charAt_3b067) (cc := cJ1_charAt_3b067) (maxL := 2) (ret := (some .char)) (av := [.ref (ld 50), .int p1]) _ _ (by decide) (Nat.le_of_ble_eq_true rfl) ?_
  intro p e s m args below meth c hx hb hr hml hts htl hown hlocks hK H locs hH hG hS hB hZ ls hl
  have hown : s.vm.findClass RJ1 = some m.cls := hown
  have hl : lv_has ls 2 [(0, .ref (ld 50)), (1, .int p1)] := hl
  have hr_p1 := tk_rng p1
  refine lv_iload_n hx hb dJ1_charAt_3b067_0 rfl (lv_at hl 1 rfl) ?_
  refine lv_aload_n hx hb dJ1_charAt_3b067_1 rfl (lv_at hl 0 rfl) ?_
  refine va_tlen (v := 22) hx hb ((hZ.1.1 0 (by decide)).2.2.2.narrow (fun _ h => h.1)) hS rfl dJ1_charAt_3b067_2 ?_
  have hk_22 : (22 : Int32).toInt = 22 := by decide
  refine tk_Sv (As := [.int p1, .int 22]) (rest := []) ⟨hx, hb, hml, hown, hts⟩ hK hG hZ hS (k_J0_checkIndex_df160 l D cy ld t p1 22 (by omega) (by omega) (by omega) (by omega) (by omega)) trivial ⟨callB_of 2 hts (wl_in mw_544) rfl rfl rfl (htl _ mw_521) (htl _ mw_542) hd_yJ0_checkIndex_df160 ⟨(Nat.le_of_ble_eq_true rfl), (Nat.le_of_ble_eq_true rfl)⟩, htl _ mw_543⟩ (tk_w.pick [] rfl) rfl hl.1 rfl (Nat.le_of_ble_eq_true rfl) dJ1_charAt_3b067_3 ⟨(Nat.le_of_ble_eq_true rfl), (Nat.le_of_ble_eq_true rfl)⟩ (fun H locs hpo hG hS hq9 => ?_)
  refine lv_aload_n hx hb dJ1_charAt_3b067_6 rfl (lv_at hl 0 rfl) ?_
  refine lv_iload_n hx hb dJ1_charAt_3b067_7 rfl (lv_at hl 1 rfl) ?_
  refine va_tb hx hb ((hZ.1.1 0 (by decide)).2.2.2.narrow (fun _ h => h.1)) hS (vp_in_iff.mpr ⟨by omega, show _ < ((22 : Nat) : Int) by omega⟩) rfl dJ1_charAt_3b067_8 ?_
  refine tk_any (fun v2 => ?_)
  refine lv_sipush (v := 255) hx hb dJ1_charAt_3b067_9 (by decide) ?_
  refine lv_iand hx hb dJ1_charAt_3b067_12 ?_
  refine tk_say (P := fun z => 0 ≤ z.toInt ∧ z.toInt ≤ 255) (tk_and v2 8 (by decide) (by decide)) (fun v3 h_v3 => ?_)
  obtain ⟨v4, e_v4, h_v4⟩ := tk_i2c (x := v3) (by omega) (by omega)
  refine lv_i2c (v := v4) hx hb dJ1_charAt_3b067_13 e_v4 ?_
  exact tk_iret (v := v4) hx hb hr (tk_nc (by omega) (by omega)) hlocks (show 0 ≤ v4.toInt ∧ v4.toInt ≤ 255 from ⟨(by omega), (by omega)⟩) hG hS dJ1_charAt_3b067_14
set_option maxHeartbeats 4000000 in
set_option maxRecDepth 100000 in
theorem k_J0_charAt_5068e_0 (l : Launch) (D : va_G) (cy : Nat → ClassId) (ld : Nat → Nat) (t : tk_T) (p1 : Int32) (hp_0 : 0 ≤ p1.toInt) (hp_1 : p1.toInt ≤ 21) : Met l yJ0_charAt_5068e (wl yJ0_charAt_5068e cJ0_charAt_5068e 2 (some .char)) ({ frames := 6, cells := 0, slots := 0, locals := 350 }) (tp D cy ld t [] [.ref (ld 0), .int p1] (fun H => True)) (ti D cy ld t [] (fun r H => 0 ≤ r.toInt ∧ r.toInt ≤ 255) (tk_w t [])) 0 0 (tk_w t []) := by
  refine tk_met (y := yJ0_charAt_5068e) (cc := cJ0_charAt_5068e) (maxL := 2) (ret := (some .char)) (av := [.ref (ld 0), .int p1]) _ _ (by decide) (Nat.le_of_ble_eq_true rfl) ?_
  intro p e s m args below meth c hx hb hr hml hts htl hown hlocks hK H locs hH hG hS hB hZ ls hl
  have hown : s.vm.findClass RJ0 = some m.cls := hown
  have hl : lv_has ls 2 [(0, .ref (ld 0)), (1, .int p1)] := hl
  have hr_p1 := tk_rng p1
  refine lv_aload_n hx hb dJ0_charAt_5068e_0 rfl (lv_at hl 0 rfl) ?_
  refine tk_Ti (As := []) (rest := []) (j := 0) ⟨hx, hb, hml, hown, hts⟩ hK hG hZ hS (k_J0_isLatin1_aae02_0 l D cy ld t) trivial ⟨callB_of 0 hts (wl_in mw_537) rfl rfl rfl (htl _ mw_521) (htl _ mw_534) hd_yJ0_isLatin1_aae02 ⟨(Nat.le_of_ble_eq_true rfl), (Nat.le_of_ble_eq_true rfl)⟩, htl _ mw_535, htl _ mw_536⟩ (by decide) (tk_w.pick [] rfl) rfl hl.1 rfl (Nat.le_of_ble_eq_true rfl) dJ0_charAt_5068e_1 ⟨(Nat.le_of_ble_eq_true rfl), (Nat.le_of_ble_eq_true rfl)⟩ (fun v1 H locs hpo hG hS hq9 => ?_)
  obtain ⟨hpo3, hpo4, hpo5⟩ := hpo
  obtain rfl : v1 = 1 := (fi_eq (show v1.toInt = 1 by omega) (by decide)).mpr rfl
  refine lv_if_eq (tgt := 16) hx hb dJ0_charAt_5068e_4 (by decide) (fun c9 => absurd c9 (by decide)) (fun _ => ?_)
  refine lv_aload_n hx hb dJ0_charAt_5068e_7 rfl (lv_at hl 0 rfl) ?_
  refine vk_getf hx hb ((hZ.1.1 0 (by decide)).2.2.1.narrow (fun _ h => h.1)) hS hown (htl _ mw_523) (fun _ h9 => h9) dJ0_charAt_5068e_8 ?_
  refine lv_iload_n hx hb dJ0_charAt_5068e_11 rfl (lv_at hl 1 rfl) ?_
  refine tk_Si (As := [.ref (ld 50), .int p1]) (rest := []) ⟨hx, hb, hml, hown, hts⟩ hK hG hZ hS (k_J1_charAt_3b067_0 l D cy ld t p1 (by omega) (by omega)) trivial ⟨callB_of 2 hts (wl_in mw_541) rfl rfl rfl (htl _ mw_540) (htl _ mw_538) hd_yJ1_charAt_3b067 ⟨(Nat.le_of_ble_eq_true rfl), (Nat.le_of_ble_eq_true rfl)⟩, htl _ mw_539⟩ (tk_w.pick [] rfl) rfl hl.1 rfl (Nat.le_of_ble_eq_true rfl) dJ0_charAt_5068e_12 ⟨(Nat.le_of_ble_eq_true rfl), (Nat.le_of_ble_eq_true rfl)⟩ (fun v6 H locs hpo hG hS hq9 => ?_)
  obtain ⟨hpo8, hpo9⟩ := hpo
  exact tk_iret (v := v6) hx hb hr (tk_nc (by omega) (by omega)) hlocks (show 0 ≤ v6.toInt ∧ v6.toInt ≤ 255 from ⟨(by omega), (by omega)⟩) hG hS dJ0_charAt_5068e_15
set_option maxHeartbeats 4000000 in
set_option maxRecDepth 100000 in
theorem k_J0_coder_7d493_0 (l : Launch) (D : va_G) (cy : Nat → ClassId) (ld : Nat → Nat) (t : tk_T) : Met l yJ0_coder_7d493 (wl yJ0_coder_7d493 cJ0_coder_7d493 1 (some .byte)) ({ frames := 3, cells := 0, slots := 0, locals := 140 }) (tp D cy ld t [] [.ref (ld 0)] (fun H => True)) (ti D cy ld t [] (fun r H => r.toInt = 0) (tk_w t [])) 0 0 (tk_w t []) := by
  refine tk_met (y := yJ0_coder_7d493) (cc := cJ0_coder_7d493) (maxL := 1) (ret := (some .byte)) (av := [.ref (ld 0)]) _ _ (by decide) (Nat.le_of_ble_eq_true rfl) ?_
  intro p e s m args below meth c hx hb hr hml hts htl hown hlocks hK H locs hH hG hS hB hZ ls hl
  have hown : s.vm.findClass RJ0 = some m.cls := hown
  have hl : lv_has ls 1 [(0, .ref (ld 0))] := hl
  refine va_gets hx hb (hZ.2.1.narrow (fun _ h => h.1)) hS hown (htl _ mw_528) (fun _ h9 => h9) dJ0_coder_7d493_0 ?_
  refine lv_if_eq (tgt := 13) hx hb dJ0_coder_7d493_3 (by decide) (fun c9 => absurd c9 (by decide)) (fun _ => ?_)
  refine lv_aload_n hx hb dJ0_coder_7d493_6 rfl (lv_at hl 0 rfl) ?_
  refine vk_getf hx hb ((hZ.1.1 0 (by decide)).2.1.narrow (fun _ h => h.1)) hS hown (htl _ mw_529) (fun _ h9 => h9) dJ0_coder_7d493_7 ?_
  refine lv_goto (tgt := 14) hx hb dJ0_coder_7d493_10 (by decide) ?_
  have hk_0 : (0 : Int32).toInt = 0 := by decide
  exact tk_iret (v := 0) hx hb hr rfl hlocks (show (0 : Int32).toInt = 0 from (by omega)) hG hS dJ0_coder_7d493_14
set_option maxHeartbeats 4000000 in
set_option maxRecDepth 100000 in
theorem k_J0_length_8abf5_0 (l : Launch) (D : va_G) (cy : Nat → ClassId) (ld : Nat → Nat) (t : tk_T) : Met l yJ0_length_8abf5 (wl yJ0_length_8abf5 cJ0_length_8abf5 1 (some .int)) ({ frames := 4, cells := 0, slots := 0, locals := 210 }) (tp D cy ld t [] [.ref (ld 0)] (fun H => True)) (ti D cy ld t [] (fun r H => r.toInt + (-22) = 0) (tk_w t [])) 0 0 (tk_w t []) := by
  refine tk_met (y := yJ0_length_8abf5) (cc := cJ0_length_8abf5) (maxL := 1) (ret := (some .int)) (av := [.ref (ld 0)]) _ _ (by decide) (Nat.le_of_ble_eq_true rfl) ?_
  intro p e s m args below meth c hx hb hr hml hts htl hown hlocks hK H locs hH hG hS hB hZ ls hl
  have hown : s.vm.findClass RJ0 = some m.cls := hown
  have hl : lv_has ls 1 [(0, .ref (ld 0))] := hl
  refine lv_aload_n hx hb dJ0_length_8abf5_0 rfl (lv_at hl 0 rfl) ?_
  refine vk_getf hx hb ((hZ.1.1 0 (by decide)).2.2.1.narrow (fun _ h => h.1)) hS hown (htl _ mw_523) (fun _ h9 => h9) dJ0_length_8abf5_1 ?_
  refine va_tlen (v := 22) hx hb ((hZ.1.1 0 (by decide)).2.2.2.narrow (fun _ h => h.1)) hS rfl dJ0_length_8abf5_4 ?_
  refine lv_aload_n hx hb dJ0_length_8abf5_5 rfl (lv_at hl 0 rfl) ?_
  refine tk_Ti (As := []) (rest := [.int 22]) (j := 0) ⟨hx, hb, hml, hown, hts⟩ hK hG hZ hS (k_J0_coder_7d493_0 l D cy ld t) trivial ⟨callB_of 0 hts (wl_in mw_527) rfl rfl rfl (htl _ mw_521) (htl _ mw_524) hd_yJ0_coder_7d493 ⟨(Nat.le_of_ble_eq_true rfl), (Nat.le_of_ble_eq_true rfl)⟩, htl _ mw_525, htl _ mw_526⟩ (by decide) (tk_w.pick [] rfl) rfl hl.1 rfl (Nat.le_of_ble_eq_true rfl) dJ0_length_8abf5_6 ⟨(Nat.le_of_ble_eq_true rfl), (Nat.le_of_ble_eq_true rfl)⟩ (fun v1 H locs hpo hG hS hq9 => ?_)
  have hpo3 := hpo
  obtain rfl : v1 = 0 := (fi_eq (show v1.toInt = 0 by omega) (by decide)).mpr rfl
  refine lv_ishr hx hb dJ0_length_8abf5_9 ?_
  refine fx_ti (v := 22) (by decide) ?_
  have hk_22 : (22 : Int32).toInt = 22 := by decide
  exact tk_iret (v := 22) hx hb hr rfl hlocks (show (22 : Int32).toInt + (-22) = 0 from (by omega)) hG hS dJ0_length_8abf5_10
set_option maxHeartbeats 4000000 in
set_option maxRecDepth 100000 in
theorem k_X6_isToken_0 (l : Launch) (D : va_G) (cy : Nat → ClassId) (ld : Nat → Nat) (t : tk_T) (a0 : Nat) (p2 : Int32) (p3 : Int32) (ht_a0 : t a0 = (7, 0, 0)) (hp_0 : 0 ≤ p2.toInt) (hp_1 : p2.toInt ≤ 22) (hp_2 : 0 ≤ p3.toInt) (hp_3 : p3.toInt ≤ 22) : Met l yX6_isToken (wl yX6_isToken cX6_isToken 5 (some .boolean)) ({ frames := 7, cells := 0, slots := 0, locals := 420 }) (tp D cy ld t [] [.ref a0, .ref (ld 0), .int p2, .int p3] (fun H => True)) (ti D cy ld t [] (fun r H => 0 ≤ r.toInt ∧ r.toInt ≤ 1 ∧ 0 ≤ r.toInt ∧ r.toInt ≤ 1) (tk_w t [])) 0 0 (tk_w t []) := by
  refine tk_met (y := yX6_isToken) (cc := cX6_isToken) (maxL := 5) (ret := (some .boolean)) (av := [.ref a0, .ref (ld 0), .int p2, .int p3]) _ _ (by decide) (Nat.le_of_ble_eq_true rfl) ?_
  intro p e s m args below meth c hx hb hr hml hts htl hown hlocks hK H locs hH hG hS hB hZ ls hl
  have hown : s.vm.findClass RX6 = some m.cls := hown
  have hl : lv_has ls 5 [(0, .ref a0), (1, .ref (ld 0)), (2, .int p2), (3, .int p3)] := hl
  have hr_p2 := tk_rng p2
  have hr_p3 := tk_rng p3
  refine lv_iload_n hx hb dX6_isToken_0 rfl (lv_at hl 3 rfl) ?_
  refine lv_iload_n hx hb dX6_isToken_1 rfl (lv_at hl 2 rfl) ?_
  refine lv_isub hx hb dX6_isToken_2 ?_
  refine tk_sub rfl rfl (by omega) (by omega) (fun v1 h_v1 => ?_)
  refine lv_aload_n hx hb dX6_isToken_3 rfl (lv_at hl 0 rfl) ?_
  refine tk_get (ci := 6) (C := RX6) (T := TX6) (N := 11) (sp := (0, 0, 400, 0)) hx hb htl inX6 hown hK hG ht_a0 (by decide) tk_no rfl 5 (by decide) (htl _ mw_478) (fun _ h9 => h9) rfl dX6_isToken_4 (fun v9 hf2 hV9 => ?_)
  obtain ⟨v3, rfl, (ha_v3 : 0 ≤ v3.toInt), (hb_v3 : v3.toInt ≤ 400)⟩ := hV9
  refine lv_aload_n hx hb dX6_isToken_7 rfl (lv_at hl 0 rfl) ?_
  refine tk_get (ci := 6) (C := RX6) (T := TX6) (N := 11) (sp := (0, 0, 400, 0)) hx hb htl inX6 hown hK hG ht_a0 (by decide) tk_no rfl 4 (by decide) (htl _ mw_495) (fun _ h9 => h9) rfl dX6_isToken_8 (fun v9 hf4 hV9 => ?_)
  obtain ⟨v5, rfl, (ha_v5 : 0 ≤ v5.toInt), (hb_v5 : v5.toInt ≤ 400)⟩ := hV9
  refine lv_isub hx hb dX6_isToken_11 ?_
  refine tk_sub rfl rfl (by omega) (by omega) (fun v6 h_v6 => ?_)
  refine lv_icmp_eq (tgt := 17) hx hb dX6_isToken_12 (by decide) (fun c9 => ?_) (fun c9 => ?_)
  · have hc7 : v1.toInt = v6.toInt := (fi_eq rfl rfl).mp c9
    refine lv_iload_n hx hb dX6_isToken_17 rfl (lv_at hl 2 rfl) ?_
    refine lv_istore (lv' := [(4, .int p2), (0, .ref a0), (1, .ref (ld 0)), (2, .int p2), (3, .int p3)]) hx hb dX6_isToken_18 hl (by decide) rfl (fun ls hl => ?_)
    have hl82 : ∀ (N_l82 : Nat) (v8 : Int32) (H : Heap) (locs : List Loc), v8.toInt ≤ 22 → 0 ≤ (-1) * p2.toInt + v8.toInt → (-1) * v8.toInt + 22 < (N_l82 : Int) → tk_G D cy ld t [] H → va_S (tk_w t []) s.heap H locs → tk_f D H a0 6 5 (.int v3) → tk_f D H a0 6 4 (.int v5) → ∀ ls : Array Slot, lv_has ls 5 [(4, .int v8), (0, .ref a0), (1, .ref (ld 0)), (2, .int p2), (3, .int p3)] → W p l e ({ frames := 7, cells := 0, slots := 0, locals := 420 }) s m args below meth c H locs 0 0 (MQ below (ti D cy ld t [] (fun r H => 0 ≤ r.toInt ∧ r.toInt ≤ 1 ∧ 0 ≤ r.toInt ∧ r.toInt ≤ 1) (tk_w t [])) args s 0 0 (tk_w t [])) (F0 m 20 ls []) := by
      intro N_l82
      induction N_l82 with
      | zero => intro v8 H locs hq0_l82 hq1_l82 hm_l82 hG hS hf2 hf4 ls hl; exfalso; omega
      | succ N_l82 ih_l82 =>
        intro v8 H locs hq0_l82 hq1_l82 hm_l82 hG hS hf2 hf4 ls hl
        refine lv_iload hx hb dX6_isToken_20 (lv_at hl 0 rfl) ?_
        refine lv_iload_n hx hb dX6_isToken_22 rfl (lv_at hl 4 rfl) ?_
        refine lv_icmp_ge (tgt := 57) hx hb dX6_isToken_23 (by decide) (fun c9 => ?_) (fun c9 => ?_)
        · have hc83 : p3.toInt ≤ v8.toInt := (fi_le rfl rfl).mp c9
          refine lv_iconst (v := 1) hx hb dX6_isToken_57 (by decide) ?_
          have hk_1 : (1 : Int32).toInt = 1 := by decide
          exact tk_iret (v := 1) hx hb hr rfl hlocks (show 0 ≤ (1 : Int32).toInt ∧ (1 : Int32).toInt ≤ 1 ∧ 0 ≤ (1 : Int32).toInt ∧ (1 : Int32).toInt ≤ 1 from ⟨(by omega), (by omega), (by omega), (by omega)⟩) hG hS dX6_isToken_58
        · have hc83 : ¬ (p3.toInt ≤ v8.toInt) := fun h9 => c9 ((fi_le rfl rfl).mpr h9)
          refine lv_aload_n hx hb dX6_isToken_26 rfl (lv_at hl 2 rfl) ?_
          refine lv_iload hx hb dX6_isToken_27 (lv_at hl 0 rfl) ?_
          refine tk_Ti (As := [.int v8]) (rest := []) (j := 0) ⟨hx, hb, hml, hown, hts⟩ hK hG hZ hS (k_J0_charAt_5068e_0 l D cy ld t v8 (by omega) (by omega)) trivial ⟨callB_of 1 hts (wl_in mw_533) rfl rfl rfl (htl _ mw_521) (htl _ mw_530) hd_yJ0_charAt_5068e ⟨(Nat.le_of_ble_eq_true rfl), (Nat.le_of_ble_eq_true rfl)⟩, htl _ mw_531, htl _ mw_532⟩ (by decide) (tk_w.pick [] rfl) rfl hl.1 rfl (Nat.le_of_ble_eq_true rfl) dX6_isToken_29 ⟨(Nat.le_of_ble_eq_true rfl), (Nat.le_of_ble_eq_true rfl)⟩ (fun v84 H locs hpo hG hS hq9 => ?_)
          have hf2 := hf2.call hq9 tk_w.nil
          have hf4 := hf4.call hq9 tk_w.nil
          obtain ⟨hpo86, hpo87⟩ := hpo
          refine lv_aload_n hx hb dX6_isToken_32 rfl (lv_at hl 1 rfl) ?_
          refine tk_get (ci := 6) (C := RX6) (T := TX6) (N := 11) (sp := (6, 20, 400, 9)) hx hb htl inX6 hown hK hG ht_a0 (by decide) tk_no rfl 1 (by decide) (htl _ mw_133) (fun _ h9 => h9) rfl dX6_isToken_33 (fun v9 hf88 hV9 => ?_)
          obtain ⟨b89, rfl, ht_b89⟩ := hV9
          have ht_b89 : t b89 = (20, 400, 9) := ht_b89
          refine lv_aload_n hx hb dX6_isToken_36 rfl (lv_at hl 1 rfl) ?_
          refine tk_getk (ci := 6) (C := RX6) (T := TX6) (N := 11) (sp := (0, 0, 400, 0)) hx hb htl inX6 hown hK hG ht_a0 (by decide) tk_no rfl 4 (by decide) (htl _ mw_495) (fun _ h9 => h9) rfl hf4 dX6_isToken_37 ?_
          refine lv_iload hx hb dX6_isToken_40 (lv_at hl 0 rfl) ?_
          refine lv_iadd hx hb dX6_isToken_42 ?_
          refine tk_add rfl rfl (by omega) (by omega) (fun v90 h_v90 => ?_)
          refine lv_iload_n hx hb dX6_isToken_43 rfl (lv_at hl 3 rfl) ?_
          refine lv_isub hx hb dX6_isToken_44 ?_
          refine tk_sub rfl rfl (by omega) (by omega) (fun v91 h_v91 => ?_)
          refine tk_iald hx hb hK hG ht_b89 (by decide) (fun _ h => h) tk_no rfl (by omega) (by omega) dX6_isToken_45 (fun v92 _ _ => ?_)
          have hr_v92 := tk_rng v92
          refine lv_icmp_eq (tgt := 51) hx hb dX6_isToken_46 (by decide) (fun c9 => ?_) (fun c9 => ?_)
          · have hc93 : v84.toInt = v92.toInt := (fi_eq rfl rfl).mp c9
            obtain ⟨v94, h_v94, e_v94⟩ := tk_inc v8 1 (by decide) (by omega) (by omega)
            refine lv_iinc (v := v94) (lv' := [(4, .int v94), (0, .ref a0), (1, .ref (ld 0)), (2, .int p2), (3, .int p3)]) hx hb dX6_isToken_51 hl (k := 0) rfl e_v94 (by decide) rfl (fun ls hl => ?_)
            refine lv_goto (tgt := 20) hx hb dX6_isToken_54 (by decide) ?_
            exact ih_l82 v94 _ _ (by omega) (by omega) (by omega) hG hS hf2 hf4 _ (lv_sub hl [0, 1, 2, 3, 4] rfl)
          · have hc93 : ¬ (v84.toInt = v92.toInt) := fun h9 => c9 ((fi_eq rfl rfl).mpr h9)
            refine lv_iconst (v := 0) hx hb dX6_isToken_49 (by decide) ?_
            have hk_0 : (0 : Int32).toInt = 0 := by decide
            exact tk_iret (v := 0) hx hb hr rfl hlocks (show 0 ≤ (0 : Int32).toInt ∧ (0 : Int32).toInt ≤ 1 ∧ 0 ≤ (0 : Int32).toInt ∧ (0 : Int32).toInt ≤ 1 from ⟨(by omega), (by omega), (by omega), (by omega)⟩) hG hS dX6_isToken_50
    exact hl82 23 p2 _ _ (by omega) (by omega) (by omega) hG hS hf2 hf4 _ (lv_sub hl [0, 1, 2, 3, 4] rfl)
  · have hc7 : ¬ (v1.toInt = v6.toInt) := fun h9 => c9 ((fi_eq rfl rfl).mpr h9)
    refine lv_iconst (v := 0) hx hb dX6_isToken_15 (by decide) ?_
    have hk_0 : (0 : Int32).toInt = 0 := by decide
    exact tk_iret (v := 0) hx hb hr rfl hlocks (show 0 ≤ (0 : Int32).toInt ∧ (0 : Int32).toInt ≤ 1 ∧ 0 ≤ (0 : Int32).toInt ∧ (0 : Int32).toInt ≤ 1 from ⟨(by omega), (by omega), (by omega), (by omega)⟩) hG hS dX6_isToken_16
set_option maxHeartbeats 4000000 in
set_option maxRecDepth 100000 in
theorem k_X6_wordAmong_0 (l : Launch) (D : va_G) (cy : Nat → ClassId) (ld : Nat → Nat) (t : tk_T) (a0 : Nat) (ht_a0 : t a0 = (7, 0, 0)) : Met l yX6_wordAmong (wl yX6_wordAmong cX6_wordAmong 5 (some .int)) ({ frames := 8, cells := 0, slots := 0, locals := 490 }) (tp D cy ld t [] [.ref a0, .ref (ld 0)] (fun H => True)) (ti D cy ld t [] (fun r H => (-1) ≤ r.toInt ∧ r.toInt ≤ 22) (tk_w t [])) 0 0 (tk_w t []) := by
  refine tk_met (y := yX6_wordAmong) (cc := cX6_wordAmong) (maxL := 5) (ret := (some .int)) (av := [.ref a0, .ref (ld 0)]) _ _ (by decide) (Nat.le_of_ble_eq_true rfl) ?_
  intro p e s m args below meth c hx hb hr hml hts htl hown hlocks hK H locs hH hG hS hB hZ ls hl
  have hown : s.vm.findClass RX6 = some m.cls := hown
  have hl : lv_has ls 5 [(0, .ref a0), (1, .ref (ld 0))] := hl
  refine lv_aload_n hx hb dX6_wordAmong_0 rfl (lv_at hl 0 rfl) ?_
  refine tk_Vi (As := []) (rest := []) (ci := 6) ⟨hx, hb, hml, hown, hts⟩ hK hG hZ hS (k_X6_isGood l D cy ld t a0 ht_a0) trivial ⟨callB_of 0 hts (wl_in mw_503) rfl rfl rfl (htl _ mw_36) (htl _ mw_500) hd_yX6_isGood ⟨(Nat.le_of_ble_eq_true rfl), (Nat.le_of_ble_eq_true rfl)⟩, htl _ mw_501, htl _ mw_502⟩ ht_a0 (by decide) tk_no rfl (tk_w.pick [] rfl) rfl hl.1 rfl (Nat.le_of_ble_eq_true rfl) dX6_wordAmong_1 ⟨(Nat.le_of_ble_eq_true rfl), (Nat.le_of_ble_eq_true rfl)⟩ (fun v1 H locs hpo hG hS hq9 => ?_)
  obtain ⟨hpo3, hpo4, hpo5, hpo6⟩ := hpo
  refine lv_if_eq (tgt := 15) hx hb dX6_wordAmong_4 (by decide) (fun c9 => ?_) (fun c9 => ?_)
  · have hc7 : v1.toInt = 0 := (fi_eq rfl (show (0 : Int32).toInt = 0 by decide)).mp c9
    refine lv_iconst (v := (-1)) hx hb dX6_wordAmong_15 (by decide) ?_
    have hk_m1 : ((-1) : Int32).toInt = (-1) := by decide
    exact tk_iret (v := (-1)) hx hb hr rfl hlocks (show (-1) ≤ ((-1) : Int32).toInt ∧ ((-1) : Int32).toInt ≤ 22 from ⟨(by omega), (by omega)⟩) hG hS dX6_wordAmong_16
  · have hc7 : ¬ (v1.toInt = 0) := fun h9 => c9 ((fi_eq rfl (show (0 : Int32).toInt = 0 by decide)).mpr h9)
    refine lv_aload_n hx hb dX6_wordAmong_7 rfl (lv_at hl 0 rfl) ?_
    refine tk_get (ci := 6) (C := RX6) (T := TX6) (N := 11) (sp := (0, (-2147483648), 2147483647, 0)) hx hb htl inX6 hown hK hG ht_a0 (by decide) tk_no rfl 6 (by decide) (htl _ mw_482) (fun _ h9 => h9) rfl dX6_wordAmong_8 (fun v9 hf8 hV9 => ?_)
    obtain ⟨v9, rfl, (ha_v9 : (-2147483648) ≤ v9.toInt), (hb_v9 : v9.toInt ≤ 2147483647)⟩ := hV9
    refine lv_iconst (v := 1) hx hb dX6_wordAmong_11 (by decide) ?_
    refine lv_icmp_eq (tgt := 17) hx hb dX6_wordAmong_12 (by decide) (fun c9 => ?_) (fun c9 => ?_)
    · have hc10 : v9.toInt = 1 := (fi_eq rfl (show (1 : Int32).toInt = 1 by decide)).mp c9
      refine lv_iconst (v := 0) hx hb dX6_wordAmong_17 (by decide) ?_
      refine lv_istore_n (lv' := [(2, .int 0), (0, .ref a0), (1, .ref (ld 0))]) hx hb dX6_wordAmong_18 rfl hl (by decide) rfl (fun ls hl => ?_)
      refine lv_iconst (v := 0) hx hb dX6_wordAmong_19 (by decide) ?_
      refine lv_istore_n (lv' := [(3, .int 0), (2, .int 0), (0, .ref a0), (1, .ref (ld 0))]) hx hb dX6_wordAmong_20 rfl hl (by decide) rfl (fun ls hl => ?_)
      refine lv_iconst (v := 0) hx hb dX6_wordAmong_21 (by decide) ?_
      refine lv_istore (lv' := [(4, .int 0), (3, .int 0), (2, .int 0), (0, .ref a0), (1, .ref (ld 0))]) hx hb dX6_wordAmong_22 hl (by decide) rfl (fun ls hl => ?_)
      have hl275 : ∀ (N_l275 : Nat) (v11 : Int32) (v12 : Int32) (v13 : Int32) (H : Heap) (locs : List Loc), v11.toInt ≤ 23 → 0 ≤ v13.toInt → 0 ≤ v11.toInt + (-1) * v12.toInt → 0 ≤ v12.toInt + (-1) * v13.toInt → (-1) * v11.toInt + 23 < (N_l275 : Int) → tk_G D cy ld t [] H → va_S (tk_w t []) s.heap H locs → tk_f D H a0 6 6 (.int v9) → ∀ ls : Array Slot, lv_has ls 5 [(4, .int v11), (3, .int v12), (2, .int v13), (0, .ref a0), (1, .ref (ld 0))] → W p l e ({ frames := 8, cells := 0, slots := 0, locals := 490 }) s m args below meth c H locs 0 0 (MQ below (ti D cy ld t [] (fun r H => (-1) ≤ r.toInt ∧ r.toInt ≤ 22) (tk_w t [])) args s 0 0 (tk_w t [])) (F0 m 24 ls []) := by
        intro N_l275
        induction N_l275 with
        | zero => intro v11 v12 v13 H locs hq0_l275 hq1_l275 hq2_l275 hq3_l275 hm_l275 hG hS hf8 ls hl; exfalso; omega
        | succ N_l275 ih_l275 =>
          intro v11 v12 v13 H locs hq0_l275 hq1_l275 hq2_l275 hq3_l275 hm_l275 hG hS hf8 ls hl
          refine lv_iload hx hb dX6_wordAmong_24 (lv_at hl 0 rfl) ?_
          refine lv_aload_n hx hb dX6_wordAmong_26 rfl (lv_at hl 4 rfl) ?_
          refine tk_Ti (As := []) (rest := [.int v11]) (j := 0) ⟨hx, hb, hml, hown, hts⟩ hK hG hZ hS (k_J0_length_8abf5_0 l D cy ld t) trivial ⟨callB_of 0 hts (wl_in mw_522) rfl rfl rfl (htl _ mw_521) (htl _ mw_518) hd_yJ0_length_8abf5 ⟨(Nat.le_of_ble_eq_true rfl), (Nat.le_of_ble_eq_true rfl)⟩, htl _ mw_519, htl _ mw_520⟩ (by decide) (tk_w.pick [] rfl) rfl hl.1 rfl (Nat.le_of_ble_eq_true rfl) dX6_wordAmong_27 ⟨(Nat.le_of_ble_eq_true rfl), (Nat.le_of_ble_eq_true rfl)⟩ (fun v276 H locs hpo hG hS hq9 => ?_)
          have hf8 := hf8.call hq9 tk_w.nil
          have hpo278 := hpo
          obtain rfl : v276 = 22 := (fi_eq (show v276.toInt = 22 by omega) (by decide)).mpr rfl
          refine lv_icmp_gt (tgt := 80) hx hb dX6_wordAmong_30 (by decide) (fun c9 => ?_) (fun c9 => ?_)
          · have hc279 : 22 < v11.toInt := (fi_lt (show (22 : Int32).toInt = 22 by decide) rfl).mp c9
            refine lv_iconst (v := (-1)) hx hb dX6_wordAmong_80 (by decide) ?_
            have hk_m1 : ((-1) : Int32).toInt = (-1) := by decide
            exact tk_iret (v := (-1)) hx hb hr rfl hlocks (show (-1) ≤ ((-1) : Int32).toInt ∧ ((-1) : Int32).toInt ≤ 22 from ⟨(by omega), (by omega)⟩) hG hS dX6_wordAmong_81
          · have hc279 : ¬ (22 < v11.toInt) := fun h9 => c9 ((fi_lt (show (22 : Int32).toInt = 22 by decide) rfl).mpr h9)
            refine lv_iload hx hb dX6_wordAmong_33 (lv_at hl 0 rfl) ?_
            refine lv_aload_n hx hb dX6_wordAmong_35 rfl (lv_at hl 4 rfl) ?_
            refine tk_Ti (As := []) (rest := [.int v11]) (j := 0) ⟨hx, hb, hml, hown, hts⟩ hK hG hZ hS (k_J0_length_8abf5_0 l D cy ld t) trivial ⟨callB_of 0 hts (wl_in mw_522) rfl rfl rfl (htl _ mw_521) (htl _ mw_518) hd_yJ0_length_8abf5 ⟨(Nat.le_of_ble_eq_true rfl), (Nat.le_of_ble_eq_true rfl)⟩, htl _ mw_519, htl _ mw_520⟩ (by decide) (tk_w.pick [] rfl) rfl hl.1 rfl (Nat.le_of_ble_eq_true rfl) dX6_wordAmong_36 ⟨(Nat.le_of_ble_eq_true rfl), (Nat.le_of_ble_eq_true rfl)⟩ (fun v280 H locs hpo hG hS hq9 => ?_)
            have hf8 := hf8.call hq9 tk_w.nil
            have hpo282 := hpo
            obtain rfl : v280 = 22 := (fi_eq (show v280.toInt = 22 by omega) (by decide)).mpr rfl
            refine lv_icmp_eq (tgt := 53) hx hb dX6_wordAmong_39 (by decide) (fun c9 => ?_) (fun c9 => ?_)
            · have hc283 : v11.toInt = 22 := (fi_eq rfl (show (22 : Int32).toInt = 22 by decide)).mp c9
              refine lv_aload_n hx hb dX6_wordAmong_53 rfl (lv_at hl 3 rfl) ?_
              refine lv_aload_n hx hb dX6_wordAmong_54 rfl (lv_at hl 4 rfl) ?_
              refine lv_iload_n hx hb dX6_wordAmong_55 rfl (lv_at hl 1 rfl) ?_
              refine lv_iload hx hb dX6_wordAmong_56 (lv_at hl 0 rfl) ?_
              refine tk_Vi (As := [.ref (ld 0), .int v12, .int v11]) (rest := []) (ci := 6) ⟨hx, hb, hml, hown, hts⟩ hK hG hZ hS (k_X6_isToken_0 l D cy ld t a0 v12 v11 ht_a0 (by omega) (by omega) (by omega) (by omega)) trivial ⟨callB_of 3 hts (wl_in mw_570) rfl rfl rfl (htl _ mw_36) (htl _ mw_567) hd_yX6_isToken ⟨(Nat.le_of_ble_eq_true rfl), (Nat.le_of_ble_eq_true rfl)⟩, htl _ mw_568, htl _ mw_569⟩ ht_a0 (by decide) tk_no rfl (tk_w.pick [] rfl) rfl hl.1 rfl (Nat.le_of_ble_eq_true rfl) dX6_wordAmong_58 ⟨(Nat.le_of_ble_eq_true rfl), (Nat.le_of_ble_eq_true rfl)⟩ (fun v284 H locs hpo hG hS hq9 => ?_)
              have hf8 := hf8.call hq9 tk_w.nil
              obtain ⟨hpo286, hpo287, hpo288, hpo289⟩ := hpo
              refine lv_if_eq (tgt := 66) hx hb dX6_wordAmong_61 (by decide) (fun c9 => ?_) (fun c9 => ?_)
              · have hc290 : v284.toInt = 0 := (fi_eq rfl (show (0 : Int32).toInt = 0 by decide)).mp c9
                obtain ⟨v291, h_v291, e_v291⟩ := tk_inc v13 1 (by decide) (by omega) (by omega)
                refine lv_iinc (v := v291) (lv' := [(2, .int v291), (4, .int v11), (3, .int v12), (0, .ref a0), (1, .ref (ld 0))]) hx hb dX6_wordAmong_66 hl (k := 2) rfl e_v291 (by decide) rfl (fun ls hl => ?_)
                refine lv_iload hx hb dX6_wordAmong_69 (lv_at hl 1 rfl) ?_
                refine lv_iconst (v := 1) hx hb dX6_wordAmong_71 (by decide) ?_
                refine lv_iadd hx hb dX6_wordAmong_72 ?_
                refine tk_add rfl (show (1 : Int32).toInt = 1 by decide) (by omega) (by omega) (fun v292 h_v292 => ?_)
                refine lv_istore_n (lv' := [(3, .int v292), (2, .int v291), (4, .int v11), (0, .ref a0), (1, .ref (ld 0))]) hx hb dX6_wordAmong_73 rfl hl (by decide) rfl (fun ls hl => ?_)
                obtain ⟨v293, h_v293, e_v293⟩ := tk_inc v11 1 (by decide) (by omega) (by omega)
                refine lv_iinc (v := v293) (lv' := [(4, .int v293), (3, .int v292), (2, .int v291), (0, .ref a0), (1, .ref (ld 0))]) hx hb dX6_wordAmong_74 hl (k := 2) rfl e_v293 (by decide) rfl (fun ls hl => ?_)
                refine lv_goto (tgt := 24) hx hb dX6_wordAmong_77 (by decide) ?_
                exact ih_l275 v293 v292 v291 _ _ (by omega) (by omega) (by omega) (by omega) (by omega) hG hS hf8 _ (lv_sub hl [0, 1, 2, 3, 4] rfl)
              · have hc290 : ¬ (v284.toInt = 0) := fun h9 => c9 ((fi_eq rfl (show (0 : Int32).toInt = 0 by decide)).mpr h9)
                refine lv_iload_n hx hb dX6_wordAmong_64 rfl (lv_at hl 2 rfl) ?_
                exact tk_iret (v := v13) hx hb hr rfl hlocks (show (-1) ≤ v13.toInt ∧ v13.toInt ≤ 22 from ⟨(by omega), (by omega)⟩) hG hS dX6_wordAmong_65
            · have hc283 : ¬ (v11.toInt = 22) := fun h9 => c9 ((fi_eq rfl (show (22 : Int32).toInt = 22 by decide)).mpr h9)
              refine lv_aload_n hx hb dX6_wordAmong_42 rfl (lv_at hl 4 rfl) ?_
              refine lv_iload hx hb dX6_wordAmong_43 (lv_at hl 0 rfl) ?_
              refine tk_Ti (As := [.int v11]) (rest := []) (j := 0) ⟨hx, hb, hml, hown, hts⟩ hK hG hZ hS (k_J0_charAt_5068e_0 l D cy ld t v11 (by omega) (by omega)) trivial ⟨callB_of 1 hts (wl_in mw_533) rfl rfl rfl (htl _ mw_521) (htl _ mw_530) hd_yJ0_charAt_5068e ⟨(Nat.le_of_ble_eq_true rfl), (Nat.le_of_ble_eq_true rfl)⟩, htl _ mw_531, htl _ mw_532⟩ (by decide) (tk_w.pick [] rfl) rfl hl.1 rfl (Nat.le_of_ble_eq_true rfl) dX6_wordAmong_45 ⟨(Nat.le_of_ble_eq_true rfl), (Nat.le_of_ble_eq_true rfl)⟩ (fun v294 H locs hpo hG hS hq9 => ?_)
              have hf8 := hf8.call hq9 tk_w.nil
              obtain ⟨hpo296, hpo297⟩ := hpo
              refine lv_bipush (v := 32) hx hb dX6_wordAmong_48 (by decide) ?_
              refine lv_icmp_ne (tgt := 74) hx hb dX6_wordAmong_50 (by decide) (fun c9 => ?_) (fun c9 => ?_)
              · have hc298 : ¬ (v294.toInt = 32) := fun h9 => c9 ((fi_eq rfl (show (32 : Int32).toInt = 32 by decide)).mpr h9)
                obtain ⟨v299, h_v299, e_v299⟩ := tk_inc v11 1 (by decide) (by omega) (by omega)
                refine lv_iinc (v := v299) (lv' := [(4, .int v299), (3, .int v12), (2, .int v13), (0, .ref a0), (1, .ref (ld 0))]) hx hb dX6_wordAmong_74 hl (k := 0) rfl e_v299 (by decide) rfl (fun ls hl => ?_)
                refine lv_goto (tgt := 24) hx hb dX6_wordAmong_77 (by decide) ?_
                exact ih_l275 v299 v12 v13 _ _ (by omega) (by omega) (by omega) (by omega) (by omega) hG hS hf8 _ (lv_sub hl [0, 1, 2, 3, 4] rfl)
              · have hc298 : v294.toInt = 32 := (fi_eq rfl (show (32 : Int32).toInt = 32 by decide)).mp c9
                refine lv_aload_n hx hb dX6_wordAmong_53 rfl (lv_at hl 3 rfl) ?_
                refine lv_aload_n hx hb dX6_wordAmong_54 rfl (lv_at hl 4 rfl) ?_
                refine lv_iload_n hx hb dX6_wordAmong_55 rfl (lv_at hl 1 rfl) ?_
                refine lv_iload hx hb dX6_wordAmong_56 (lv_at hl 0 rfl) ?_
                refine tk_Vi (As := [.ref (ld 0), .int v12, .int v11]) (rest := []) (ci := 6) ⟨hx, hb, hml, hown, hts⟩ hK hG hZ hS (k_X6_isToken_0 l D cy ld t a0 v12 v11 ht_a0 (by omega) (by omega) (by omega) (by omega)) trivial ⟨callB_of 3 hts (wl_in mw_570) rfl rfl rfl (htl _ mw_36) (htl _ mw_567) hd_yX6_isToken ⟨(Nat.le_of_ble_eq_true rfl), (Nat.le_of_ble_eq_true rfl)⟩, htl _ mw_568, htl _ mw_569⟩ ht_a0 (by decide) tk_no rfl (tk_w.pick [] rfl) rfl hl.1 rfl (Nat.le_of_ble_eq_true rfl) dX6_wordAmong_58 ⟨(Nat.le_of_ble_eq_true rfl), (Nat.le_of_ble_eq_true rfl)⟩ (fun v300 H locs hpo hG hS hq9 => ?_)
                have hf8 := hf8.call hq9 tk_w.nil
                obtain ⟨hpo302, hpo303, hpo304, hpo305⟩ := hpo
                refine lv_if_eq (tgt := 66) hx hb dX6_wordAmong_61 (by decide) (fun c9 => ?_) (fun c9 => ?_)
                · have hc306 : v300.toInt = 0 := (fi_eq rfl (show (0 : Int32).toInt = 0 by decide)).mp c9
                  obtain ⟨v307, h_v307, e_v307⟩ := tk_inc v13 1 (by decide) (by omega) (by omega)
                  refine lv_iinc (v := v307) (lv' := [(2, .int v307), (4, .int v11), (3, .int v12), (0, .ref a0), (1, .ref (ld 0))]) hx hb dX6_wordAmong_66 hl (k := 2) rfl e_v307 (by decide) rfl (fun ls hl => ?_)
                  refine lv_iload hx hb dX6_wordAmong_69 (lv_at hl 1 rfl) ?_
                  refine lv_iconst (v := 1) hx hb dX6_wordAmong_71 (by decide) ?_
                  refine lv_iadd hx hb dX6_wordAmong_72 ?_
                  refine tk_add rfl (show (1 : Int32).toInt = 1 by decide) (by omega) (by omega) (fun v308 h_v308 => ?_)
                  refine lv_istore_n (lv' := [(3, .int v308), (2, .int v307), (4, .int v11), (0, .ref a0), (1, .ref (ld 0))]) hx hb dX6_wordAmong_73 rfl hl (by decide) rfl (fun ls hl => ?_)
                  obtain ⟨v309, h_v309, e_v309⟩ := tk_inc v11 1 (by decide) (by omega) (by omega)
                  refine lv_iinc (v := v309) (lv' := [(4, .int v309), (3, .int v308), (2, .int v307), (0, .ref a0), (1, .ref (ld 0))]) hx hb dX6_wordAmong_74 hl (k := 2) rfl e_v309 (by decide) rfl (fun ls hl => ?_)
                  refine lv_goto (tgt := 24) hx hb dX6_wordAmong_77 (by decide) ?_
                  exact ih_l275 v309 v308 v307 _ _ (by omega) (by omega) (by omega) (by omega) (by omega) hG hS hf8 _ (lv_sub hl [0, 1, 2, 3, 4] rfl)
                · have hc306 : ¬ (v300.toInt = 0) := fun h9 => c9 ((fi_eq rfl (show (0 : Int32).toInt = 0 by decide)).mpr h9)
                  refine lv_iload_n hx hb dX6_wordAmong_64 rfl (lv_at hl 2 rfl) ?_
                  exact tk_iret (v := v13) hx hb hr rfl hlocks (show (-1) ≤ v13.toInt ∧ v13.toInt ≤ 22 from ⟨(by omega), (by omega)⟩) hG hS dX6_wordAmong_65
      have hk_0 : (0 : Int32).toInt = 0 := by decide
      have hk_0 : (0 : Int32).toInt = 0 := by decide
      have hk_0 : (0 : Int32).toInt = 0 := by decide
      exact hl275 24 0 0 0 _ _ (by omega) (by omega) (by omega) (by omega) (by omega) hG hS hf8 _ (lv_sub hl [0, 1, 2, 3, 4] rfl)
    · have hc10 : ¬ (v9.toInt = 1) := fun h9 => c9 ((fi_eq rfl (show (1 : Int32).toInt = 1 by decide)).mpr h9)
      refine lv_iconst (v := (-1)) hx hb dX6_wordAmong_15 (by decide) ?_
      have hk_m1 : ((-1) : Int32).toInt = (-1) := by decide
      exact tk_iret (v := (-1)) hx hb hr rfl hlocks (show (-1) ≤ ((-1) : Int32).toInt ∧ ((-1) : Int32).toInt ≤ 22 from ⟨(by omega), (by omega)⟩) hG hS dX6_wordAmong_16
set_option maxHeartbeats 4000000 in
set_option maxRecDepth 100000 in
theorem k_J0_isLatin1_aae02_1 (l : Launch) (D : va_G) (cy : Nat → ClassId) (ld : Nat → Nat) (t : tk_T) : Met l yJ0_isLatin1_aae02 (wl yJ0_isLatin1_aae02 cJ0_isLatin1_aae02 1 (some .boolean)) ({ frames := 3, cells := 0, slots := 0, locals := 140 }) (tp D cy ld t [] [.ref (ld 1)] (fun H => True)) (ti D cy ld t [] (fun r H => r.toInt + (-1) = 0 ∧ 0 ≤ r.toInt ∧ r.toInt ≤ 1) (tk_w t [])) 0 0 (tk_w t []) := by
  refine tk_met (y := yJ0_isLatin1_aae02) (cc := cJ0_isLatin1_aae02) (maxL := 1) (ret := (some .boolean)) (av := [.ref (ld 1)]) _ _ (by decide) (Nat.le_of_ble_eq_true rfl) ?_
  intro p e s m args below meth c hx hb hr hml hts htl hown hlocks hK H locs hH hG hS hB hZ ls hl
  have hown : s.vm.findClass RJ0 = some m.cls := hown
  have hl : lv_has ls 1 [(0, .ref (ld 1))] := hl
  refine va_gets hx hb (hZ.2.1.narrow (fun _ h => h.1)) hS hown (htl _ mw_528) (fun _ h9 => h9) dJ0_isLatin1_aae02_0 ?_
  refine lv_if_eq (tgt := 17) hx hb dJ0_isLatin1_aae02_3 (by decide) (fun c9 => absurd c9 (by decide)) (fun _ => ?_)
  refine lv_aload_n hx hb dJ0_isLatin1_aae02_6 rfl (lv_at hl 0 rfl) ?_
  refine vk_getf hx hb ((hZ.1.1 1 (by decide)).2.1.narrow (fun _ h => h.1)) hS hown (htl _ mw_529) (fun _ h9 => h9) dJ0_isLatin1_aae02_7 ?_
  refine lv_if_ne (tgt := 17) hx hb dJ0_isLatin1_aae02_10 (by decide) (fun c9 => absurd (by decide) c9) (fun _ => ?_)
  refine lv_iconst (v := 1) hx hb dJ0_isLatin1_aae02_13 (by decide) ?_
  refine lv_goto (tgt := 18) hx hb dJ0_isLatin1_aae02_14 (by decide) ?_
  have hk_1 : (1 : Int32).toInt = 1 := by decide
  exact tk_iret (v := 1) hx hb hr rfl hlocks (show (1 : Int32).toInt + (-1) = 0 ∧ 0 ≤ (1 : Int32).toInt ∧ (1 : Int32).toInt ≤ 1 from ⟨(by omega), (by omega), (by omega)⟩) hG hS dJ0_isLatin1_aae02_18
set_option maxHeartbeats 4000000 in
set_option maxRecDepth 100000 in
theorem k_J1_charAt_3b067_1 (l : Launch) (D : va_G) (cy : Nat → ClassId) (ld : Nat → Nat) (t : tk_T) (p1 : Int32) (hp_0 : 0 ≤ p1.toInt) (hp_1 : p1.toInt ≤ 19) : Met l yJ1_charAt_3b067 (wl yJ1_charAt_3b067 cJ1_charAt_3b067 2 (some .char)) ({ frames := 5, cells := 0, slots := 0, locals := 280 }) (tp D cy ld t [] [.ref (ld 51), .int p1] (fun H => True)) (ti D cy ld t [] (fun r H => 0 ≤ r.toInt ∧ r.toInt ≤ 255) (tk_w t [])) 0 0 (tk_w t []) := by
  refine tk_met (y := yJ1_charAt_3b067) (cc := cJ1_charAt_3b067) (maxL := 2) (ret := (some .char)) (av := [.ref (ld 51), .int p1]) _ _ (by decide) (Nat.le_of_ble_eq_true rfl) ?_
  intro p e s m args below meth c hx hb hr hml hts htl hown hlocks hK H locs hH hG hS hB hZ ls hl
  have hown : s.vm.findClass RJ1 = some m.cls := hown
  have hl : lv_has ls 2 [(0, .ref (ld 51)), (1, .int p1)] := hl
  have hr_p1 := tk_rng p1
  refine lv_iload_n hx hb dJ1_charAt_3b067_0 rfl (lv_at hl 1 rfl) ?_
  refine lv_aload_n hx hb dJ1_charAt_3b067_1 rfl (lv_at hl 0 rfl) ?_
  refine va_tlen (v := 20) hx hb ((hZ.1.1 1 (by decide)).2.2.2.narrow (fun _ h => h.1)) hS rfl dJ1_charAt_3b067_2 ?_
  have hk_20 : (20 : Int32).toInt = 20 := by decide
  refine tk_Sv (As := [.int p1, .int 20]) (rest := []) ⟨hx, hb, hml, hown, hts⟩ hK hG hZ hS (k_J0_checkIndex_df160 l D cy ld t p1 20 (by omega) (by omega) (by omega) (by omega) (by omega)) trivial ⟨callB_of 2 hts (wl_in mw_544) rfl rfl rfl (htl _ mw_521) (htl _ mw_542) hd_yJ0_checkIndex_df160 ⟨(Nat.le_of_ble_eq_true rfl), (Nat.le_of_ble_eq_true rfl)⟩, htl _ mw_543⟩ (tk_w.pick [] rfl) rfl hl.1 rfl (Nat.le_of_ble_eq_true rfl) dJ1_charAt_3b067_3 ⟨(Nat.le_of_ble_eq_true rfl), (Nat.le_of_ble_eq_true rfl)⟩ (fun H locs hpo hG hS hq9 => ?_)
  refine lv_aload_n hx hb dJ1_charAt_3b067_6 rfl (lv_at hl 0 rfl) ?_
  refine lv_iload_n hx hb dJ1_charAt_3b067_7 rfl (lv_at hl 1 rfl) ?_
  refine va_tb hx hb ((hZ.1.1 1 (by decide)).2.2.2.narrow (fun _ h => h.1)) hS (vp_in_iff.mpr ⟨by omega, show _ < ((20 : Nat) : Int) by omega⟩) rfl dJ1_charAt_3b067_8 ?_
  refine tk_any (fun v2 => ?_)
  refine lv_sipush (v := 255) hx hb dJ1_charAt_3b067_9 (by decide) ?_
  refine lv_iand hx hb dJ1_charAt_3b067_12 ?_
  refine tk_say (P := fun z => 0 ≤ z.toInt ∧ z.toInt ≤ 255) (tk_and v2 8 (by decide) (by decide)) (fun v3 h_v3 => ?_)
  obtain ⟨v4, e_v4, h_v4⟩ := tk_i2c (x := v3) (by omega) (by omega)
  refine lv_i2c (v := v4) hx hb dJ1_charAt_3b067_13 e_v4 ?_
  exact tk_iret (v := v4) hx hb hr (tk_nc (by omega) (by omega)) hlocks (show 0 ≤ v4.toInt ∧ v4.toInt ≤ 255 from ⟨(by omega), (by omega)⟩) hG hS dJ1_charAt_3b067_14
set_option maxHeartbeats 4000000 in
set_option maxRecDepth 100000 in
theorem k_J0_charAt_5068e_1 (l : Launch) (D : va_G) (cy : Nat → ClassId) (ld : Nat → Nat) (t : tk_T) (p1 : Int32) (hp_0 : 0 ≤ p1.toInt) (hp_1 : p1.toInt ≤ 19) : Met l yJ0_charAt_5068e (wl yJ0_charAt_5068e cJ0_charAt_5068e 2 (some .char)) ({ frames := 6, cells := 0, slots := 0, locals := 350 }) (tp D cy ld t [] [.ref (ld 1), .int p1] (fun H => True)) (ti D cy ld t [] (fun r H => 0 ≤ r.toInt ∧ r.toInt ≤ 255) (tk_w t [])) 0 0 (tk_w t []) := by
  refine tk_met (y := yJ0_charAt_5068e) (cc := cJ0_charAt_5068e) (maxL := 2) (ret := (some .char)) (av := [.ref (ld 1), .int p1]) _ _ (by decide) (Nat.le_of_ble_eq_true rfl) ?_
  intro p e s m args below meth c hx hb hr hml hts htl hown hlocks hK H locs hH hG hS hB hZ ls hl
  have hown : s.vm.findClass RJ0 = some m.cls := hown
  have hl : lv_has ls 2 [(0, .ref (ld 1)), (1, .int p1)] := hl
  have hr_p1 := tk_rng p1
  refine lv_aload_n hx hb dJ0_charAt_5068e_0 rfl (lv_at hl 0 rfl) ?_
  refine tk_Ti (As := []) (rest := []) (j := 1) ⟨hx, hb, hml, hown, hts⟩ hK hG hZ hS (k_J0_isLatin1_aae02_1 l D cy ld t) trivial ⟨callB_of 0 hts (wl_in mw_537) rfl rfl rfl (htl _ mw_521) (htl _ mw_534) hd_yJ0_isLatin1_aae02 ⟨(Nat.le_of_ble_eq_true rfl), (Nat.le_of_ble_eq_true rfl)⟩, htl _ mw_535, htl _ mw_536⟩ (by decide) (tk_w.pick [] rfl) rfl hl.1 rfl (Nat.le_of_ble_eq_true rfl) dJ0_charAt_5068e_1 ⟨(Nat.le_of_ble_eq_true rfl), (Nat.le_of_ble_eq_true rfl)⟩ (fun v1 H locs hpo hG hS hq9 => ?_)
  obtain ⟨hpo3, hpo4, hpo5⟩ := hpo
  obtain rfl : v1 = 1 := (fi_eq (show v1.toInt = 1 by omega) (by decide)).mpr rfl
  refine lv_if_eq (tgt := 16) hx hb dJ0_charAt_5068e_4 (by decide) (fun c9 => absurd c9 (by decide)) (fun _ => ?_)
  refine lv_aload_n hx hb dJ0_charAt_5068e_7 rfl (lv_at hl 0 rfl) ?_
  refine vk_getf hx hb ((hZ.1.1 1 (by decide)).2.2.1.narrow (fun _ h => h.1)) hS hown (htl _ mw_523) (fun _ h9 => h9) dJ0_charAt_5068e_8 ?_
  refine lv_iload_n hx hb dJ0_charAt_5068e_11 rfl (lv_at hl 1 rfl) ?_
  refine tk_Si (As := [.ref (ld 51), .int p1]) (rest := []) ⟨hx, hb, hml, hown, hts⟩ hK hG hZ hS (k_J1_charAt_3b067_1 l D cy ld t p1 (by omega) (by omega)) trivial ⟨callB_of 2 hts (wl_in mw_541) rfl rfl rfl (htl _ mw_540) (htl _ mw_538) hd_yJ1_charAt_3b067 ⟨(Nat.le_of_ble_eq_true rfl), (Nat.le_of_ble_eq_true rfl)⟩, htl _ mw_539⟩ (tk_w.pick [] rfl) rfl hl.1 rfl (Nat.le_of_ble_eq_true rfl) dJ0_charAt_5068e_12 ⟨(Nat.le_of_ble_eq_true rfl), (Nat.le_of_ble_eq_true rfl)⟩ (fun v6 H locs hpo hG hS hq9 => ?_)
  obtain ⟨hpo8, hpo9⟩ := hpo
  exact tk_iret (v := v6) hx hb hr (tk_nc (by omega) (by omega)) hlocks (show 0 ≤ v6.toInt ∧ v6.toInt ≤ 255 from ⟨(by omega), (by omega)⟩) hG hS dJ0_charAt_5068e_15
set_option maxHeartbeats 4000000 in
set_option maxRecDepth 100000 in
theorem k_J0_coder_7d493_1 (l : Launch) (D : va_G) (cy : Nat → ClassId) (ld : Nat → Nat) (t : tk_T) : Met l yJ0_coder_7d493 (wl yJ0_coder_7d493 cJ0_coder_7d493 1 (some .byte)) ({ frames := 3, cells := 0, slots := 0, locals := 140 }) (tp D cy ld t [] [.ref (ld 1)] (fun H => True)) (ti D cy ld t [] (fun r H => r.toInt = 0) (tk_w t [])) 0 0 (tk_w t []) := by
  refine tk_met (y := yJ0_coder_7d493) (cc := cJ0_coder_7d493) (maxL := 1) (ret := (some .byte)) (av := [.ref (ld 1)]) _ _ (by decide) (Nat.le_of_ble_eq_true rfl) ?_
  intro p e s m args below meth c hx hb hr hml hts htl hown hlocks hK H locs hH hG hS hB hZ ls hl
  have hown : s.vm.findClass RJ0 = some m.cls := hown
  have hl : lv_has ls 1 [(0, .ref (ld 1))] := hl
  refine va_gets hx hb (hZ.2.1.narrow (fun _ h => h.1)) hS hown (htl _ mw_528) (fun _ h9 => h9) dJ0_coder_7d493_0 ?_
  refine lv_if_eq (tgt := 13) hx hb dJ0_coder_7d493_3 (by decide) (fun c9 => absurd c9 (by decide)) (fun _ => ?_)
  refine lv_aload_n hx hb dJ0_coder_7d493_6 rfl (lv_at hl 0 rfl) ?_
  refine vk_getf hx hb ((hZ.1.1 1 (by decide)).2.1.narrow (fun _ h => h.1)) hS hown (htl _ mw_529) (fun _ h9 => h9) dJ0_coder_7d493_7 ?_
  refine lv_goto (tgt := 14) hx hb dJ0_coder_7d493_10 (by decide) ?_
  have hk_0 : (0 : Int32).toInt = 0 := by decide
  exact tk_iret (v := 0) hx hb hr rfl hlocks (show (0 : Int32).toInt = 0 from (by omega)) hG hS dJ0_coder_7d493_14
set_option maxHeartbeats 4000000 in
set_option maxRecDepth 100000 in
theorem k_J0_length_8abf5_1 (l : Launch) (D : va_G) (cy : Nat → ClassId) (ld : Nat → Nat) (t : tk_T) : Met l yJ0_length_8abf5 (wl yJ0_length_8abf5 cJ0_length_8abf5 1 (some .int)) ({ frames := 4, cells := 0, slots := 0, locals := 210 }) (tp D cy ld t [] [.ref (ld 1)] (fun H => True)) (ti D cy ld t [] (fun r H => r.toInt + (-20) = 0) (tk_w t [])) 0 0 (tk_w t []) := by
  refine tk_met (y := yJ0_length_8abf5) (cc := cJ0_length_8abf5) (maxL := 1) (ret := (some .int)) (av := [.ref (ld 1)]) _ _ (by decide) (Nat.le_of_ble_eq_true rfl) ?_
  intro p e s m args below meth c hx hb hr hml hts htl hown hlocks hK H locs hH hG hS hB hZ ls hl
  have hown : s.vm.findClass RJ0 = some m.cls := hown
  have hl : lv_has ls 1 [(0, .ref (ld 1))] := hl
  refine lv_aload_n hx hb dJ0_length_8abf5_0 rfl (lv_at hl 0 rfl) ?_
  refine vk_getf hx hb ((hZ.1.1 1 (by decide)).2.2.1.narrow (fun _ h => h.1)) hS hown (htl _ mw_523) (fun _ h9 => h9) dJ0_length_8abf5_1 ?_
  refine va_tlen (v := 20) hx hb ((hZ.1.1 1 (by decide)).2.2.2.narrow (fun _ h => h.1)) hS rfl dJ0_length_8abf5_4 ?_
  refine lv_aload_n hx hb dJ0_length_8abf5_5 rfl (lv_at hl 0 rfl) ?_
  refine tk_Ti (As := []) (rest := [.int 20]) (j := 1) ⟨hx, hb, hml, hown, hts⟩ hK hG hZ hS (k_J0_coder_7d493_1 l D cy ld t) trivial ⟨callB_of 0 hts (wl_in mw_527) rfl rfl rfl (htl _ mw_521) (htl _ mw_524) hd_yJ0_coder_7d493 ⟨(Nat.le_of_ble_eq_true rfl), (Nat.le_of_ble_eq_true rfl)⟩, htl _ mw_525, htl _ mw_526⟩ (by decide) (tk_w.pick [] rfl) rfl hl.1 rfl (Nat.le_of_ble_eq_true rfl) dJ0_length_8abf5_6 ⟨(Nat.le_of_ble_eq_true rfl), (Nat.le_of_ble_eq_true rfl)⟩ (fun v1 H locs hpo hG hS hq9 => ?_)
  have hpo3 := hpo
  obtain rfl : v1 = 0 := (fi_eq (show v1.toInt = 0 by omega) (by decide)).mpr rfl
  refine lv_ishr hx hb dJ0_length_8abf5_9 ?_
  refine fx_ti (v := 20) (by decide) ?_
  have hk_20 : (20 : Int32).toInt = 20 := by decide
  exact tk_iret (v := 20) hx hb hr rfl hlocks (show (20 : Int32).toInt + (-20) = 0 from (by omega)) hG hS dJ0_length_8abf5_10
set_option maxHeartbeats 4000000 in
set_option maxRecDepth 100000 in
theorem k_X6_isToken_1 (l : Launch) (D : va_G) (cy : Nat → ClassId) (ld : Nat → Nat) (t : tk_T) (a0 : Nat) (p2 : Int32) (p3 : Int32) (ht_a0 : t a0 = (7, 0, 0)) (hp_0 : 0 ≤ p2.toInt) (hp_1 : p2.toInt ≤ 20) (hp_2 : 0 ≤ p3.toInt) (hp_3 : p3.toInt ≤ 20) : Met l yX6_isToken (wl yX6_isToken cX6_isToken 5 (some .boolean)) ({ frames := 7, cells := 0, slots := 0, locals := 420 }) (tp D cy ld t [] [.ref a0, .ref (ld 1), .int p2, .int p3] (fun H => True)) (ti D cy ld t [] (fun r H => 0 ≤ r.toInt ∧ r.toInt ≤ 1 ∧ 0 ≤ r.toInt ∧ r.toInt ≤ 1) (tk_w t [])) 0 0 (tk_w t []) := by
  refine tk_met (y := yX6_isToken) (cc := cX6_isToken) (maxL := 5) (ret := (some .boolean)) (av := [.ref a0, .ref (ld 1), .int p2, .int p3]) _ _ (by decide) (Nat.le_of_ble_eq_true rfl) ?_
  intro p e s m args below meth c hx hb hr hml hts htl hown hlocks hK H locs hH hG hS hB hZ ls hl
  have hown : s.vm.findClass RX6 = some m.cls := hown
  have hl : lv_has ls 5 [(0, .ref a0), (1, .ref (ld 1)), (2, .int p2), (3, .int p3)] := hl
  have hr_p2 := tk_rng p2
  have hr_p3 := tk_rng p3
  refine lv_iload_n hx hb dX6_isToken_0 rfl (lv_at hl 3 rfl) ?_
  refine lv_iload_n hx hb dX6_isToken_1 rfl (lv_at hl 2 rfl) ?_
  refine lv_isub hx hb dX6_isToken_2 ?_
  refine tk_sub rfl rfl (by omega) (by omega) (fun v1 h_v1 => ?_)
  refine lv_aload_n hx hb dX6_isToken_3 rfl (lv_at hl 0 rfl) ?_
  refine tk_get (ci := 6) (C := RX6) (T := TX6) (N := 11) (sp := (0, 0, 400, 0)) hx hb htl inX6 hown hK hG ht_a0 (by decide) tk_no rfl 5 (by decide) (htl _ mw_478) (fun _ h9 => h9) rfl dX6_isToken_4 (fun v9 hf2 hV9 => ?_)
  obtain ⟨v3, rfl, (ha_v3 : 0 ≤ v3.toInt), (hb_v3 : v3.toInt ≤ 400)⟩ := hV9
  refine lv_aload_n hx hb dX6_isToken_7 rfl (lv_at hl 0 rfl) ?_
  refine tk_get (ci := 6) (C := RX6) (T := TX6) (N := 11) (sp := (0, 0, 400, 0)) hx hb htl inX6 hown hK hG ht_a0 (by decide) tk_no rfl 4 (by decide) (htl _ mw_495) (fun _ h9 => h9) rfl dX6_isToken_8 (fun v9 hf4 hV9 => ?_)
  obtain ⟨v5, rfl, (ha_v5 : 0 ≤ v5.toInt), (hb_v5 : v5.toInt ≤ 400)⟩ := hV9
  refine lv_isub hx hb dX6_isToken_11 ?_
  refine tk_sub rfl rfl (by omega) (by omega) (fun v6 h_v6 => ?_)
  refine lv_icmp_eq (tgt := 17) hx hb dX6_isToken_12 (by decide) (fun c9 => ?_) (fun c9 => ?_)
  · have hc7 : v1.toInt = v6.toInt := (fi_eq rfl rfl).mp c9
    refine lv_iload_n hx hb dX6_isToken_17 rfl (lv_at hl 2 rfl) ?_
    refine lv_istore (lv' := [(4, .int p2), (0, .ref a0), (1, .ref (ld 1)), (2, .int p2), (3, .int p3)]) hx hb dX6_isToken_18 hl (by decide) rfl (fun ls hl => ?_)
    have hl82 : ∀ (N_l82 : Nat) (v8 : Int32) (H : Heap) (locs : List Loc), v8.toInt ≤ 20 → 0 ≤ (-1) * p2.toInt + v8.toInt → (-1) * v8.toInt + 20 < (N_l82 : Int) → tk_G D cy ld t [] H → va_S (tk_w t []) s.heap H locs → tk_f D H a0 6 5 (.int v3) → tk_f D H a0 6 4 (.int v5) → ∀ ls : Array Slot, lv_has ls 5 [(4, .int v8), (0, .ref a0), (1, .ref (ld 1)), (2, .int p2), (3, .int p3)] → W p l e ({ frames := 7, cells := 0, slots := 0, locals := 420 }) s m args below meth c H locs 0 0 (MQ below (ti D cy ld t [] (fun r H => 0 ≤ r.toInt ∧ r.toInt ≤ 1 ∧ 0 ≤ r.toInt ∧ r.toInt ≤ 1) (tk_w t [])) args s 0 0 (tk_w t [])) (F0 m 20 ls []) := by
      intro N_l82
      induction N_l82 with
      | zero => intro v8 H locs hq0_l82 hq1_l82 hm_l82 hG hS hf2 hf4 ls hl; exfalso; omega
      | succ N_l82 ih_l82 =>
        intro v8 H locs hq0_l82 hq1_l82 hm_l82 hG hS hf2 hf4 ls hl
        refine lv_iload hx hb dX6_isToken_20 (lv_at hl 0 rfl) ?_
        refine lv_iload_n hx hb dX6_isToken_22 rfl (lv_at hl 4 rfl) ?_
        refine lv_icmp_ge (tgt := 57) hx hb dX6_isToken_23 (by decide) (fun c9 => ?_) (fun c9 => ?_)
        · have hc83 : p3.toInt ≤ v8.toInt := (fi_le rfl rfl).mp c9
          refine lv_iconst (v := 1) hx hb dX6_isToken_57 (by decide) ?_
          have hk_1 : (1 : Int32).toInt = 1 := by decide
          exact tk_iret (v := 1) hx hb hr rfl hlocks (show 0 ≤ (1 : Int32).toInt ∧ (1 : Int32).toInt ≤ 1 ∧ 0 ≤ (1 : Int32).toInt ∧ (1 : Int32).toInt ≤ 1 from ⟨(by omega), (by omega), (by omega), (by omega)⟩) hG hS dX6_isToken_58
        · have hc83 : ¬ (p3.toInt ≤ v8.toInt) := fun h9 => c9 ((fi_le rfl rfl).mpr h9)
          refine lv_aload_n hx hb dX6_isToken_26 rfl (lv_at hl 2 rfl) ?_
          refine lv_iload hx hb dX6_isToken_27 (lv_at hl 0 rfl) ?_
          refine tk_Ti (As := [.int v8]) (rest := []) (j := 1) ⟨hx, hb, hml, hown, hts⟩ hK hG hZ hS (k_J0_charAt_5068e_1 l D cy ld t v8 (by omega) (by omega)) trivial ⟨callB_of 1 hts (wl_in mw_533) rfl rfl rfl (htl _ mw_521) (htl _ mw_530) hd_yJ0_charAt_5068e ⟨(Nat.le_of_ble_eq_true rfl), (Nat.le_of_ble_eq_true rfl)⟩, htl _ mw_531, htl _ mw_532⟩ (by decide) (tk_w.pick [] rfl) rfl hl.1 rfl (Nat.le_of_ble_eq_true rfl) dX6_isToken_29 ⟨(Nat.le_of_ble_eq_true rfl), (Nat.le_of_ble_eq_true rfl)⟩ (fun v84 H locs hpo hG hS hq9 => ?_)
          have hf2 := hf2.call hq9 tk_w.nil
          have hf4 := hf4.call hq9 tk_w.nil
          obtain ⟨hpo86, hpo87⟩ := hpo
          refine lv_aload_n hx hb dX6_isToken_32 rfl (lv_at hl 1 rfl) ?_
          refine tk_get (ci := 6) (C := RX6) (T := TX6) (N := 11) (sp := (6, 20, 400, 9)) hx hb htl inX6 hown hK hG ht_a0 (by decide) tk_no rfl 1 (by decide) (htl _ mw_133) (fun _ h9 => h9) rfl dX6_isToken_33 (fun v9 hf88 hV9 => ?_)
          obtain ⟨b89, rfl, ht_b89⟩ := hV9
          have ht_b89 : t b89 = (20, 400, 9) := ht_b89
          refine lv_aload_n hx hb dX6_isToken_36 rfl (lv_at hl 1 rfl) ?_
          refine tk_getk (ci := 6) (C := RX6) (T := TX6) (N := 11) (sp := (0, 0, 400, 0)) hx hb htl inX6 hown hK hG ht_a0 (by decide) tk_no rfl 4 (by decide) (htl _ mw_495) (fun _ h9 => h9) rfl hf4 dX6_isToken_37 ?_
          refine lv_iload hx hb dX6_isToken_40 (lv_at hl 0 rfl) ?_
          refine lv_iadd hx hb dX6_isToken_42 ?_
          refine tk_add rfl rfl (by omega) (by omega) (fun v90 h_v90 => ?_)
          refine lv_iload_n hx hb dX6_isToken_43 rfl (lv_at hl 3 rfl) ?_
          refine lv_isub hx hb dX6_isToken_44 ?_
          refine tk_sub rfl rfl (by omega) (by omega) (fun v91 h_v91 => ?_)
          refine tk_iald hx hb hK hG ht_b89 (by decide) (fun _ h => h) tk_no rfl (by omega) (by omega) dX6_isToken_45 (fun v92 _ _ => ?_)
          have hr_v92 := tk_rng v92
          refine lv_icmp_eq (tgt := 51) hx hb dX6_isToken_46 (by decide) (fun c9 => ?_) (fun c9 => ?_)
          · have hc93 : v84.toInt = v92.toInt := (fi_eq rfl rfl).mp c9
            obtain ⟨v94, h_v94, e_v94⟩ := tk_inc v8 1 (by decide) (by omega) (by omega)
            refine lv_iinc (v := v94) (lv' := [(4, .int v94), (0, .ref a0), (1, .ref (ld 1)), (2, .int p2), (3, .int p3)]) hx hb dX6_isToken_51 hl (k := 0) rfl e_v94 (by decide) rfl (fun ls hl => ?_)
            refine lv_goto (tgt := 20) hx hb dX6_isToken_54 (by decide) ?_
            exact ih_l82 v94 _ _ (by omega) (by omega) (by omega) hG hS hf2 hf4 _ (lv_sub hl [0, 1, 2, 3, 4] rfl)
          · have hc93 : ¬ (v84.toInt = v92.toInt) := fun h9 => c9 ((fi_eq rfl rfl).mpr h9)
            refine lv_iconst (v := 0) hx hb dX6_isToken_49 (by decide) ?_
            have hk_0 : (0 : Int32).toInt = 0 := by decide
            exact tk_iret (v := 0) hx hb hr rfl hlocks (show 0 ≤ (0 : Int32).toInt ∧ (0 : Int32).toInt ≤ 1 ∧ 0 ≤ (0 : Int32).toInt ∧ (0 : Int32).toInt ≤ 1 from ⟨(by omega), (by omega), (by omega), (by omega)⟩) hG hS dX6_isToken_50
    exact hl82 21 p2 _ _ (by omega) (by omega) (by omega) hG hS hf2 hf4 _ (lv_sub hl [0, 1, 2, 3, 4] rfl)
  · have hc7 : ¬ (v1.toInt = v6.toInt) := fun h9 => c9 ((fi_eq rfl rfl).mpr h9)
    refine lv_iconst (v := 0) hx hb dX6_isToken_15 (by decide) ?_
    have hk_0 : (0 : Int32).toInt = 0 := by decide
    exact tk_iret (v := 0) hx hb hr rfl hlocks (show 0 ≤ (0 : Int32).toInt ∧ (0 : Int32).toInt ≤ 1 ∧ 0 ≤ (0 : Int32).toInt ∧ (0 : Int32).toInt ≤ 1 from ⟨(by omega), (by omega), (by omega), (by omega)⟩) hG hS dX6_isToken_16
set_option maxHeartbeats 4000000 in
set_option maxRecDepth 100000 in
theorem k_X6_wordAmong_1 (l : Launch) (D : va_G) (cy : Nat → ClassId) (ld : Nat → Nat) (t : tk_T) (a0 : Nat) (ht_a0 : t a0 = (7, 0, 0)) : Met l yX6_wordAmong (wl yX6_wordAmong cX6_wordAmong 5 (some .int)) ({ frames := 8, cells := 0, slots := 0, locals := 490 }) (tp D cy ld t [] [.ref a0, .ref (ld 1)] (fun H => True)) (ti D cy ld t [] (fun r H => (-1) ≤ r.toInt ∧ r.toInt ≤ 20) (tk_w t [])) 0 0 (tk_w t []) := by
  refine tk_met (y := yX6_wordAmong) (cc := cX6_wordAmong) (maxL := 5) (ret := (some .int)) (av := [.ref a0, .ref (ld 1)]) _ _ (by decide) (Nat.le_of_ble_eq_true rfl) ?_
  intro p e s m args below meth c hx hb hr hml hts htl hown hlocks hK H locs hH hG hS hB hZ ls hl
  have hown : s.vm.findClass RX6 = some m.cls := hown
  have hl : lv_has ls 5 [(0, .ref a0), (1, .ref (ld 1))] := hl
  refine lv_aload_n hx hb dX6_wordAmong_0 rfl (lv_at hl 0 rfl) ?_
  refine tk_Vi (As := []) (rest := []) (ci := 6) ⟨hx, hb, hml, hown, hts⟩ hK hG hZ hS (k_X6_isGood l D cy ld t a0 ht_a0) trivial ⟨callB_of 0 hts (wl_in mw_503) rfl rfl rfl (htl _ mw_36) (htl _ mw_500) hd_yX6_isGood ⟨(Nat.le_of_ble_eq_true rfl), (Nat.le_of_ble_eq_true rfl)⟩, htl _ mw_501, htl _ mw_502⟩ ht_a0 (by decide) tk_no rfl (tk_w.pick [] rfl) rfl hl.1 rfl (Nat.le_of_ble_eq_true rfl) dX6_wordAmong_1 ⟨(Nat.le_of_ble_eq_true rfl), (Nat.le_of_ble_eq_true rfl)⟩ (fun v1 H locs hpo hG hS hq9 => ?_)
  obtain ⟨hpo3, hpo4, hpo5, hpo6⟩ := hpo
  refine lv_if_eq (tgt := 15) hx hb dX6_wordAmong_4 (by decide) (fun c9 => ?_) (fun c9 => ?_)
  · have hc7 : v1.toInt = 0 := (fi_eq rfl (show (0 : Int32).toInt = 0 by decide)).mp c9
    refine lv_iconst (v := (-1)) hx hb dX6_wordAmong_15 (by decide) ?_
    have hk_m1 : ((-1) : Int32).toInt = (-1) := by decide
    exact tk_iret (v := (-1)) hx hb hr rfl hlocks (show (-1) ≤ ((-1) : Int32).toInt ∧ ((-1) : Int32).toInt ≤ 20 from ⟨(by omega), (by omega)⟩) hG hS dX6_wordAmong_16
  · have hc7 : ¬ (v1.toInt = 0) := fun h9 => c9 ((fi_eq rfl (show (0 : Int32).toInt = 0 by decide)).mpr h9)
    refine lv_aload_n hx hb dX6_wordAmong_7 rfl (lv_at hl 0 rfl) ?_
    refine tk_get (ci := 6) (C := RX6) (T := TX6) (N := 11) (sp := (0, (-2147483648), 2147483647, 0)) hx hb htl inX6 hown hK hG ht_a0 (by decide) tk_no rfl 6 (by decide) (htl _ mw_482) (fun _ h9 => h9) rfl dX6_wordAmong_8 (fun v9 hf8 hV9 => ?_)
    obtain ⟨v9, rfl, (ha_v9 : (-2147483648) ≤ v9.toInt), (hb_v9 : v9.toInt ≤ 2147483647)⟩ := hV9
    refine lv_iconst (v := 1) hx hb dX6_wordAmong_11 (by decide) ?_
    refine lv_icmp_eq (tgt := 17) hx hb dX6_wordAmong_12 (by decide) (fun c9 => ?_) (fun c9 => ?_)
    · have hc10 : v9.toInt = 1 := (fi_eq rfl (show (1 : Int32).toInt = 1 by decide)).mp c9
      refine lv_iconst (v := 0) hx hb dX6_wordAmong_17 (by decide) ?_
      refine lv_istore_n (lv' := [(2, .int 0), (0, .ref a0), (1, .ref (ld 1))]) hx hb dX6_wordAmong_18 rfl hl (by decide) rfl (fun ls hl => ?_)
      refine lv_iconst (v := 0) hx hb dX6_wordAmong_19 (by decide) ?_
      refine lv_istore_n (lv' := [(3, .int 0), (2, .int 0), (0, .ref a0), (1, .ref (ld 1))]) hx hb dX6_wordAmong_20 rfl hl (by decide) rfl (fun ls hl => ?_)
      refine lv_iconst (v := 0) hx hb dX6_wordAmong_21 (by decide) ?_
      refine lv_istore (lv' := [(4, .int 0), (3, .int 0), (2, .int 0), (0, .ref a0), (1, .ref (ld 1))]) hx hb dX6_wordAmong_22 hl (by decide) rfl (fun ls hl => ?_)
      have hl275 : ∀ (N_l275 : Nat) (v11 : Int32) (v12 : Int32) (v13 : Int32) (H : Heap) (locs : List Loc), v11.toInt ≤ 21 → 0 ≤ v13.toInt → 0 ≤ v11.toInt + (-1) * v12.toInt → 0 ≤ v12.toInt + (-1) * v13.toInt → (-1) * v11.toInt + 21 < (N_l275 : Int) → tk_G D cy ld t [] H → va_S (tk_w t []) s.heap H locs → tk_f D H a0 6 6 (.int v9) → ∀ ls : Array Slot, lv_has ls 5 [(4, .int v11), (3, .int v12), (2, .int v13), (0, .ref a0), (1, .ref (ld 1))] → W p l e ({ frames := 8, cells := 0, slots := 0, locals := 490 }) s m args below meth c H locs 0 0 (MQ below (ti D cy ld t [] (fun r H => (-1) ≤ r.toInt ∧ r.toInt ≤ 20) (tk_w t [])) args s 0 0 (tk_w t [])) (F0 m 24 ls []) := by
        intro N_l275
        induction N_l275 with
        | zero => intro v11 v12 v13 H locs hq0_l275 hq1_l275 hq2_l275 hq3_l275 hm_l275 hG hS hf8 ls hl; exfalso; omega
        | succ N_l275 ih_l275 =>
          intro v11 v12 v13 H locs hq0_l275 hq1_l275 hq2_l275 hq3_l275 hm_l275 hG hS hf8 ls hl
          refine lv_iload hx hb dX6_wordAmong_24 (lv_at hl 0 rfl) ?_
          refine lv_aload_n hx hb dX6_wordAmong_26 rfl (lv_at hl 4 rfl) ?_
          refine tk_Ti (As := []) (rest := [.int v11]) (j := 1) ⟨hx, hb, hml, hown, hts⟩ hK hG hZ hS (k_J0_length_8abf5_1 l D cy ld t) trivial ⟨callB_of 0 hts (wl_in mw_522) rfl rfl rfl (htl _ mw_521) (htl _ mw_518) hd_yJ0_length_8abf5 ⟨(Nat.le_of_ble_eq_true rfl), (Nat.le_of_ble_eq_true rfl)⟩, htl _ mw_519, htl _ mw_520⟩ (by decide) (tk_w.pick [] rfl) rfl hl.1 rfl (Nat.le_of_ble_eq_true rfl) dX6_wordAmong_27 ⟨(Nat.le_of_ble_eq_true rfl), (Nat.le_of_ble_eq_true rfl)⟩ (fun v276 H locs hpo hG hS hq9 => ?_)
          have hf8 := hf8.call hq9 tk_w.nil
          have hpo278 := hpo
          obtain rfl : v276 = 20 := (fi_eq (show v276.toInt = 20 by omega) (by decide)).mpr rfl
          refine lv_icmp_gt (tgt := 80) hx hb dX6_wordAmong_30 (by decide) (fun c9 => ?_) (fun c9 => ?_)
          · have hc279 : 20 < v11.toInt := (fi_lt (show (20 : Int32).toInt = 20 by decide) rfl).mp c9
            refine lv_iconst (v := (-1)) hx hb dX6_wordAmong_80 (by decide) ?_
            have hk_m1 : ((-1) : Int32).toInt = (-1) := by decide
            exact tk_iret (v := (-1)) hx hb hr rfl hlocks (show (-1) ≤ ((-1) : Int32).toInt ∧ ((-1) : Int32).toInt ≤ 20 from ⟨(by omega), (by omega)⟩) hG hS dX6_wordAmong_81
          · have hc279 : ¬ (20 < v11.toInt) := fun h9 => c9 ((fi_lt (show (20 : Int32).toInt = 20 by decide) rfl).mpr h9)
            refine lv_iload hx hb dX6_wordAmong_33 (lv_at hl 0 rfl) ?_
            refine lv_aload_n hx hb dX6_wordAmong_35 rfl (lv_at hl 4 rfl) ?_
            refine tk_Ti (As := []) (rest := [.int v11]) (j := 1) ⟨hx, hb, hml, hown, hts⟩ hK hG hZ hS (k_J0_length_8abf5_1 l D cy ld t) trivial ⟨callB_of 0 hts (wl_in mw_522) rfl rfl rfl (htl _ mw_521) (htl _ mw_518) hd_yJ0_length_8abf5 ⟨(Nat.le_of_ble_eq_true rfl), (Nat.le_of_ble_eq_true rfl)⟩, htl _ mw_519, htl _ mw_520⟩ (by decide) (tk_w.pick [] rfl) rfl hl.1 rfl (Nat.le_of_ble_eq_true rfl) dX6_wordAmong_36 ⟨(Nat.le_of_ble_eq_true rfl), (Nat.le_of_ble_eq_true rfl)⟩ (fun v280 H locs hpo hG hS hq9 => ?_)
            have hf8 := hf8.call hq9 tk_w.nil
            have hpo282 := hpo
            obtain rfl : v280 = 20 := (fi_eq (show v280.toInt = 20 by omega) (by decide)).mpr rfl
            refine lv_icmp_eq (tgt := 53) hx hb dX6_wordAmong_39 (by decide) (fun c9 => ?_) (fun c9 => ?_)
            · have hc283 : v11.toInt = 20 := (fi_eq rfl (show (20 : Int32).toInt = 20 by decide)).mp c9
              refine lv_aload_n hx hb dX6_wordAmong_53 rfl (lv_at hl 3 rfl) ?_
              refine lv_aload_n hx hb dX6_wordAmong_54 rfl (lv_at hl 4 rfl) ?_
              refine lv_iload_n hx hb dX6_wordAmong_55 rfl (lv_at hl 1 rfl) ?_
              refine lv_iload hx hb dX6_wordAmong_56 (lv_at hl 0 rfl) ?_
              refine tk_Vi (As := [.ref (ld 1), .int v12, .int v11]) (rest := []) (ci := 6) ⟨hx, hb, hml, hown, hts⟩ hK hG hZ hS (k_X6_isToken_1 l D cy ld t a0 v12 v11 ht_a0 (by omega) (by omega) (by omega) (by omega)) trivial ⟨callB_of 3 hts (wl_in mw_570) rfl rfl rfl (htl _ mw_36) (htl _ mw_567) hd_yX6_isToken ⟨(Nat.le_of_ble_eq_true rfl), (Nat.le_of_ble_eq_true rfl)⟩, htl _ mw_568, htl _ mw_569⟩ ht_a0 (by decide) tk_no rfl (tk_w.pick [] rfl) rfl hl.1 rfl (Nat.le_of_ble_eq_true rfl) dX6_wordAmong_58 ⟨(Nat.le_of_ble_eq_true rfl), (Nat.le_of_ble_eq_true rfl)⟩ (fun v284 H locs hpo hG hS hq9 => ?_)
              have hf8 := hf8.call hq9 tk_w.nil
              obtain ⟨hpo286, hpo287, hpo288, hpo289⟩ := hpo
              refine lv_if_eq (tgt := 66) hx hb dX6_wordAmong_61 (by decide) (fun c9 => ?_) (fun c9 => ?_)
              · have hc290 : v284.toInt = 0 := (fi_eq rfl (show (0 : Int32).toInt = 0 by decide)).mp c9
                obtain ⟨v291, h_v291, e_v291⟩ := tk_inc v13 1 (by decide) (by omega) (by omega)
                refine lv_iinc (v := v291) (lv' := [(2, .int v291), (4, .int v11), (3, .int v12), (0, .ref a0), (1, .ref (ld 1))]) hx hb dX6_wordAmong_66 hl (k := 2) rfl e_v291 (by decide) rfl (fun ls hl => ?_)
                refine lv_iload hx hb dX6_wordAmong_69 (lv_at hl 1 rfl) ?_
                refine lv_iconst (v := 1) hx hb dX6_wordAmong_71 (by decide) ?_
                refine lv_iadd hx hb dX6_wordAmong_72 ?_
                refine tk_add rfl (show (1 : Int32).toInt = 1 by decide) (by omega) (by omega) (fun v292 h_v292 => ?_)
                refine lv_istore_n (lv' := [(3, .int v292), (2, .int v291), (4, .int v11), (0, .ref a0), (1, .ref (ld 1))]) hx hb dX6_wordAmong_73 rfl hl (by decide) rfl (fun ls hl => ?_)
                obtain ⟨v293, h_v293, e_v293⟩ := tk_inc v11 1 (by decide) (by omega) (by omega)
                refine lv_iinc (v := v293) (lv' := [(4, .int v293), (3, .int v292), (2, .int v291), (0, .ref a0), (1, .ref (ld 1))]) hx hb dX6_wordAmong_74 hl (k := 2) rfl e_v293 (by decide) rfl (fun ls hl => ?_)
                refine lv_goto (tgt := 24) hx hb dX6_wordAmong_77 (by decide) ?_
                exact ih_l275 v293 v292 v291 _ _ (by omega) (by omega) (by omega) (by omega) (by omega) hG hS hf8 _ (lv_sub hl [0, 1, 2, 3, 4] rfl)
              · have hc290 : ¬ (v284.toInt = 0) := fun h9 => c9 ((fi_eq rfl (show (0 : Int32).toInt = 0 by decide)).mpr h9)
                refine lv_iload_n hx hb dX6_wordAmong_64 rfl (lv_at hl 2 rfl) ?_
                exact tk_iret (v := v13) hx hb hr rfl hlocks (show (-1) ≤ v13.toInt ∧ v13.toInt ≤ 20 from ⟨(by omega), (by omega)⟩) hG hS dX6_wordAmong_65
            · have hc283 : ¬ (v11.toInt = 20) := fun h9 => c9 ((fi_eq rfl (show (20 : Int32).toInt = 20 by decide)).mpr h9)
              refine lv_aload_n hx hb dX6_wordAmong_42 rfl (lv_at hl 4 rfl) ?_
              refine lv_iload hx hb dX6_wordAmong_43 (lv_at hl 0 rfl) ?_
              refine tk_Ti (As := [.int v11]) (rest := []) (j := 1) ⟨hx, hb, hml, hown, hts⟩ hK hG hZ hS (k_J0_charAt_5068e_1 l D cy ld t v11 (by omega) (by omega)) trivial ⟨callB_of 1 hts (wl_in mw_533) rfl rfl rfl (htl _ mw_521) (htl _ mw_530) hd_yJ0_charAt_5068e ⟨(Nat.le_of_ble_eq_true rfl), (Nat.le_of_ble_eq_true rfl)⟩, htl _ mw_531, htl _ mw_532⟩ (by decide) (tk_w.pick [] rfl) rfl hl.1 rfl (Nat.le_of_ble_eq_true rfl) dX6_wordAmong_45 ⟨(Nat.le_of_ble_eq_true rfl), (Nat.le_of_ble_eq_true rfl)⟩ (fun v294 H locs hpo hG hS hq9 => ?_)
              have hf8 := hf8.call hq9 tk_w.nil
              obtain ⟨hpo296, hpo297⟩ := hpo
              refine lv_bipush (v := 32) hx hb dX6_wordAmong_48 (by decide) ?_
              refine lv_icmp_ne (tgt := 74) hx hb dX6_wordAmong_50 (by decide) (fun c9 => ?_) (fun c9 => ?_)
              · have hc298 : ¬ (v294.toInt = 32) := fun h9 => c9 ((fi_eq rfl (show (32 : Int32).toInt = 32 by decide)).mpr h9)
                obtain ⟨v299, h_v299, e_v299⟩ := tk_inc v11 1 (by decide) (by omega) (by omega)
                refine lv_iinc (v := v299) (lv' := [(4, .int v299), (3, .int v12), (2, .int v13), (0, .ref a0), (1, .ref (ld 1))]) hx hb dX6_wordAmong_74 hl (k := 0) rfl e_v299 (by decide) rfl (fun ls hl => ?_)
                refine lv_goto (tgt := 24) hx hb dX6_wordAmong_77 (by decide) ?_
                exact ih_l275 v299 v12 v13 _ _ (by omega) (by omega) (by omega) (by omega) (by omega) hG hS hf8 _ (lv_sub hl [0, 1, 2, 3, 4] rfl)
              · have hc298 : v294.toInt = 32 := (fi_eq rfl (show (32 : Int32).toInt = 32 by decide)).mp c9
                refine lv_aload_n hx hb dX6_wordAmong_53 rfl (lv_at hl 3 rfl) ?_
                refine lv_aload_n hx hb dX6_wordAmong_54 rfl (lv_at hl 4 rfl) ?_
                refine lv_iload_n hx hb dX6_wordAmong_55 rfl (lv_at hl 1 rfl) ?_
                refine lv_iload hx hb dX6_wordAmong_56 (lv_at hl 0 rfl) ?_
                refine tk_Vi (As := [.ref (ld 1), .int v12, .int v11]) (rest := []) (ci := 6) ⟨hx, hb, hml, hown, hts⟩ hK hG hZ hS (k_X6_isToken_1 l D cy ld t a0 v12 v11 ht_a0 (by omega) (by omega) (by omega) (by omega)) trivial ⟨callB_of 3 hts (wl_in mw_570) rfl rfl rfl (htl _ mw_36) (htl _ mw_567) hd_yX6_isToken ⟨(Nat.le_of_ble_eq_true rfl), (Nat.le_of_ble_eq_true rfl)⟩, htl _ mw_568, htl _ mw_569⟩ ht_a0 (by decide) tk_no rfl (tk_w.pick [] rfl) rfl hl.1 rfl (Nat.le_of_ble_eq_true rfl) dX6_wordAmong_58 ⟨(Nat.le_of_ble_eq_true rfl), (Nat.le_of_ble_eq_true rfl)⟩ (fun v300 H locs hpo hG hS hq9 => ?_)
                have hf8 := hf8.call hq9 tk_w.nil
                obtain ⟨hpo302, hpo303, hpo304, hpo305⟩ := hpo
                refine lv_if_eq (tgt := 66) hx hb dX6_wordAmong_61 (by decide) (fun c9 => ?_) (fun c9 => ?_)
                · have hc306 : v300.toInt = 0 := (fi_eq rfl (show (0 : Int32).toInt = 0 by decide)).mp c9
                  obtain ⟨v307, h_v307, e_v307⟩ := tk_inc v13 1 (by decide) (by omega) (by omega)
                  refine lv_iinc (v := v307) (lv' := [(2, .int v307), (4, .int v11), (3, .int v12), (0, .ref a0), (1, .ref (ld 1))]) hx hb dX6_wordAmong_66 hl (k := 2) rfl e_v307 (by decide) rfl (fun ls hl => ?_)
                  refine lv_iload hx hb dX6_wordAmong_69 (lv_at hl 1 rfl) ?_
                  refine lv_iconst (v := 1) hx hb dX6_wordAmong_71 (by decide) ?_
                  refine lv_iadd hx hb dX6_wordAmong_72 ?_
                  refine tk_add rfl (show (1 : Int32).toInt = 1 by decide) (by omega) (by omega) (fun v308 h_v308 => ?_)
                  refine lv_istore_n (lv' := [(3, .int v308), (2, .int v307), (4, .int v11), (0, .ref a0), (1, .ref (ld 1))]) hx hb dX6_wordAmong_73 rfl hl (by decide) rfl (fun ls hl => ?_)
                  obtain ⟨v309, h_v309, e_v309⟩ := tk_inc v11 1 (by decide) (by omega) (by omega)
                  refine lv_iinc (v := v309) (lv' := [(4, .int v309), (3, .int v308), (2, .int v307), (0, .ref a0), (1, .ref (ld 1))]) hx hb dX6_wordAmong_74 hl (k := 2) rfl e_v309 (by decide) rfl (fun ls hl => ?_)
                  refine lv_goto (tgt := 24) hx hb dX6_wordAmong_77 (by decide) ?_
                  exact ih_l275 v309 v308 v307 _ _ (by omega) (by omega) (by omega) (by omega) (by omega) hG hS hf8 _ (lv_sub hl [0, 1, 2, 3, 4] rfl)
                · have hc306 : ¬ (v300.toInt = 0) := fun h9 => c9 ((fi_eq rfl (show (0 : Int32).toInt = 0 by decide)).mpr h9)
                  refine lv_iload_n hx hb dX6_wordAmong_64 rfl (lv_at hl 2 rfl) ?_
                  exact tk_iret (v := v13) hx hb hr rfl hlocks (show (-1) ≤ v13.toInt ∧ v13.toInt ≤ 20 from ⟨(by omega), (by omega)⟩) hG hS dX6_wordAmong_65
      have hk_0 : (0 : Int32).toInt = 0 := by decide
      have hk_0 : (0 : Int32).toInt = 0 := by decide
      have hk_0 : (0 : Int32).toInt = 0 := by decide
      exact hl275 22 0 0 0 _ _ (by omega) (by omega) (by omega) (by omega) (by omega) hG hS hf8 _ (lv_sub hl [0, 1, 2, 3, 4] rfl)
    · have hc10 : ¬ (v9.toInt = 1) := fun h9 => c9 ((fi_eq rfl (show (1 : Int32).toInt = 1 by decide)).mpr h9)
      refine lv_iconst (v := (-1)) hx hb dX6_wordAmong_15 (by decide) ?_
      have hk_m1 : ((-1) : Int32).toInt = (-1) := by decide
      exact tk_iret (v := (-1)) hx hb hr rfl hlocks (show (-1) ≤ ((-1) : Int32).toInt ∧ ((-1) : Int32).toInt ≤ 20 from ⟨(by omega), (by omega)⟩) hG hS dX6_wordAmong_16
theorem dX7_openClause_0 : decode cX7_openClause 0 = .ok (.aload_n 0, 1) := by decide +kernel
theorem dX7_openClause_1 : decode cX7_openClause 1 = .ok (.getfield 34, 3) := by decide +kernel
theorem dX7_openClause_4 : decode cX7_openClause 4 = .ok (.aload_n 0, 1) := by decide +kernel
theorem dX7_openClause_5 : decode cX7_openClause 5 = .ok (.getfield 18, 3) := by decide +kernel
theorem dX7_openClause_8 : decode cX7_openClause 8 = .ok (.arraylength, 1) := by decide +kernel
theorem dX7_openClause_9 : decode cX7_openClause 9 = .ok (.if_icmp .ge 82, 3) := by decide +kernel
theorem dX7_openClause_91 : decode cX7_openClause 91 = .ok (.return_, 1) := by decide +kernel
theorem dX7_openClause_12 : decode cX7_openClause 12 = .ok (.aload_n 0, 1) := by decide +kernel
theorem dX7_openClause_13 : decode cX7_openClause 13 = .ok (.getfield 18, 3) := by decide +kernel
theorem dX7_openClause_16 : decode cX7_openClause 16 = .ok (.aload_n 0, 1) := by decide +kernel
theorem dX7_openClause_17 : decode cX7_openClause 17 = .ok (.getfield 34, 3) := by decide +kernel
theorem dX7_openClause_20 : decode cX7_openClause 20 = .ok (.iload_n 1, 1) := by decide +kernel
theorem dX7_openClause_21 : decode cX7_openClause 21 = .ok (.iastore, 1) := by decide +kernel
theorem dX7_openClause_22 : decode cX7_openClause 22 = .ok (.aload_n 0, 1) := by decide +kernel
theorem dX7_openClause_23 : decode cX7_openClause 23 = .ok (.dup, 1) := by decide +kernel
theorem dX7_openClause_24 : decode cX7_openClause 24 = .ok (.getfield 37, 3) := by decide +kernel
theorem dX7_openClause_27 : decode cX7_openClause 27 = .ok (.iconst 1, 1) := by decide +kernel
theorem dX7_openClause_28 : decode cX7_openClause 28 = .ok (.iload_n 1, 1) := by decide +kernel
theorem dX7_openClause_29 : decode cX7_openClause 29 = .ok (.ishl, 1) := by decide +kernel
theorem dX7_openClause_30 : decode cX7_openClause 30 = .ok (.ior, 1) := by decide +kernel
theorem dX7_openClause_31 : decode cX7_openClause 31 = .ok (.putfield 37, 3) := by decide +kernel
theorem dX7_openClause_34 : decode cX7_openClause 34 = .ok (.aload_n 0, 1) := by decide +kernel
theorem dX7_openClause_35 : decode cX7_openClause 35 = .ok (.getfield 21, 3) := by decide +kernel
theorem dX7_openClause_38 : decode cX7_openClause 38 = .ok (.aload_n 0, 1) := by decide +kernel
theorem dX7_openClause_39 : decode cX7_openClause 39 = .ok (.getfield 34, 3) := by decide +kernel
theorem dX7_openClause_42 : decode cX7_openClause 42 = .ok (.iconst 1, 1) := by decide +kernel
theorem dX7_openClause_43 : decode cX7_openClause 43 = .ok (.iastore, 1) := by decide +kernel
theorem dX7_openClause_44 : decode cX7_openClause 44 = .ok (.aload_n 0, 1) := by decide +kernel
theorem dX7_openClause_45 : decode cX7_openClause 45 = .ok (.getfield 24, 3) := by decide +kernel
theorem dX7_openClause_48 : decode cX7_openClause 48 = .ok (.aload_n 0, 1) := by decide +kernel
theorem dX7_openClause_49 : decode cX7_openClause 49 = .ok (.getfield 34, 3) := by decide +kernel
theorem dX7_openClause_52 : decode cX7_openClause 52 = .ok (.iconst (-1), 1) := by decide +kernel
theorem dX7_openClause_53 : decode cX7_openClause 53 = .ok (.iastore, 1) := by decide +kernel
theorem dX7_openClause_54 : decode cX7_openClause 54 = .ok (.iconst 0, 1) := by decide +kernel
theorem dX7_openClause_55 : decode cX7_openClause 55 = .ok (.istore_n 2, 1) := by decide +kernel
theorem dX7_openClause_56 : decode cX7_openClause 56 = .ok (.iload_n 2, 1) := by decide +kernel
theorem dX7_openClause_57 : decode cX7_openClause 57 = .ok (.iconst 3, 1) := by decide +kernel
theorem dX7_openClause_58 : decode cX7_openClause 58 = .ok (.if_icmp .ge 23, 3) := by decide +kernel
theorem dX7_openClause_81 : decode cX7_openClause 81 = .ok (.aload_n 0, 1) := by decide +kernel
theorem dX7_openClause_82 : decode cX7_openClause 82 = .ok (.dup, 1) := by decide +kernel
theorem dX7_openClause_83 : decode cX7_openClause 83 = .ok (.getfield 34, 3) := by decide +kernel
theorem dX7_openClause_86 : decode cX7_openClause 86 = .ok (.iconst 1, 1) := by decide +kernel
theorem dX7_openClause_87 : decode cX7_openClause 87 = .ok (.iadd, 1) := by decide +kernel
theorem dX7_openClause_88 : decode cX7_openClause 88 = .ok (.putfield 34, 3) := by decide +kernel
theorem dX7_openClause_61 : decode cX7_openClause 61 = .ok (.aload_n 0, 1) := by decide +kernel
theorem dX7_openClause_62 : decode cX7_openClause 62 = .ok (.getfield 27, 3) := by decide +kernel
theorem dX7_openClause_65 : decode cX7_openClause 65 = .ok (.aload_n 0, 1) := by decide +kernel
theorem dX7_openClause_66 : decode cX7_openClause 66 = .ok (.getfield 34, 3) := by decide +kernel
theorem dX7_openClause_69 : decode cX7_openClause 69 = .ok (.iconst 3, 1) := by decide +kernel
theorem dX7_openClause_70 : decode cX7_openClause 70 = .ok (.imul, 1) := by decide +kernel
theorem dX7_openClause_71 : decode cX7_openClause 71 = .ok (.iload_n 2, 1) := by decide +kernel
theorem dX7_openClause_72 : decode cX7_openClause 72 = .ok (.iadd, 1) := by decide +kernel
theorem dX7_openClause_73 : decode cX7_openClause 73 = .ok (.iconst (-1), 1) := by decide +kernel
theorem dX7_openClause_74 : decode cX7_openClause 74 = .ok (.iastore, 1) := by decide +kernel
theorem dX7_openClause_75 : decode cX7_openClause 75 = .ok (.iinc 2 1, 3) := by decide +kernel
theorem dX7_openClause_78 : decode cX7_openClause 78 = .ok (.goto (-22), 3) := by decide +kernel
set_option maxHeartbeats 4000000 in
set_option maxRecDepth 100000 in
theorem k_X7_openClause (l : Launch) (D : va_G) (cy : Nat → ClassId) (ld : Nat → Nat) (t : tk_T) (a0 : Nat) (p1 : Int32) (ht_a0 : t a0 = (8, 512, 12)) : Met l yX7_openClause (wl yX7_openClause cX7_openClause 3 none) ({ frames := 3, cells := 0, slots := 0, locals := 140 }) (tp D cy ld t [] [.ref a0, .int p1] (fun H => True)) (tv D cy ld t [] (fun H => True) (tk_w t [(20, 0, 0), (8, 12, 12), (23, 0, 0)])) 0 0 (tk_w t [(20, 0, 0), (8, 12, 12), (23, 0, 0)]) := by
  refine tk_met (y := yX7_openClause) (cc := cX7_openClause) (maxL := 3) (ret := none) (av := [.ref a0, .int p1]) _ _ (by decide) (Nat.le_of_ble_eq_true rfl) ?_
  intro p e s m args below meth c hx hb hr hml hts htl hown hlocks hK H locs hH hG hS hB hZ ls hl
  have hown : s.vm.findClass RX7 = some m.cls := hown
  have hl : lv_has ls 3 [(0, .ref a0), (1, .int p1)] := hl
  have hr_p1 := tk_rng p1
  refine lv_aload_n hx hb dX7_openClause_0 rfl (lv_at hl 0 rfl) ?_
  refine tk_get (ci := 7) (C := RX7) (T := TX7) (N := 10) (sp := (5, 0, 0, 0)) hx hb htl inX7 hown hK hG ht_a0 (by decide) tk_no rfl 7 (by decide) (htl _ mw_488) (fun _ h9 => h9) rfl dX7_openClause_1 (fun v9 hf1 hV9 => ?_)
  obtain ⟨v2, rfl, (ha_v2 : 0 ≤ v2.toInt), (hb_v2 : v2.toInt ≤ 12)⟩ := hV9
  refine lv_aload_n hx hb dX7_openClause_4 rfl (lv_at hl 0 rfl) ?_
  refine tk_get (ci := 7) (C := RX7) (T := TX7) (N := 10) (sp := (3, 20, 1, 0)) hx hb htl inX7 hown hK hG ht_a0 (by decide) tk_no rfl 2 (by decide) (htl _ mw_140) (fun _ h9 => h9) rfl dX7_openClause_5 (fun v9 hf3 hV9 => ?_)
  obtain ⟨b4, rfl, ht_b4⟩ := hV9
  have ht_b4 : t b4 = (20, 12, 0) := ht_b4
  refine tk_alen hx hb hK hG 0 rfl ht_b4 (by decide) (fun _ h => by obtain ⟨f, h, _⟩ := h; exact ⟨_, h⟩) tk_no (by decide) dX7_openClause_8 (fun z hz => ?_)
  obtain rfl : z = 12 := (fi_eq hz (by decide)).mpr rfl
  refine lv_icmp_ge (tgt := 91) hx hb dX7_openClause_9 (by decide) (fun c9 => ?_) (fun c9 => ?_)
  · have hc5 : 12 ≤ v2.toInt := (fi_le (show (12 : Int32).toInt = 12 by decide) rfl).mp c9
    exact tk_vret hx hb hr hlocks trivial hG hS dX7_openClause_91
  · have hc5 : ¬ (12 ≤ v2.toInt) := fun h9 => c9 ((fi_le (show (12 : Int32).toInt = 12 by decide) rfl).mpr h9)
    refine lv_aload_n hx hb dX7_openClause_12 rfl (lv_at hl 0 rfl) ?_
    refine tk_get (ci := 7) (C := RX7) (T := TX7) (N := 10) (sp := (3, 20, 1, 0)) hx hb htl inX7 hown hK hG ht_a0 (by decide) tk_no rfl 2 (by decide) (htl _ mw_140) (fun _ h9 => h9) rfl dX7_openClause_13 (fun v9 hf6 hV9 => ?_)
    obtain ⟨b7, rfl, ht_b7⟩ := hV9
    have ht_b7 : t b7 = (20, 12, 0) := ht_b7
    refine lv_aload_n hx hb dX7_openClause_16 rfl (lv_at hl 0 rfl) ?_
    refine tk_getk (ci := 7) (C := RX7) (T := TX7) (N := 10) (sp := (5, 0, 0, 0)) hx hb htl inX7 hown hK hG ht_a0 (by decide) tk_no rfl 7 (by decide) (htl _ mw_488) (fun _ h9 => h9) rfl hf1 dX7_openClause_17 ?_
    refine lv_iload_n hx hb dX7_openClause_20 rfl (lv_at hl 1 rfl) ?_
    refine tk_iast hx hb hK hG hS ht_b7 (by decide) (fun _ => Iff.rfl) tk_no rfl (by omega) (by omega) trivial (tk_w.of ht_b7 (by decide) (List.mem_of_getElem? (i := 0) rfl) (Nat.le_refl _) (Nat.le_refl _)) dX7_openClause_21 (fun H locs hG hS hq9 => ?_)
    have hf1 := hf1.kept (hq9 _ (tk_ne ht_a0 ht_b7 (Or.inl (by decide))))
    refine lv_aload_n hx hb dX7_openClause_22 rfl (lv_at hl 0 rfl) ?_
    refine lv_dup hx hb dX7_openClause_23 rfl ?_
    refine tk_get (ci := 7) (C := RX7) (T := TX7) (N := 10) (sp := (0, (-2147483648), 2147483647, 0)) hx hb htl inX7 hown hK hG ht_a0 (by decide) tk_no rfl 8 (by decide) (htl _ mw_489) (fun _ h9 => h9) rfl dX7_openClause_24 (fun v9 hf9 hV9 => ?_)
    obtain ⟨v10, rfl, (ha_v10 : (-2147483648) ≤ v10.toInt), (hb_v10 : v10.toInt ≤ 2147483647)⟩ := hV9
    refine lv_iconst (v := 1) hx hb dX7_openClause_27 (by decide) ?_
    refine lv_iload_n hx hb dX7_openClause_28 rfl (lv_at hl 1 rfl) ?_
    refine lv_ishl hx hb dX7_openClause_29 ?_
    refine tk_any (fun v11 => ?_)
    refine lv_ior hx hb dX7_openClause_30 ?_
    refine tk_any (fun v12 => ?_)
    refine tk_put (ci := 7) (v := .int v12) (ty := .int) (C := RX7) (T := TX7) (N := 10) (sp := (0, (-2147483648), 2147483647, 0)) hx hb htl inX7 tyX7 tyX7_ok nmX7 hown hK hG hS ht_a0 (by decide) tk_no rfl 8 (by decide) (htl _ mw_489) (fun _ h9 => h9) rfl (tyX7_ok 8 (by decide)) rfl rfl rfl (tk_V0 (tk_rng _).1 (tk_rng _).2) (fun _ h => h) (tk_w.of ht_a0 (by decide) (List.mem_of_getElem? (i := 1) rfl) (Nat.le_refl _) (Nat.le_refl _)) dX7_openClause_31 (fun H locs hG hS hf13 hq9 hj9 => ?_)
    have hf1 := hj9 7 _ (by decide) (by decide) hf1
    refine lv_aload_n hx hb dX7_openClause_34 rfl (lv_at hl 0 rfl) ?_
    refine tk_get (ci := 7) (C := RX7) (T := TX7) (N := 10) (sp := (3, 23, 1, 0)) hx hb htl inX7 hown hK hG ht_a0 (by decide) tk_no rfl 3 (by decide) (htl _ mw_141) (fun _ h9 => h9) rfl dX7_openClause_35 (fun v9 hf15 hV9 => ?_)
    obtain ⟨b16, rfl, ht_b16⟩ := hV9
    have ht_b16 : t b16 = (23, 12, 0) := ht_b16
    refine lv_aload_n hx hb dX7_openClause_38 rfl (lv_at hl 0 rfl) ?_
    refine tk_getk (ci := 7) (C := RX7) (T := TX7) (N := 10) (sp := (5, 0, 0, 0)) hx hb htl inX7 hown hK hG ht_a0 (by decide) tk_no rfl 7 (by decide) (htl _ mw_488) (fun _ h9 => h9) rfl hf1 dX7_openClause_39 ?_
    refine lv_iconst (v := 1) hx hb dX7_openClause_42 (by decide) ?_
    have hk_1 : (1 : Int32).toInt = 1 := by decide
    refine tk_iast hx hb hK hG hS ht_b16 (by decide) (fun _ => Iff.rfl) tk_no rfl (by omega) (by omega) (show 0 ≤ (1 : Int32).toInt ∧ (1 : Int32).toInt ≤ 20 from ⟨by omega, by omega⟩) (tk_w.of ht_b16 (by decide) (List.mem_of_getElem? (i := 2) rfl) (Nat.le_refl _) (Nat.le_refl _)) dX7_openClause_43 (fun H locs hG hS hq9 => ?_)
    have hf1 := hf1.kept (hq9 _ (tk_ne ht_a0 ht_b16 (Or.inl (by decide))))
    refine lv_aload_n hx hb dX7_openClause_44 rfl (lv_at hl 0 rfl) ?_
    refine tk_get (ci := 7) (C := RX7) (T := TX7) (N := 10) (sp := (3, 20, 1, 0)) hx hb htl inX7 hown hK hG ht_a0 (by decide) tk_no rfl 4 (by decide) (htl _ mw_142) (fun _ h9 => h9) rfl dX7_openClause_45 (fun v9 hf18 hV9 => ?_)
    obtain ⟨b19, rfl, ht_b19⟩ := hV9
    have ht_b19 : t b19 = (20, 12, 0) := ht_b19
    refine lv_aload_n hx hb dX7_openClause_48 rfl (lv_at hl 0 rfl) ?_
    refine tk_getk (ci := 7) (C := RX7) (T := TX7) (N := 10) (sp := (5, 0, 0, 0)) hx hb htl inX7 hown hK hG ht_a0 (by decide) tk_no rfl 7 (by decide) (htl _ mw_488) (fun _ h9 => h9) rfl hf1 dX7_openClause_49 ?_
    refine lv_iconst (v := (-1)) hx hb dX7_openClause_52 (by decide) ?_
    refine tk_iast hx hb hK hG hS ht_b19 (by decide) (fun _ => Iff.rfl) tk_no rfl (by omega) (by omega) trivial (tk_w.of ht_b19 (by decide) (List.mem_of_getElem? (i := 0) rfl) (Nat.le_refl _) (Nat.le_refl _)) dX7_openClause_53 (fun H locs hG hS hq9 => ?_)
    have hf1 := hf1.kept (hq9 _ (tk_ne ht_a0 ht_b19 (Or.inl (by decide))))
    refine lv_iconst (v := 0) hx hb dX7_openClause_54 (by decide) ?_
    refine lv_istore_n (lv' := [(2, .int 0), (0, .ref a0), (1, .int p1)]) hx hb dX7_openClause_55 rfl hl (by decide) rfl (fun ls hl => ?_)
    have hl125 : ∀ (N_l125 : Nat) (v21 : Int32) (H : Heap) (locs : List Loc), v21.toInt ≤ 3 → 0 ≤ v21.toInt → (-1) * v21.toInt + 3 < (N_l125 : Int) → tk_G D cy ld t [] H → va_S (tk_w t [(20, 0, 0), (8, 12, 12), (23, 0, 0)]) s.heap H locs → tk_f D H a0 7 7 (.int v2) → ∀ ls : Array Slot, lv_has ls 3 [(2, .int v21), (0, .ref a0)] → W p l e ({ frames := 3, cells := 0, slots := 0, locals := 140 }) s m args below meth c H locs 0 0 (MQ below (tv D cy ld t [] (fun H => True) (tk_w t [(20, 0, 0), (8, 12, 12), (23, 0, 0)])) args s 0 0 (tk_w t [(20, 0, 0), (8, 12, 12), (23, 0, 0)])) (F0 m 56 ls []) := by
      intro N_l125
      induction N_l125 with
      | zero => intro v21 H locs hq0_l125 hq1_l125 hm_l125 hG hS hf1 ls hl; exfalso; omega
      | succ N_l125 ih_l125 =>
        intro v21 H locs hq0_l125 hq1_l125 hm_l125 hG hS hf1 ls hl
        refine lv_iload_n hx hb dX7_openClause_56 rfl (lv_at hl 0 rfl) ?_
        refine lv_iconst (v := 3) hx hb dX7_openClause_57 (by decide) ?_
        refine lv_icmp_ge (tgt := 81) hx hb dX7_openClause_58 (by decide) (fun c9 => ?_) (fun c9 => ?_)
        · have hc126 : 3 ≤ v21.toInt := (fi_le (show (3 : Int32).toInt = 3 by decide) rfl).mp c9
          refine lv_aload_n hx hb dX7_openClause_81 rfl (lv_at hl 1 rfl) ?_
          refine lv_dup hx hb dX7_openClause_82 rfl ?_
          refine tk_getk (ci := 7) (C := RX7) (T := TX7) (N := 10) (sp := (5, 0, 0, 0)) hx hb htl inX7 hown hK hG ht_a0 (by decide) tk_no rfl 7 (by decide) (htl _ mw_488) (fun _ h9 => h9) rfl hf1 dX7_openClause_83 ?_
          refine lv_iconst (v := 1) hx hb dX7_openClause_86 (by decide) ?_
          refine lv_iadd hx hb dX7_openClause_87 ?_
          refine tk_add rfl (show (1 : Int32).toInt = 1 by decide) (by omega) (by omega) (fun v133 h_v133 => ?_)
          refine tk_put (ci := 7) (v := .int v133) (ty := .int) (C := RX7) (T := TX7) (N := 10) (sp := (5, 0, 0, 0)) hx hb htl inX7 tyX7 tyX7_ok nmX7 hown hK hG hS ht_a0 (by decide) tk_no rfl 7 (by decide) (htl _ mw_488) (fun _ h9 => h9) rfl (tyX7_ok 7 (by decide)) rfl rfl rfl (tk_V5 (by omega) (by omega)) (fun _ h => h) (tk_w.of ht_a0 (by decide) (List.mem_of_getElem? (i := 1) rfl) (Nat.le_refl _) (Nat.le_refl _)) dX7_openClause_88 (fun H locs hG hS hf134 hq9 hj9 => ?_)
          exact tk_vret hx hb hr hlocks trivial hG hS dX7_openClause_91
        · have hc126 : ¬ (3 ≤ v21.toInt) := fun h9 => c9 ((fi_le (show (3 : Int32).toInt = 3 by decide) rfl).mpr h9)
          refine lv_aload_n hx hb dX7_openClause_61 rfl (lv_at hl 1 rfl) ?_
          refine tk_get (ci := 7) (C := RX7) (T := TX7) (N := 10) (sp := (3, 20, 3, 0)) hx hb htl inX7 hown hK hG ht_a0 (by decide) tk_no rfl 5 (by decide) (htl _ mw_143) (fun _ h9 => h9) rfl dX7_openClause_62 (fun v9 hf136 hV9 => ?_)
          obtain ⟨b137, rfl, ht_b137⟩ := hV9
          have ht_b137 : t b137 = (20, 36, 0) := ht_b137
          refine lv_aload_n hx hb dX7_openClause_65 rfl (lv_at hl 1 rfl) ?_
          refine tk_getk (ci := 7) (C := RX7) (T := TX7) (N := 10) (sp := (5, 0, 0, 0)) hx hb htl inX7 hown hK hG ht_a0 (by decide) tk_no rfl 7 (by decide) (htl _ mw_488) (fun _ h9 => h9) rfl hf1 dX7_openClause_66 ?_
          refine lv_iconst (v := 3) hx hb dX7_openClause_69 (by decide) ?_
          refine lv_imul hx hb dX7_openClause_70 ?_
          refine tk_mul rfl (show (3 : Int32).toInt = 3 by decide) (by omega) (by omega) (fun v138 h_v138 => ?_)
          refine lv_iload_n hx hb dX7_openClause_71 rfl (lv_at hl 0 rfl) ?_
          refine lv_iadd hx hb dX7_openClause_72 ?_
          refine tk_add rfl rfl (by omega) (by omega) (fun v139 h_v139 => ?_)
          refine lv_iconst (v := (-1)) hx hb dX7_openClause_73 (by decide) ?_
          refine tk_iast hx hb hK hG hS ht_b137 (by decide) (fun _ => Iff.rfl) tk_no rfl (by omega) (by omega) trivial (tk_w.of ht_b137 (by decide) (List.mem_of_getElem? (i := 0) rfl) (Nat.le_refl _) (Nat.le_refl _)) dX7_openClause_74 (fun H locs hG hS hq9 => ?_)
          have hf1 := hf1.kept (hq9 _ (tk_ne ht_a0 ht_b137 (Or.inl (by decide))))
          obtain ⟨v141, h_v141, e_v141⟩ := tk_inc v21 1 (by decide) (by omega) (by omega)
          refine lv_iinc (v := v141) (lv' := [(2, .int v141), (0, .ref a0)]) hx hb dX7_openClause_75 hl (k := 0) rfl e_v141 (by decide) rfl (fun ls hl => ?_)
          refine lv_goto (tgt := 56) hx hb dX7_openClause_78 (by decide) ?_
          exact ih_l125 v141 _ _ (by omega) (by omega) (by omega) hG hS hf1 _ (lv_sub hl [0, 1] rfl)
    have hk_0 : (0 : Int32).toInt = 0 := by decide
    exact hl125 4 0 _ _ (by omega) (by omega) (by omega) hG hS hf1 _ (lv_sub hl [0, 1] rfl)
theorem dX6_readClause_0 : decode cX6_readClause 0 = .ok (.aload_n 0, 1) := by decide +kernel
theorem dX6_readClause_1 : decode cX6_readClause 1 = .ok (.aload_n 0, 1) := by decide +kernel
theorem dX6_readClause_2 : decode cX6_readClause 2 = .ok (.getfield 37, 3) := by decide +kernel
theorem dX6_readClause_5 : decode cX6_readClause 5 = .ok (.ifCond .eq 8, 3) := by decide +kernel
theorem dX6_readClause_13 : decode cX6_readClause 13 = .ok (.ldc 110, 2) := by decide +kernel
theorem dX6_readClause_15 : decode cX6_readClause 15 = .ok (.invokevirtual 100, 3) := by decide +kernel
theorem dX6_readClause_18 : decode cX6_readClause 18 = .ok (.istore_n 2, 1) := by decide +kernel
theorem dX6_readClause_19 : decode cX6_readClause 19 = .ok (.iload_n 2, 1) := by decide +kernel
theorem dX6_readClause_20 : decode cX6_readClause 20 = .ok (.iconst (-1), 1) := by decide +kernel
theorem dX6_readClause_21 : decode cX6_readClause 21 = .ok (.if_icmp .ne 8, 3) := by decide +kernel
theorem dX6_readClause_29 : decode cX6_readClause 29 = .ok (.aload_n 0, 1) := by decide +kernel
theorem dX6_readClause_30 : decode cX6_readClause 30 = .ok (.getfield 16, 3) := by decide +kernel
theorem dX6_readClause_33 : decode cX6_readClause 33 = .ok (.iload_n 2, 1) := by decide +kernel
theorem dX6_readClause_34 : decode cX6_readClause 34 = .ok (.invokevirtual 112, 3) := by decide +kernel
theorem dX6_readClause_37 : decode cX6_readClause 37 = .ok (.aload_n 0, 1) := by decide +kernel
theorem dX6_readClause_38 : decode cX6_readClause 38 = .ok (.invokevirtual 53, 3) := by decide +kernel
theorem dX6_readClause_41 : decode cX6_readClause 41 = .ok (.aload_n 0, 1) := by decide +kernel
theorem dX6_readClause_42 : decode cX6_readClause 42 = .ok (.getfield 37, 3) := by decide +kernel
theorem dX6_readClause_57 : decode cX6_readClause 57 = .ok (.istore_n 3, 1) := by decide +kernel
theorem dX6_readClause_58 : decode cX6_readClause 58 = .ok (.aload_n 0, 1) := by decide +kernel
theorem dX6_readClause_59 : decode cX6_readClause 59 = .ok (.getfield 37, 3) := by decide +kernel
theorem dX6_readClause_88 : decode cX6_readClause 88 = .ok (.iload_n 3, 1) := by decide +kernel
theorem dX6_readClause_116 : decode cX6_readClause 116 = .ok (.aload_n 0, 1) := by decide +kernel
theorem dX6_readClause_117 : decode cX6_readClause 117 = .ok (.getfield 37, 3) := by decide +kernel
theorem dX6_readClause_128 : decode cX6_readClause 128 = .ok (.aload_n 0, 1) := by decide +kernel
theorem dX6_readClause_129 : decode cX6_readClause 129 = .ok (.ldc 131, 2) := by decide +kernel
theorem dX6_readClause_131 : decode cX6_readClause 131 = .ok (.invokevirtual 104, 3) := by decide +kernel
theorem dX6_readClause_134 : decode cX6_readClause 134 = .ok (.ifCond .eq 36, 3) := by decide +kernel
theorem dX6_readClause_170 : decode cX6_readClause 170 = .ok (.return_, 1) := by decide +kernel
theorem dX6_readClause_137 : decode cX6_readClause 137 = .ok (.aload_n 0, 1) := by decide +kernel
theorem dX6_readClause_138 : decode cX6_readClause 138 = .ok (.invokevirtual 53, 3) := by decide +kernel
theorem dX6_readClause_141 : decode cX6_readClause 141 = .ok (.aload_n 0, 1) := by decide +kernel
theorem dX6_readClause_142 : decode cX6_readClause 142 = .ok (.getfield 16, 3) := by decide +kernel
theorem dX6_readClause_145 : decode cX6_readClause 145 = .ok (.getfield 133, 3) := by decide +kernel
theorem dX6_readClause_148 : decode cX6_readClause 148 = .ok (.iload_n 1, 1) := by decide +kernel
theorem dX6_readClause_149 : decode cX6_readClause 149 = .ok (.aload_n 0, 1) := by decide +kernel
theorem dX6_readClause_150 : decode cX6_readClause 150 = .ok (.getfield 16, 3) := by decide +kernel
theorem dX6_readClause_153 : decode cX6_readClause 153 = .ok (.getfield 136, 3) := by decide +kernel
theorem dX6_readClause_156 : decode cX6_readClause 156 = .ok (.iastore, 1) := by decide +kernel
theorem dX6_readClause_157 : decode cX6_readClause 157 = .ok (.aload_n 0, 1) := by decide +kernel
theorem dX6_readClause_158 : decode cX6_readClause 158 = .ok (.invokevirtual 137, 3) := by decide +kernel
theorem dX6_readClause_161 : decode cX6_readClause 161 = .ok (.aload_n 0, 1) := by decide +kernel
theorem dX6_readClause_162 : decode cX6_readClause 162 = .ok (.getfield 16, 3) := by decide +kernel
theorem dX6_readClause_165 : decode cX6_readClause 165 = .ok (.iconst 0, 1) := by decide +kernel
theorem dX6_readClause_166 : decode cX6_readClause 166 = .ok (.iconst 0, 1) := by decide +kernel
theorem dX6_readClause_167 : decode cX6_readClause 167 = .ok (.invokevirtual 140, 3) := by decide +kernel
theorem dX6_readClause_120 : decode cX6_readClause 120 = .ok (.ifCond .ne 8, 3) := by decide +kernel
theorem dX6_readClause_123 : decode cX6_readClause 123 = .ok (.aload_n 0, 1) := by decide +kernel
theorem dX6_readClause_124 : decode cX6_readClause 124 = .ok (.iload_n 1, 1) := by decide +kernel
theorem dX6_readClause_125 : decode cX6_readClause 125 = .ok (.invokevirtual 128, 3) := by decide +kernel
theorem dX6_readClause_89 : decode cX6_readClause 89 = .ok (.ifCond .eq 27, 3) := by decide +kernel
theorem dX6_readClause_92 : decode cX6_readClause 92 = .ok (.aload_n 0, 1) := by decide +kernel
theorem dX6_readClause_93 : decode cX6_readClause 93 = .ok (.ldc 120, 2) := by decide +kernel
theorem dX6_readClause_95 : decode cX6_readClause 95 = .ok (.invokevirtual 122, 3) := by decide +kernel
theorem dX6_readClause_98 : decode cX6_readClause 98 = .ok (.aload_n 0, 1) := by decide +kernel
theorem dX6_readClause_99 : decode cX6_readClause 99 = .ok (.iload_n 1, 1) := by decide +kernel
theorem dX6_readClause_100 : decode cX6_readClause 100 = .ok (.iconst 1, 1) := by decide +kernel
theorem dX6_readClause_101 : decode cX6_readClause 101 = .ok (.invokevirtual 117, 3) := by decide +kernel
theorem dX6_readClause_104 : decode cX6_readClause 104 = .ok (.aload_n 0, 1) := by decide +kernel
theorem dX6_readClause_105 : decode cX6_readClause 105 = .ok (.ldc 126, 2) := by decide +kernel
theorem dX6_readClause_107 : decode cX6_readClause 107 = .ok (.invokevirtual 122, 3) := by decide +kernel
theorem dX6_readClause_110 : decode cX6_readClause 110 = .ok (.aload_n 0, 1) := by decide +kernel
theorem dX6_readClause_111 : decode cX6_readClause 111 = .ok (.iload_n 1, 1) := by decide +kernel
theorem dX6_readClause_112 : decode cX6_readClause 112 = .ok (.iconst 2, 1) := by decide +kernel
theorem dX6_readClause_113 : decode cX6_readClause 113 = .ok (.invokevirtual 117, 3) := by decide +kernel
theorem dX6_readClause_62 : decode cX6_readClause 62 = .ok (.ifCond .eq 11, 3) := by decide +kernel
theorem dX6_readClause_73 : decode cX6_readClause 73 = .ok (.iload_n 3, 1) := by decide +kernel
theorem dX6_readClause_74 : decode cX6_readClause 74 = .ok (.ifCond .ne 8, 3) := by decide +kernel
theorem dX6_readClause_82 : decode cX6_readClause 82 = .ok (.aload_n 0, 1) := by decide +kernel
theorem dX6_readClause_83 : decode cX6_readClause 83 = .ok (.iload_n 1, 1) := by decide +kernel
theorem dX6_readClause_84 : decode cX6_readClause 84 = .ok (.iconst 0, 1) := by decide +kernel
theorem dX6_readClause_85 : decode cX6_readClause 85 = .ok (.invokevirtual 117, 3) := by decide +kernel
theorem dX6_readClause_77 : decode cX6_readClause 77 = .ok (.iload_n 2, 1) := by decide +kernel
theorem dX6_readClause_78 : decode cX6_readClause 78 = .ok (.iconst 1, 1) := by decide +kernel
theorem dX6_readClause_79 : decode cX6_readClause 79 = .ok (.if_icmp .ne 9, 3) := by decide +kernel
theorem dX6_readClause_65 : decode cX6_readClause 65 = .ok (.iload_n 2, 1) := by decide +kernel
theorem dX6_readClause_66 : decode cX6_readClause 66 = .ok (.iconst 3, 1) := by decide +kernel
theorem dX6_readClause_67 : decode cX6_readClause 67 = .ok (.if_icmp .eq 21, 3) := by decide +kernel
theorem dX6_readClause_70 : decode cX6_readClause 70 = .ok (.goto 12, 3) := by decide +kernel
theorem dX6_readClause_45 : decode cX6_readClause 45 = .ok (.ifCond .ne 11, 3) := by decide +kernel
theorem dX6_readClause_56 : decode cX6_readClause 56 = .ok (.iconst 0, 1) := by decide +kernel
theorem dX6_readClause_48 : decode cX6_readClause 48 = .ok (.iload_n 2, 1) := by decide +kernel
theorem dX6_readClause_49 : decode cX6_readClause 49 = .ok (.ifCond .ne 7, 3) := by decide +kernel
theorem dX6_readClause_52 : decode cX6_readClause 52 = .ok (.iconst 1, 1) := by decide +kernel
theorem dX6_readClause_53 : decode cX6_readClause 53 = .ok (.goto 4, 3) := by decide +kernel
theorem dX6_readClause_24 : decode cX6_readClause 24 = .ok (.aload_n 0, 1) := by decide +kernel
theorem dX6_readClause_25 : decode cX6_readClause 25 = .ok (.invokevirtual 60, 3) := by decide +kernel
theorem dX6_readClause_28 : decode cX6_readClause 28 = .ok (.return_, 1) := by decide +kernel
theorem dX6_readClause_8 : decode cX6_readClause 8 = .ok (.ldc 108, 2) := by decide +kernel
theorem dX6_readClause_10 : decode cX6_readClause 10 = .ok (.goto 5, 3) := by decide +kernel
set_option maxHeartbeats 4000000 in
set_option maxRecDepth 100000 in
theorem k_X6_readClause_0 (l : Launch) (D : va_G) (cy : Nat → ClassId) (ld : Nat → Nat) (t : tk_T) (a0 : Nat) (p1 : Int32) (ht_a0 : t a0 = (7, 0, 0)) (hp_0 : 0 ≤ p1.toInt) (hp_1 : p1.toInt ≤ 11) : Met l yX6_readClause (wl yX6_readClause cX6_readClause 4 none) ({ frames := 39, cells := 0, slots := 0, locals := 2660 }) (tp D cy ld t [] [.ref a0, .int p1] (fun H => tk_f D H a0 6 9 (.int 0))) (tv D cy ld t [] (fun H => tk_f D H a0 6 9 (.int 0)) (tk_w t [(20, 0, 0), (8, 12, 12), (23, 0, 0), (7, 0, 0)])) 0 0 (tk_w t [(20, 0, 0), (8, 12, 12), (23, 0, 0), (7, 0, 0)]) := by
  refine tk_met (y := yX6_readClause) (cc := cX6_readClause) (maxL := 4) (ret := none) (av := [.ref a0, .int p1]) _ _ (by decide) (Nat.le_of_ble_eq_true rfl) ?_
  intro p e s m args below meth c hx hb hr hml hts htl hown hlocks hK H locs hH hG hS hB hZ ls hl
  have hown : s.vm.findClass RX6 = some m.cls := hown
  have hl : lv_has ls 4 [(0, .ref a0), (1, .int p1)] := hl
  have hg_0 := hB
  have hr_p1 := tk_rng p1
  refine lv_aload_n hx hb dX6_readClause_0 rfl (lv_at hl 0 rfl) ?_
  refine lv_aload_n hx hb dX6_readClause_1 rfl (lv_at hl 0 rfl) ?_
  refine tk_get (ci := 6) (C := RX6) (T := TX6) (N := 11) (sp := (0, 0, 1, 0)) hx hb htl inX6 hown hK hG ht_a0 (by decide) tk_no rfl 3 (by decide) (htl _ mw_477) (fun _ h9 => h9) rfl dX6_readClause_2 (fun v9 hf1 hV9 => ?_)
  obtain ⟨v2, rfl, (ha_v2 : 0 ≤ v2.toInt), (hb_v2 : v2.toInt ≤ 1)⟩ := hV9
  refine lv_if_eq (tgt := 13) hx hb dX6_readClause_5 (by decide) (fun c9 => ?_) (fun c9 => ?_)
  · have hc3 : v2.toInt = 0 := (fi_eq rfl (show (0 : Int32).toInt = 0 by decide)).mp c9
    refine va_ldcS hx hb hown hK.2.2.2.2.2.1 dX6_readClause_13 ?_
    refine tk_Vi (As := [.ref (ld 1)]) (rest := []) (ci := 6) ⟨hx, hb, hml, hown, hts⟩ hK hG hZ hS (k_X6_wordAmong_1 l D cy ld t a0 ht_a0) trivial ⟨callB_of 1 hts (wl_in mw_517) rfl rfl rfl (htl _ mw_36) (htl _ mw_514) hd_yX6_wordAmong ⟨(Nat.le_of_ble_eq_true rfl), (Nat.le_of_ble_eq_true rfl)⟩, htl _ mw_515, htl _ mw_516⟩ ht_a0 (by decide) tk_no rfl (tk_w.pick [] rfl) rfl hl.1 rfl (Nat.le_of_ble_eq_true rfl) dX6_readClause_15 ⟨(Nat.le_of_ble_eq_true rfl), (Nat.le_of_ble_eq_true rfl)⟩ (fun v4 H locs hpo hG hS hq9 => ?_)
    have hg_0 := hg_0.call hq9 tk_w.nil
    obtain ⟨hpo6, hpo7⟩ := hpo
    refine lv_istore_n (lv' := [(2, .int v4), (0, .ref a0), (1, .int p1)]) hx hb dX6_readClause_18 rfl hl (by decide) rfl (fun ls hl => ?_)
    refine lv_iload_n hx hb dX6_readClause_19 rfl (lv_at hl 0 rfl) ?_
    refine lv_iconst (v := (-1)) hx hb dX6_readClause_20 (by decide) ?_
    refine lv_icmp_ne (tgt := 29) hx hb dX6_readClause_21 (by decide) (fun c9 => ?_) (fun c9 => ?_)
    · have hc8 : ¬ (v4.toInt = (-1)) := fun h9 => c9 ((fi_eq rfl (show ((-1) : Int32).toInt = (-1) by decide)).mpr h9)
      refine lv_aload_n hx hb dX6_readClause_29 rfl (lv_at hl 1 rfl) ?_
      refine tk_get (ci := 6) (C := RX6) (T := TX6) (N := 11) (sp := (6, 8, 512, 12)) hx hb htl inX6 hown hK hG ht_a0 (by decide) tk_no rfl 0 (by decide) (htl _ mw_132) (fun _ h9 => h9) rfl dX6_readClause_30 (fun v9 hf9 hV9 => ?_)
      obtain ⟨b10, rfl, ht_b10⟩ := hV9
      have ht_b10 : t b10 = (8, 512, 12) := ht_b10
      refine lv_iload_n hx hb dX6_readClause_33 rfl (lv_at hl 0 rfl) ?_
      refine tk_Vv (As := [.int v4]) (rest := []) (ci := 7) ⟨hx, hb, hml, hown, hts⟩ hK hG hZ hS (k_X7_openClause l D cy ld t b10 v4 ht_b10) trivial ⟨callB_of 1 hts (wl_in mw_574) rfl rfl rfl (htl _ mw_131) (htl _ mw_571) hd_yX7_openClause ⟨(Nat.le_of_ble_eq_true rfl), (Nat.le_of_ble_eq_true rfl)⟩, htl _ mw_572, htl _ mw_573⟩ ht_b10 (by decide) tk_no rfl (tk_w.pick [0, 1, 2] rfl) rfl hl.1 rfl (Nat.le_of_ble_eq_true rfl) dX6_readClause_34 ⟨(Nat.le_of_ble_eq_true rfl), (Nat.le_of_ble_eq_true rfl)⟩ (fun H locs hpo hG hS hq9 => ?_)
      have hg_0 := hg_0.call hq9 (tk_w.no ht_a0 (by decide))
      refine lv_aload_n hx hb dX6_readClause_37 rfl (lv_at hl 1 rfl) ?_
      have hk_0 : (0 : Int32).toInt = 0 := by decide
      refine tk_Vv (As := []) (rest := []) (ci := 6) ⟨hx, hb, hml, hown, hts⟩ hK hG hZ hS (k_X6_step l D cy ld t a0 0 ht_a0 (by omega) (by omega)) hg_0 ⟨callB_of 0 hts (wl_in mw_494) rfl rfl rfl (htl _ mw_36) (htl _ mw_491) hd_yX6_step ⟨(Nat.le_of_ble_eq_true rfl), (Nat.le_of_ble_eq_true rfl)⟩, htl _ mw_492, htl _ mw_493⟩ ht_a0 (by decide) tk_no rfl (tk_w.pick [3] rfl) rfl hl.1 rfl (Nat.le_of_ble_eq_true rfl) dX6_readClause_38 ⟨(Nat.le_of_ble_eq_true rfl), (Nat.le_of_ble_eq_true rfl)⟩ (fun H locs hpo hG hS hq9 => ?_)
      have hf13 := hpo
      refine lv_aload_n hx hb dX6_readClause_41 rfl (lv_at hl 1 rfl) ?_
      refine tk_get (ci := 6) (C := RX6) (T := TX6) (N := 11) (sp := (0, 0, 1, 0)) hx hb htl inX6 hown hK hG ht_a0 (by decide) tk_no rfl 3 (by decide) (htl _ mw_477) (fun _ h9 => h9) rfl dX6_readClause_42 (fun v9 hf14 hV9 => ?_)
      obtain ⟨v15, rfl, (ha_v15 : 0 ≤ v15.toInt), (hb_v15 : v15.toInt ≤ 1)⟩ := hV9
      have hj20 : ∀ (v19 : Int32), 0 ≤ v19.toInt → v19.toInt ≤ 1 → ∀ ls : Array Slot, lv_has ls 4 [(2, .int v4), (0, .ref a0), (1, .int p1)] → W p l e ({ frames := 39, cells := 0, slots := 0, locals := 2660 }) s m args below meth c H locs 0 0 (MQ below (tv D cy ld t [] (fun H => tk_f D H a0 6 9 (.int 0)) (tk_w t [(20, 0, 0), (8, 12, 12), (23, 0, 0), (7, 0, 0)])) args s 0 0 (tk_w t [(20, 0, 0), (8, 12, 12), (23, 0, 0), (7, 0, 0)])) (F0 m 57 ls [.int v19]) := by
        intro v19 hq0_j20 hq1_j20 ls hl
        refine lv_istore_n (lv' := [(3, .int v19), (2, .int v4), (0, .ref a0), (1, .int p1)]) hx hb dX6_readClause_57 rfl hl (by decide) rfl (fun ls hl => ?_)
        refine lv_aload_n hx hb dX6_readClause_58 rfl (lv_at hl 2 rfl) ?_
        refine tk_get (ci := 6) (C := RX6) (T := TX6) (N := 11) (sp := (0, 0, 1, 0)) hx hb htl inX6 hown hK hG ht_a0 (by decide) tk_no rfl 3 (by decide) (htl _ mw_477) (fun _ h9 => h9) rfl dX6_readClause_59 (fun v9 hf21 hV9 => ?_)
        obtain ⟨v22, rfl, (ha_v22 : 0 ≤ v22.toInt), (hb_v22 : v22.toInt ≤ 1)⟩ := hV9
        have hj35 : ∀ (H : Heap) (locs : List Loc), tk_G D cy ld t [] H → va_S (tk_w t [(20, 0, 0), (8, 12, 12), (23, 0, 0), (7, 0, 0)]) s.heap H locs → tk_f D H a0 6 9 (.int 0) → ∀ ls : Array Slot, lv_has ls 4 [(3, .int v19), (0, .ref a0), (1, .int p1)] → W p l e ({ frames := 39, cells := 0, slots := 0, locals := 2660 }) s m args below meth c H locs 0 0 (MQ below (tv D cy ld t [] (fun H => tk_f D H a0 6 9 (.int 0)) (tk_w t [(20, 0, 0), (8, 12, 12), (23, 0, 0), (7, 0, 0)])) args s 0 0 (tk_w t [(20, 0, 0), (8, 12, 12), (23, 0, 0), (7, 0, 0)])) (F0 m 88 ls []) := by
          intro H locs hG hS hf26 ls hl
          refine lv_iload_n hx hb dX6_readClause_88 rfl (lv_at hl 0 rfl) ?_
          have hj47 : ∀ (H : Heap) (locs : List Loc), tk_G D cy ld t [] H → va_S (tk_w t [(20, 0, 0), (8, 12, 12), (23, 0, 0), (7, 0, 0)]) s.heap H locs → tk_f D H a0 6 9 (.int 0) → ∀ ls : Array Slot, lv_has ls 4 [(0, .ref a0), (1, .int p1)] → W p l e ({ frames := 39, cells := 0, slots := 0, locals := 2660 }) s m args below meth c H locs 0 0 (MQ below (tv D cy ld t [] (fun H => tk_f D H a0 6 9 (.int 0)) (tk_w t [(20, 0, 0), (8, 12, 12), (23, 0, 0), (7, 0, 0)])) args s 0 0 (tk_w t [(20, 0, 0), (8, 12, 12), (23, 0, 0), (7, 0, 0)])) (F0 m 116 ls []) := by
            intro H locs hG hS hf26 ls hl
            refine lv_aload_n hx hb dX6_readClause_116 rfl (lv_at hl 0 rfl) ?_
            refine tk_get (ci := 6) (C := RX6) (T := TX6) (N := 11) (sp := (0, 0, 1, 0)) hx hb htl inX6 hown hK hG ht_a0 (by decide) tk_no rfl 3 (by decide) (htl _ mw_477) (fun _ h9 => h9) rfl dX6_readClause_117 (fun v9 hf48 hV9 => ?_)
            obtain ⟨v49, rfl, (ha_v49 : 0 ≤ v49.toInt), (hb_v49 : v49.toInt ≤ 1)⟩ := hV9
            have hj55 : ∀ (H : Heap) (locs : List Loc), tk_G D cy ld t [] H → va_S (tk_w t [(20, 0, 0), (8, 12, 12), (23, 0, 0), (7, 0, 0)]) s.heap H locs → tk_f D H a0 6 9 (.int 0) → ∀ ls : Array Slot, lv_has ls 4 [(0, .ref a0), (1, .int p1)] → W p l e ({ frames := 39, cells := 0, slots := 0, locals := 2660 }) s m args below meth c H locs 0 0 (MQ below (tv D cy ld t [] (fun H => tk_f D H a0 6 9 (.int 0)) (tk_w t [(20, 0, 0), (8, 12, 12), (23, 0, 0), (7, 0, 0)])) args s 0 0 (tk_w t [(20, 0, 0), (8, 12, 12), (23, 0, 0), (7, 0, 0)])) (F0 m 128 ls []) := by
              intro H locs hG hS hf26 ls hl
              refine lv_aload_n hx hb dX6_readClause_128 rfl (lv_at hl 0 rfl) ?_
              refine va_ldcS hx hb hown hK.2.2.2.2.2.2.2.2.2.2.2.1 dX6_readClause_129 ?_
              refine tk_Vi (As := [.ref (ld 7)]) (rest := []) (ci := 6) ⟨hx, hb, hml, hown, hts⟩ hK hG hZ hS (k_X6_isWord_7 l D cy ld t a0 ht_a0) trivial ⟨callB_of 1 hts (wl_in mw_626) rfl rfl rfl (htl _ mw_36) (htl _ mw_623) hd_yX6_isWord ⟨(Nat.le_of_ble_eq_true rfl), (Nat.le_of_ble_eq_true rfl)⟩, htl _ mw_624, htl _ mw_625⟩ ht_a0 (by decide) tk_no rfl (tk_w.pick [] rfl) rfl hl.1 rfl (Nat.le_of_ble_eq_true rfl) dX6_readClause_131 ⟨(Nat.le_of_ble_eq_true rfl), (Nat.le_of_ble_eq_true rfl)⟩ (fun v56 H locs hpo hG hS hq9 => ?_)
              have hf26 := hf26.call hq9 tk_w.nil
              obtain ⟨hpo58, hpo59, hpo60, hpo61⟩ := hpo
              refine lv_if_eq (tgt := 170) hx hb dX6_readClause_134 (by decide) (fun c9 => ?_) (fun c9 => ?_)
              · have hc62 : v56.toInt = 0 := (fi_eq rfl (show (0 : Int32).toInt = 0 by decide)).mp c9
                exact tk_vret hx hb hr hlocks (show tk_f D H a0 6 9 (.int 0) from hf26) hG hS dX6_readClause_170
              · have hc62 : ¬ (v56.toInt = 0) := fun h9 => c9 ((fi_eq rfl (show (0 : Int32).toInt = 0 by decide)).mpr h9)
                refine lv_aload_n hx hb dX6_readClause_137 rfl (lv_at hl 0 rfl) ?_
                have hk_0 : (0 : Int32).toInt = 0 := by decide
                refine tk_Vv (As := []) (rest := []) (ci := 6) ⟨hx, hb, hml, hown, hts⟩ hK hG hZ hS (k_X6_step l D cy ld t a0 0 ht_a0 (by omega) (by omega)) hf26 ⟨callB_of 0 hts (wl_in mw_494) rfl rfl rfl (htl _ mw_36) (htl _ mw_491) hd_yX6_step ⟨(Nat.le_of_ble_eq_true rfl), (Nat.le_of_ble_eq_true rfl)⟩, htl _ mw_492, htl _ mw_493⟩ ht_a0 (by decide) tk_no rfl (tk_w.pick [3] rfl) rfl hl.1 rfl (Nat.le_of_ble_eq_true rfl) dX6_readClause_138 ⟨(Nat.le_of_ble_eq_true rfl), (Nat.le_of_ble_eq_true rfl)⟩ (fun H locs hpo hG hS hq9 => ?_)
                have hf64 := hpo
                refine lv_aload_n hx hb dX6_readClause_141 rfl (lv_at hl 0 rfl) ?_
                refine tk_get (ci := 6) (C := RX6) (T := TX6) (N := 11) (sp := (6, 8, 512, 12)) hx hb htl inX6 hown hK hG ht_a0 (by decide) tk_no rfl 0 (by decide) (htl _ mw_132) (fun _ h9 => h9) rfl dX6_readClause_142 (fun v9 hf65 hV9 => ?_)
                obtain ⟨b66, rfl, ht_b66⟩ := hV9
                have ht_b66 : t b66 = (8, 512, 12) := ht_b66
                refine tk_get (ci := 7) (C := RX7) (T := TX7) (N := 10) (sp := (3, 20, 1, 0)) hx hb htl inX7 hown hK hG ht_b66 (by decide) tk_no rfl 4 (by decide) (htl _ mw_512) (fun _ h9 => h9) rfl dX6_readClause_145 (fun v9 hf67 hV9 => ?_)
                obtain ⟨b68, rfl, ht_b68⟩ := hV9
                have ht_b68 : t b68 = (20, 12, 0) := ht_b68
                refine lv_iload_n hx hb dX6_readClause_148 rfl (lv_at hl 1 rfl) ?_
                refine lv_aload_n hx hb dX6_readClause_149 rfl (lv_at hl 0 rfl) ?_
                refine tk_get (ci := 6) (C := RX6) (T := TX6) (N := 11) (sp := (6, 8, 512, 12)) hx hb htl inX6 hown hK hG ht_a0 (by decide) tk_no rfl 0 (by decide) (htl _ mw_132) (fun _ h9 => h9) rfl dX6_readClause_150 (fun v9 hf69 hV9 => ?_)
                obtain ⟨b70, rfl, ht_b70⟩ := hV9
                have ht_b70 : t b70 = (8, 512, 12) := ht_b70
                refine tk_get (ci := 7) (C := RX7) (T := TX7) (N := 10) (sp := (4, 0, 0, 0)) hx hb htl inX7 hown hK hG ht_b70 (by decide) tk_no rfl 6 (by decide) (htl _ mw_513) (fun _ h9 => h9) rfl dX6_readClause_153 (fun v9 hf71 hV9 => ?_)
                obtain ⟨v72, rfl, (ha_v72 : 0 ≤ v72.toInt), (hb_v72 : v72.toInt ≤ 512)⟩ := hV9
                refine tk_iast hx hb hK hG hS ht_b68 (by decide) (fun _ => Iff.rfl) tk_no rfl (by omega) (by omega) trivial (tk_w.of ht_b68 (by decide) (List.mem_of_getElem? (i := 0) rfl) (Nat.le_refl _) (Nat.le_refl _)) dX6_readClause_156 (fun H locs hG hS hq9 => ?_)
                have hf64 := hf64.kept (hq9 _ (tk_ne ht_a0 ht_b68 (Or.inl (by decide))))
                have hf71 := hf71.kept (hq9 _ (tk_ne ht_b70 ht_b68 (Or.inl (by decide))))
                refine lv_aload_n hx hb dX6_readClause_157 rfl (lv_at hl 0 rfl) ?_
                refine tk_Vv (As := []) (rest := []) (ci := 6) ⟨hx, hb, hml, hown, hts⟩ hK hG hZ hS (k_X6_readTest_0 l D cy ld t a0 ht_a0) hf64 ⟨callB_of 0 hts (wl_in mw_635) rfl rfl rfl (htl _ mw_36) (htl _ mw_632) hd_yX6_readTest ⟨(Nat.le_of_ble_eq_true rfl), (Nat.le_of_ble_eq_true rfl)⟩, htl _ mw_633, htl _ mw_634⟩ ht_a0 (by decide) tk_no rfl (tk_w.pick [3, 0, 1] rfl) rfl hl.1 rfl (Nat.le_of_ble_eq_true rfl) dX6_readClause_158 ⟨(Nat.le_of_ble_eq_true rfl), (Nat.le_of_ble_eq_true rfl)⟩ (fun H locs hpo hG hS hq9 => ?_)
                have hf75 := hpo
                refine lv_aload_n hx hb dX6_readClause_161 rfl (lv_at hl 0 rfl) ?_
                refine tk_get (ci := 6) (C := RX6) (T := TX6) (N := 11) (sp := (6, 8, 512, 12)) hx hb htl inX6 hown hK hG ht_a0 (by decide) tk_no rfl 0 (by decide) (htl _ mw_132) (fun _ h9 => h9) rfl dX6_readClause_162 (fun v9 hf76 hV9 => ?_)
                obtain ⟨b77, rfl, ht_b77⟩ := hV9
                have ht_b77 : t b77 = (8, 512, 12) := ht_b77
                refine lv_iconst (v := 0) hx hb dX6_readClause_165 (by decide) ?_
                refine lv_iconst (v := 0) hx hb dX6_readClause_166 (by decide) ?_
                have hk_0 : (0 : Int32).toInt = 0 := by decide
                have hk_0 : (0 : Int32).toInt = 0 := by decide
                refine tk_Vv (As := [.int 0, .int 0]) (rest := []) (ci := 7) ⟨hx, hb, hml, hown, hts⟩ hK hG hZ hS (k_X7_put l D cy ld t b77 0 0 ht_b77) trivial ⟨callB_of 2 hts (wl_in mw_594) rfl rfl rfl (htl _ mw_131) (htl _ mw_591) hd_yX7_put ⟨(Nat.le_of_ble_eq_true rfl), (Nat.le_of_ble_eq_true rfl)⟩, htl _ mw_592, htl _ mw_593⟩ ht_b77 (by decide) tk_no rfl (tk_w.pick [0, 1] rfl) rfl hl.1 rfl (Nat.le_of_ble_eq_true rfl) dX6_readClause_167 ⟨(Nat.le_of_ble_eq_true rfl), (Nat.le_of_ble_eq_true rfl)⟩ (fun H locs hpo hG hS hq9 => ?_)
                have hf75 := hf75.call hq9 (tk_w.no ht_a0 (by decide))
                exact tk_vret hx hb hr hlocks (show tk_f D H a0 6 9 (.int 0) from hf75) hG hS dX6_readClause_170
            refine lv_if_ne (tgt := 128) hx hb dX6_readClause_120 (by decide) (fun c9 => ?_) (fun c9 => ?_)
            · have hc50 : ¬ (v49.toInt = 0) := fun h9 => c9 ((fi_eq rfl (show (0 : Int32).toInt = 0 by decide)).mpr h9)
              exact hj55 _ _ hG hS hf26 _ (lv_sub hl [0, 1] rfl)
            · have hc50 : v49.toInt = 0 := (fi_eq rfl (show (0 : Int32).toInt = 0 by decide)).mp c9
              refine lv_aload_n hx hb dX6_readClause_123 rfl (lv_at hl 0 rfl) ?_
              refine lv_iload_n hx hb dX6_readClause_124 rfl (lv_at hl 1 rfl) ?_
              have hk_0 : (0 : Int32).toInt = 0 := by decide
              refine tk_Vv (As := [.int p1]) (rest := []) (ci := 6) ⟨hx, hb, hml, hown, hts⟩ hK hG hZ hS (k_X6_readTimes l D cy ld t a0 p1 0 ht_a0 (by omega) (by omega) (by omega) (by omega)) hf26 ⟨callB_of 1 hts (wl_in mw_630) rfl rfl rfl (htl _ mw_36) (htl _ mw_627) hd_yX6_readTimes ⟨(Nat.le_of_ble_eq_true rfl), (Nat.le_of_ble_eq_true rfl)⟩, htl _ mw_628, htl _ mw_629⟩ ht_a0 (by decide) tk_no rfl (tk_w.pick [3, 2] rfl) rfl hl.1 rfl (Nat.le_of_ble_eq_true rfl) dX6_readClause_125 ⟨(Nat.le_of_ble_eq_true rfl), (Nat.le_of_ble_eq_true rfl)⟩ (fun H locs hpo hG hS hq9 => ?_)
              have hf80 := hpo
              exact hj55 _ _ hG hS hf80 _ (lv_sub hl [0, 1] rfl)
          refine lv_if_eq (tgt := 116) hx hb dX6_readClause_89 (by decide) (fun c9 => ?_) (fun c9 => ?_)
          · have hc36 : v19.toInt = 0 := (fi_eq rfl (show (0 : Int32).toInt = 0 by decide)).mp c9
            exact hj47 _ _ hG hS hf26 _ (lv_sub hl [1, 2] rfl)
          · have hc36 : ¬ (v19.toInt = 0) := fun h9 => c9 ((fi_eq rfl (show (0 : Int32).toInt = 0 by decide)).mpr h9)
            refine lv_aload_n hx hb dX6_readClause_92 rfl (lv_at hl 1 rfl) ?_
            refine va_ldcS hx hb hown hK.2.2.2.2.2.2.2.2.1 dX6_readClause_93 ?_
            have hk_0 : (0 : Int32).toInt = 0 := by decide
            refine tk_Vv (As := [.ref (ld 4)]) (rest := []) (ci := 6) ⟨hx, hb, hml, hown, hts⟩ hK hG hZ hS (k_X6_takeWord_4 l D cy ld t a0 0 ht_a0 (by omega) (by omega)) hf26 ⟨callB_of 1 hts (wl_in mw_622) rfl rfl rfl (htl _ mw_36) (htl _ mw_619) hd_yX6_takeWord ⟨(Nat.le_of_ble_eq_true rfl), (Nat.le_of_ble_eq_true rfl)⟩, htl _ mw_620, htl _ mw_621⟩ ht_a0 (by decide) tk_no rfl (tk_w.pick [3] rfl) rfl hl.1 rfl (Nat.le_of_ble_eq_true rfl) dX6_readClause_95 ⟨(Nat.le_of_ble_eq_true rfl), (Nat.le_of_ble_eq_true rfl)⟩ (fun H locs hpo hG hS hq9 => ?_)
            have hf82 := hpo
            refine lv_aload_n hx hb dX6_readClause_98 rfl (lv_at hl 1 rfl) ?_
            refine lv_iload_n hx hb dX6_readClause_99 rfl (lv_at hl 2 rfl) ?_
            refine lv_iconst (v := 1) hx hb dX6_readClause_100 (by decide) ?_
            have hk_1 : (1 : Int32).toInt = 1 := by decide
            refine tk_Vv (As := [.int p1, .int 1]) (rest := []) (ci := 6) ⟨hx, hb, hml, hown, hts⟩ hK hG hZ hS (k_X6_readWholeSum_0 l D cy ld t a0 p1 1 ht_a0 (by omega) (by omega) (by omega) (by omega)) hf82 ⟨callB_of 2 hts (wl_in mw_578) rfl rfl rfl (htl _ mw_36) (htl _ mw_575) hd_yX6_readWholeSum ⟨(Nat.le_of_ble_eq_true rfl), (Nat.le_of_ble_eq_true rfl)⟩, htl _ mw_576, htl _ mw_577⟩ ht_a0 (by decide) tk_no rfl (tk_w.pick [0, 3, 1] rfl) rfl hl.1 rfl (Nat.le_of_ble_eq_true rfl) dX6_readClause_101 ⟨(Nat.le_of_ble_eq_true rfl), (Nat.le_of_ble_eq_true rfl)⟩ (fun H locs hpo hG hS hq9 => ?_)
            have hf84 := hpo
            refine lv_aload_n hx hb dX6_readClause_104 rfl (lv_at hl 1 rfl) ?_
            refine va_ldcS hx hb hown hK.2.2.2.2.2.2.2.2.2.1 dX6_readClause_105 ?_
            have hk_0 : (0 : Int32).toInt = 0 := by decide
            refine tk_Vv (As := [.ref (ld 5)]) (rest := []) (ci := 6) ⟨hx, hb, hml, hown, hts⟩ hK hG hZ hS (k_X6_takeWord_5 l D cy ld t a0 0 ht_a0 (by omega) (by omega)) hf84 ⟨callB_of 1 hts (wl_in mw_622) rfl rfl rfl (htl _ mw_36) (htl _ mw_619) hd_yX6_takeWord ⟨(Nat.le_of_ble_eq_true rfl), (Nat.le_of_ble_eq_true rfl)⟩, htl _ mw_620, htl _ mw_621⟩ ht_a0 (by decide) tk_no rfl (tk_w.pick [3] rfl) rfl hl.1 rfl (Nat.le_of_ble_eq_true rfl) dX6_readClause_107 ⟨(Nat.le_of_ble_eq_true rfl), (Nat.le_of_ble_eq_true rfl)⟩ (fun H locs hpo hG hS hq9 => ?_)
            have hf86 := hpo
            refine lv_aload_n hx hb dX6_readClause_110 rfl (lv_at hl 1 rfl) ?_
            refine lv_iload_n hx hb dX6_readClause_111 rfl (lv_at hl 2 rfl) ?_
            refine lv_iconst (v := 2) hx hb dX6_readClause_112 (by decide) ?_
            have hk_2 : (2 : Int32).toInt = 2 := by decide
            refine tk_Vv (As := [.int p1, .int 2]) (rest := []) (ci := 6) ⟨hx, hb, hml, hown, hts⟩ hK hG hZ hS (k_X6_readWholeSum_0 l D cy ld t a0 p1 2 ht_a0 (by omega) (by omega) (by omega) (by omega)) hf86 ⟨callB_of 2 hts (wl_in mw_578) rfl rfl rfl (htl _ mw_36) (htl _ mw_575) hd_yX6_readWholeSum ⟨(Nat.le_of_ble_eq_true rfl), (Nat.le_of_ble_eq_true rfl)⟩, htl _ mw_576, htl _ mw_577⟩ ht_a0 (by decide) tk_no rfl (tk_w.pick [0, 3, 1] rfl) rfl hl.1 rfl (Nat.le_of_ble_eq_true rfl) dX6_readClause_113 ⟨(Nat.le_of_ble_eq_true rfl), (Nat.le_of_ble_eq_true rfl)⟩ (fun H locs hpo hG hS hq9 => ?_)
            have hf88 := hpo
            exact hj47 _ _ hG hS hf88 _ (lv_sub hl [1, 2] rfl)
        refine lv_if_eq (tgt := 73) hx hb dX6_readClause_62 (by decide) (fun c9 => ?_) (fun c9 => ?_)
        · have hc23 : v22.toInt = 0 := (fi_eq rfl (show (0 : Int32).toInt = 0 by decide)).mp c9
          refine lv_iload_n hx hb dX6_readClause_73 rfl (lv_at hl 0 rfl) ?_
          refine lv_if_ne (tgt := 82) hx hb dX6_readClause_74 (by decide) (fun c9 => ?_) (fun c9 => ?_)
          · have hc89 : ¬ (v19.toInt = 0) := fun h9 => c9 ((fi_eq rfl (show (0 : Int32).toInt = 0 by decide)).mpr h9)
            refine lv_aload_n hx hb dX6_readClause_82 rfl (lv_at hl 2 rfl) ?_
            refine lv_iload_n hx hb dX6_readClause_83 rfl (lv_at hl 3 rfl) ?_
            refine lv_iconst (v := 0) hx hb dX6_readClause_84 (by decide) ?_
            have hk_0 : (0 : Int32).toInt = 0 := by decide
            refine tk_Vv (As := [.int p1, .int 0]) (rest := []) (ci := 6) ⟨hx, hb, hml, hown, hts⟩ hK hG hZ hS (k_X6_readWholeSum_0 l D cy ld t a0 p1 0 ht_a0 (by omega) (by omega) (by omega) (by omega)) hf13 ⟨callB_of 2 hts (wl_in mw_578) rfl rfl rfl (htl _ mw_36) (htl _ mw_575) hd_yX6_readWholeSum ⟨(Nat.le_of_ble_eq_true rfl), (Nat.le_of_ble_eq_true rfl)⟩, htl _ mw_576, htl _ mw_577⟩ ht_a0 (by decide) tk_no rfl (tk_w.pick [0, 3, 1] rfl) rfl hl.1 rfl (Nat.le_of_ble_eq_true rfl) dX6_readClause_85 ⟨(Nat.le_of_ble_eq_true rfl), (Nat.le_of_ble_eq_true rfl)⟩ (fun H locs hpo hG hS hq9 => ?_)
            have hf91 := hpo
            exact hj35 _ _ hG hS hf91 _ (lv_sub hl [0, 2, 3] rfl)
          · have hc89 : v19.toInt = 0 := (fi_eq rfl (show (0 : Int32).toInt = 0 by decide)).mp c9
            refine lv_iload_n hx hb dX6_readClause_77 rfl (lv_at hl 1 rfl) ?_
            refine lv_iconst (v := 1) hx hb dX6_readClause_78 (by decide) ?_
            refine lv_icmp_ne (tgt := 88) hx hb dX6_readClause_79 (by decide) (fun c9 => ?_) (fun c9 => ?_)
            · have hc92 : ¬ (v4.toInt = 1) := fun h9 => c9 ((fi_eq rfl (show (1 : Int32).toInt = 1 by decide)).mpr h9)
              exact hj35 _ _ hG hS hf13 _ (lv_sub hl [0, 2, 3] rfl)
            · have hc92 : v4.toInt = 1 := (fi_eq rfl (show (1 : Int32).toInt = 1 by decide)).mp c9
              refine lv_aload_n hx hb dX6_readClause_82 rfl (lv_at hl 2 rfl) ?_
              refine lv_iload_n hx hb dX6_readClause_83 rfl (lv_at hl 3 rfl) ?_
              refine lv_iconst (v := 0) hx hb dX6_readClause_84 (by decide) ?_
              have hk_0 : (0 : Int32).toInt = 0 := by decide
              refine tk_Vv (As := [.int p1, .int 0]) (rest := []) (ci := 6) ⟨hx, hb, hml, hown, hts⟩ hK hG hZ hS (k_X6_readWholeSum_0 l D cy ld t a0 p1 0 ht_a0 (by omega) (by omega) (by omega) (by omega)) hf13 ⟨callB_of 2 hts (wl_in mw_578) rfl rfl rfl (htl _ mw_36) (htl _ mw_575) hd_yX6_readWholeSum ⟨(Nat.le_of_ble_eq_true rfl), (Nat.le_of_ble_eq_true rfl)⟩, htl _ mw_576, htl _ mw_577⟩ ht_a0 (by decide) tk_no rfl (tk_w.pick [0, 3, 1] rfl) rfl hl.1 rfl (Nat.le_of_ble_eq_true rfl) dX6_readClause_85 ⟨(Nat.le_of_ble_eq_true rfl), (Nat.le_of_ble_eq_true rfl)⟩ (fun H locs hpo hG hS hq9 => ?_)
              have hf94 := hpo
              exact hj35 _ _ hG hS hf94 _ (lv_sub hl [0, 2, 3] rfl)
        · have hc23 : ¬ (v22.toInt = 0) := fun h9 => c9 ((fi_eq rfl (show (0 : Int32).toInt = 0 by decide)).mpr h9)
          refine lv_iload_n hx hb dX6_readClause_65 rfl (lv_at hl 1 rfl) ?_
          refine lv_iconst (v := 3) hx hb dX6_readClause_66 (by decide) ?_
          refine lv_icmp_eq (tgt := 88) hx hb dX6_readClause_67 (by decide) (fun c9 => ?_) (fun c9 => ?_)
          · have hc95 : v4.toInt = 3 := (fi_eq rfl (show (3 : Int32).toInt = 3 by decide)).mp c9
            exact hj35 _ _ hG hS hf13 _ (lv_sub hl [0, 2, 3] rfl)
          · have hc95 : ¬ (v4.toInt = 3) := fun h9 => c9 ((fi_eq rfl (show (3 : Int32).toInt = 3 by decide)).mpr h9)
            refine lv_goto (tgt := 82) hx hb dX6_readClause_70 (by decide) ?_
            refine lv_aload_n hx hb dX6_readClause_82 rfl (lv_at hl 2 rfl) ?_
            refine lv_iload_n hx hb dX6_readClause_83 rfl (lv_at hl 3 rfl) ?_
            refine lv_iconst (v := 0) hx hb dX6_readClause_84 (by decide) ?_
            have hk_0 : (0 : Int32).toInt = 0 := by decide
            refine tk_Vv (As := [.int p1, .int 0]) (rest := []) (ci := 6) ⟨hx, hb, hml, hown, hts⟩ hK hG hZ hS (k_X6_readWholeSum_0 l D cy ld t a0 p1 0 ht_a0 (by omega) (by omega) (by omega) (by omega)) hf13 ⟨callB_of 2 hts (wl_in mw_578) rfl rfl rfl (htl _ mw_36) (htl _ mw_575) hd_yX6_readWholeSum ⟨(Nat.le_of_ble_eq_true rfl), (Nat.le_of_ble_eq_true rfl)⟩, htl _ mw_576, htl _ mw_577⟩ ht_a0 (by decide) tk_no rfl (tk_w.pick [0, 3, 1] rfl) rfl hl.1 rfl (Nat.le_of_ble_eq_true rfl) dX6_readClause_85 ⟨(Nat.le_of_ble_eq_true rfl), (Nat.le_of_ble_eq_true rfl)⟩ (fun H locs hpo hG hS hq9 => ?_)
            have hf97 := hpo
            exact hj35 _ _ hG hS hf97 _ (lv_sub hl [0, 2, 3] rfl)
      refine lv_if_ne (tgt := 56) hx hb dX6_readClause_45 (by decide) (fun c9 => ?_) (fun c9 => ?_)
      · have hc16 : ¬ (v15.toInt = 0) := fun h9 => c9 ((fi_eq rfl (show (0 : Int32).toInt = 0 by decide)).mpr h9)
        refine lv_iconst (v := 0) hx hb dX6_readClause_56 (by decide) ?_
        have hk_0 : (0 : Int32).toInt = 0 := by decide
        exact hj20 0 (by omega) (by omega) _ (lv_sub hl [0, 1, 2] rfl)
      · have hc16 : v15.toInt = 0 := (fi_eq rfl (show (0 : Int32).toInt = 0 by decide)).mp c9
        refine lv_iload_n hx hb dX6_readClause_48 rfl (lv_at hl 0 rfl) ?_
        refine lv_if_ne (tgt := 56) hx hb dX6_readClause_49 (by decide) (fun c9 => ?_) (fun c9 => ?_)
        · have hc98 : ¬ (v4.toInt = 0) := fun h9 => c9 ((fi_eq rfl (show (0 : Int32).toInt = 0 by decide)).mpr h9)
          refine lv_iconst (v := 0) hx hb dX6_readClause_56 (by decide) ?_
          have hk_0 : (0 : Int32).toInt = 0 := by decide
          exact hj20 0 (by omega) (by omega) _ (lv_sub hl [0, 1, 2] rfl)
        · have hc98 : v4.toInt = 0 := (fi_eq rfl (show (0 : Int32).toInt = 0 by decide)).mp c9
          refine lv_iconst (v := 1) hx hb dX6_readClause_52 (by decide) ?_
          refine lv_goto (tgt := 57) hx hb dX6_readClause_53 (by decide) ?_
          have hk_1 : (1 : Int32).toInt = 1 := by decide
          exact hj20 1 (by omega) (by omega) _ (lv_sub hl [0, 1, 2] rfl)
    · have hc8 : v4.toInt = (-1) := (fi_eq rfl (show ((-1) : Int32).toInt = (-1) by decide)).mp c9
      refine lv_aload_n hx hb dX6_readClause_24 rfl (lv_at hl 1 rfl) ?_
      have hk_0 : (0 : Int32).toInt = 0 := by decide
      refine tk_Vv (As := []) (rest := []) (ci := 6) ⟨hx, hb, hml, hown, hts⟩ hK hG hZ hS (k_X6_fail l D cy ld t a0 0 ht_a0 (by omega) (by omega)) hg_0 ⟨callB_of 0 hts (wl_in mw_507) rfl rfl rfl (htl _ mw_36) (htl _ mw_504) hd_yX6_fail ⟨(Nat.le_of_ble_eq_true rfl), (Nat.le_of_ble_eq_true rfl)⟩, htl _ mw_505, htl _ mw_506⟩ ht_a0 (by decide) tk_no rfl (tk_w.pick [3] rfl) rfl hl.1 rfl (Nat.le_of_ble_eq_true rfl) dX6_readClause_25 ⟨(Nat.le_of_ble_eq_true rfl), (Nat.le_of_ble_eq_true rfl)⟩ (fun H locs hpo hG hS hq9 => ?_)
      have hf100 := hpo
      exact tk_vret hx hb hr hlocks (show tk_f D H a0 6 9 (.int 0) from hf100) hG hS dX6_readClause_28
  · have hc3 : ¬ (v2.toInt = 0) := fun h9 => c9 ((fi_eq rfl (show (0 : Int32).toInt = 0 by decide)).mpr h9)
    refine va_ldcS hx hb hown hK.2.2.2.2.1 dX6_readClause_8 ?_
    refine lv_goto (tgt := 15) hx hb dX6_readClause_10 (by decide) ?_
    refine tk_Vi (As := [.ref (ld 0)]) (rest := []) (ci := 6) ⟨hx, hb, hml, hown, hts⟩ hK hG hZ hS (k_X6_wordAmong_0 l D cy ld t a0 ht_a0) trivial ⟨callB_of 1 hts (wl_in mw_517) rfl rfl rfl (htl _ mw_36) (htl _ mw_514) hd_yX6_wordAmong ⟨(Nat.le_of_ble_eq_true rfl), (Nat.le_of_ble_eq_true rfl)⟩, htl _ mw_515, htl _ mw_516⟩ ht_a0 (by decide) tk_no rfl (tk_w.pick [] rfl) rfl hl.1 rfl (Nat.le_of_ble_eq_true rfl) dX6_readClause_15 ⟨(Nat.le_of_ble_eq_true rfl), (Nat.le_of_ble_eq_true rfl)⟩ (fun v101 H locs hpo hG hS hq9 => ?_)
    have hg_0 := hg_0.call hq9 tk_w.nil
    obtain ⟨hpo103, hpo104⟩ := hpo
    refine lv_istore_n (lv' := [(2, .int v101), (0, .ref a0), (1, .int p1)]) hx hb dX6_readClause_18 rfl hl (by decide) rfl (fun ls hl => ?_)
    refine lv_iload_n hx hb dX6_readClause_19 rfl (lv_at hl 0 rfl) ?_
    refine lv_iconst (v := (-1)) hx hb dX6_readClause_20 (by decide) ?_
    refine lv_icmp_ne (tgt := 29) hx hb dX6_readClause_21 (by decide) (fun c9 => ?_) (fun c9 => ?_)
    · have hc105 : ¬ (v101.toInt = (-1)) := fun h9 => c9 ((fi_eq rfl (show ((-1) : Int32).toInt = (-1) by decide)).mpr h9)
      refine lv_aload_n hx hb dX6_readClause_29 rfl (lv_at hl 1 rfl) ?_
      refine tk_get (ci := 6) (C := RX6) (T := TX6) (N := 11) (sp := (6, 8, 512, 12)) hx hb htl inX6 hown hK hG ht_a0 (by decide) tk_no rfl 0 (by decide) (htl _ mw_132) (fun _ h9 => h9) rfl dX6_readClause_30 (fun v9 hf106 hV9 => ?_)
      obtain ⟨b107, rfl, ht_b107⟩ := hV9
      have ht_b107 : t b107 = (8, 512, 12) := ht_b107
      refine lv_iload_n hx hb dX6_readClause_33 rfl (lv_at hl 0 rfl) ?_
      refine tk_Vv (As := [.int v101]) (rest := []) (ci := 7) ⟨hx, hb, hml, hown, hts⟩ hK hG hZ hS (k_X7_openClause l D cy ld t b107 v101 ht_b107) trivial ⟨callB_of 1 hts (wl_in mw_574) rfl rfl rfl (htl _ mw_131) (htl _ mw_571) hd_yX7_openClause ⟨(Nat.le_of_ble_eq_true rfl), (Nat.le_of_ble_eq_true rfl)⟩, htl _ mw_572, htl _ mw_573⟩ ht_b107 (by decide) tk_no rfl (tk_w.pick [0, 1, 2] rfl) rfl hl.1 rfl (Nat.le_of_ble_eq_true rfl) dX6_readClause_34 ⟨(Nat.le_of_ble_eq_true rfl), (Nat.le_of_ble_eq_true rfl)⟩ (fun H locs hpo hG hS hq9 => ?_)
      have hg_0 := hg_0.call hq9 (tk_w.no ht_a0 (by decide))
      refine lv_aload_n hx hb dX6_readClause_37 rfl (lv_at hl 1 rfl) ?_
      have hk_0 : (0 : Int32).toInt = 0 := by decide
      refine tk_Vv (As := []) (rest := []) (ci := 6) ⟨hx, hb, hml, hown, hts⟩ hK hG hZ hS (k_X6_step l D cy ld t a0 0 ht_a0 (by omega) (by omega)) hg_0 ⟨callB_of 0 hts (wl_in mw_494) rfl rfl rfl (htl _ mw_36) (htl _ mw_491) hd_yX6_step ⟨(Nat.le_of_ble_eq_true rfl), (Nat.le_of_ble_eq_true rfl)⟩, htl _ mw_492, htl _ mw_493⟩ ht_a0 (by decide) tk_no rfl (tk_w.pick [3] rfl) rfl hl.1 rfl (Nat.le_of_ble_eq_true rfl) dX6_readClause_38 ⟨(Nat.le_of_ble_eq_true rfl), (Nat.le_of_ble_eq_true rfl)⟩ (fun H locs hpo hG hS hq9 => ?_)
      have hf110 := hpo
      refine lv_aload_n hx hb dX6_readClause_41 rfl (lv_at hl 1 rfl) ?_
      refine tk_get (ci := 6) (C := RX6) (T := TX6) (N := 11) (sp := (0, 0, 1, 0)) hx hb htl inX6 hown hK hG ht_a0 (by decide) tk_no rfl 3 (by decide) (htl _ mw_477) (fun _ h9 => h9) rfl dX6_readClause_42 (fun v9 hf111 hV9 => ?_)
      obtain ⟨v112, rfl, (ha_v112 : 0 ≤ v112.toInt), (hb_v112 : v112.toInt ≤ 1)⟩ := hV9
      have hj117 : ∀ (v116 : Int32), 0 ≤ v116.toInt → v116.toInt ≤ 1 → ∀ ls : Array Slot, lv_has ls 4 [(2, .int v101), (0, .ref a0), (1, .int p1)] → W p l e ({ frames := 39, cells := 0, slots := 0, locals := 2660 }) s m args below meth c H locs 0 0 (MQ below (tv D cy ld t [] (fun H => tk_f D H a0 6 9 (.int 0)) (tk_w t [(20, 0, 0), (8, 12, 12), (23, 0, 0), (7, 0, 0)])) args s 0 0 (tk_w t [(20, 0, 0), (8, 12, 12), (23, 0, 0), (7, 0, 0)])) (F0 m 57 ls [.int v116]) := by
        intro v116 hq0_j117 hq1_j117 ls hl
        refine lv_istore_n (lv' := [(3, .int v116), (2, .int v101), (0, .ref a0), (1, .int p1)]) hx hb dX6_readClause_57 rfl hl (by decide) rfl (fun ls hl => ?_)
        refine lv_aload_n hx hb dX6_readClause_58 rfl (lv_at hl 2 rfl) ?_
        refine tk_get (ci := 6) (C := RX6) (T := TX6) (N := 11) (sp := (0, 0, 1, 0)) hx hb htl inX6 hown hK hG ht_a0 (by decide) tk_no rfl 3 (by decide) (htl _ mw_477) (fun _ h9 => h9) rfl dX6_readClause_59 (fun v9 hf118 hV9 => ?_)
        obtain ⟨v119, rfl, (ha_v119 : 0 ≤ v119.toInt), (hb_v119 : v119.toInt ≤ 1)⟩ := hV9
        have hj132 : ∀ (H : Heap) (locs : List Loc), tk_G D cy ld t [] H → va_S (tk_w t [(20, 0, 0), (8, 12, 12), (23, 0, 0), (7, 0, 0)]) s.heap H locs → tk_f D H a0 6 9 (.int 0) → ∀ ls : Array Slot, lv_has ls 4 [(3, .int v116), (0, .ref a0), (1, .int p1)] → W p l e ({ frames := 39, cells := 0, slots := 0, locals := 2660 }) s m args below meth c H locs 0 0 (MQ below (tv D cy ld t [] (fun H => tk_f D H a0 6 9 (.int 0)) (tk_w t [(20, 0, 0), (8, 12, 12), (23, 0, 0), (7, 0, 0)])) args s 0 0 (tk_w t [(20, 0, 0), (8, 12, 12), (23, 0, 0), (7, 0, 0)])) (F0 m 88 ls []) := by
          intro H locs hG hS hf123 ls hl
          refine lv_iload_n hx hb dX6_readClause_88 rfl (lv_at hl 0 rfl) ?_
          have hj144 : ∀ (H : Heap) (locs : List Loc), tk_G D cy ld t [] H → va_S (tk_w t [(20, 0, 0), (8, 12, 12), (23, 0, 0), (7, 0, 0)]) s.heap H locs → tk_f D H a0 6 9 (.int 0) → ∀ ls : Array Slot, lv_has ls 4 [(0, .ref a0), (1, .int p1)] → W p l e ({ frames := 39, cells := 0, slots := 0, locals := 2660 }) s m args below meth c H locs 0 0 (MQ below (tv D cy ld t [] (fun H => tk_f D H a0 6 9 (.int 0)) (tk_w t [(20, 0, 0), (8, 12, 12), (23, 0, 0), (7, 0, 0)])) args s 0 0 (tk_w t [(20, 0, 0), (8, 12, 12), (23, 0, 0), (7, 0, 0)])) (F0 m 116 ls []) := by
            intro H locs hG hS hf123 ls hl
            refine lv_aload_n hx hb dX6_readClause_116 rfl (lv_at hl 0 rfl) ?_
            refine tk_get (ci := 6) (C := RX6) (T := TX6) (N := 11) (sp := (0, 0, 1, 0)) hx hb htl inX6 hown hK hG ht_a0 (by decide) tk_no rfl 3 (by decide) (htl _ mw_477) (fun _ h9 => h9) rfl dX6_readClause_117 (fun v9 hf145 hV9 => ?_)
            obtain ⟨v146, rfl, (ha_v146 : 0 ≤ v146.toInt), (hb_v146 : v146.toInt ≤ 1)⟩ := hV9
            have hj152 : ∀ (H : Heap) (locs : List Loc), tk_G D cy ld t [] H → va_S (tk_w t [(20, 0, 0), (8, 12, 12), (23, 0, 0), (7, 0, 0)]) s.heap H locs → tk_f D H a0 6 9 (.int 0) → ∀ ls : Array Slot, lv_has ls 4 [(0, .ref a0), (1, .int p1)] → W p l e ({ frames := 39, cells := 0, slots := 0, locals := 2660 }) s m args below meth c H locs 0 0 (MQ below (tv D cy ld t [] (fun H => tk_f D H a0 6 9 (.int 0)) (tk_w t [(20, 0, 0), (8, 12, 12), (23, 0, 0), (7, 0, 0)])) args s 0 0 (tk_w t [(20, 0, 0), (8, 12, 12), (23, 0, 0), (7, 0, 0)])) (F0 m 128 ls []) := by
              intro H locs hG hS hf123 ls hl
              refine lv_aload_n hx hb dX6_readClause_128 rfl (lv_at hl 0 rfl) ?_
              refine va_ldcS hx hb hown hK.2.2.2.2.2.2.2.2.2.2.2.1 dX6_readClause_129 ?_
              refine tk_Vi (As := [.ref (ld 7)]) (rest := []) (ci := 6) ⟨hx, hb, hml, hown, hts⟩ hK hG hZ hS (k_X6_isWord_7 l D cy ld t a0 ht_a0) trivial ⟨callB_of 1 hts (wl_in mw_626) rfl rfl rfl (htl _ mw_36) (htl _ mw_623) hd_yX6_isWord ⟨(Nat.le_of_ble_eq_true rfl), (Nat.le_of_ble_eq_true rfl)⟩, htl _ mw_624, htl _ mw_625⟩ ht_a0 (by decide) tk_no rfl (tk_w.pick [] rfl) rfl hl.1 rfl (Nat.le_of_ble_eq_true rfl) dX6_readClause_131 ⟨(Nat.le_of_ble_eq_true rfl), (Nat.le_of_ble_eq_true rfl)⟩ (fun v153 H locs hpo hG hS hq9 => ?_)
              have hf123 := hf123.call hq9 tk_w.nil
              obtain ⟨hpo155, hpo156, hpo157, hpo158⟩ := hpo
              refine lv_if_eq (tgt := 170) hx hb dX6_readClause_134 (by decide) (fun c9 => ?_) (fun c9 => ?_)
              · have hc159 : v153.toInt = 0 := (fi_eq rfl (show (0 : Int32).toInt = 0 by decide)).mp c9
                exact tk_vret hx hb hr hlocks (show tk_f D H a0 6 9 (.int 0) from hf123) hG hS dX6_readClause_170
              · have hc159 : ¬ (v153.toInt = 0) := fun h9 => c9 ((fi_eq rfl (show (0 : Int32).toInt = 0 by decide)).mpr h9)
                refine lv_aload_n hx hb dX6_readClause_137 rfl (lv_at hl 0 rfl) ?_
                have hk_0 : (0 : Int32).toInt = 0 := by decide
                refine tk_Vv (As := []) (rest := []) (ci := 6) ⟨hx, hb, hml, hown, hts⟩ hK hG hZ hS (k_X6_step l D cy ld t a0 0 ht_a0 (by omega) (by omega)) hf123 ⟨callB_of 0 hts (wl_in mw_494) rfl rfl rfl (htl _ mw_36) (htl _ mw_491) hd_yX6_step ⟨(Nat.le_of_ble_eq_true rfl), (Nat.le_of_ble_eq_true rfl)⟩, htl _ mw_492, htl _ mw_493⟩ ht_a0 (by decide) tk_no rfl (tk_w.pick [3] rfl) rfl hl.1 rfl (Nat.le_of_ble_eq_true rfl) dX6_readClause_138 ⟨(Nat.le_of_ble_eq_true rfl), (Nat.le_of_ble_eq_true rfl)⟩ (fun H locs hpo hG hS hq9 => ?_)
                have hf161 := hpo
                refine lv_aload_n hx hb dX6_readClause_141 rfl (lv_at hl 0 rfl) ?_
                refine tk_get (ci := 6) (C := RX6) (T := TX6) (N := 11) (sp := (6, 8, 512, 12)) hx hb htl inX6 hown hK hG ht_a0 (by decide) tk_no rfl 0 (by decide) (htl _ mw_132) (fun _ h9 => h9) rfl dX6_readClause_142 (fun v9 hf162 hV9 => ?_)
                obtain ⟨b163, rfl, ht_b163⟩ := hV9
                have ht_b163 : t b163 = (8, 512, 12) := ht_b163
                refine tk_get (ci := 7) (C := RX7) (T := TX7) (N := 10) (sp := (3, 20, 1, 0)) hx hb htl inX7 hown hK hG ht_b163 (by decide) tk_no rfl 4 (by decide) (htl _ mw_512) (fun _ h9 => h9) rfl dX6_readClause_145 (fun v9 hf164 hV9 => ?_)
                obtain ⟨b165, rfl, ht_b165⟩ := hV9
                have ht_b165 : t b165 = (20, 12, 0) := ht_b165
                refine lv_iload_n hx hb dX6_readClause_148 rfl (lv_at hl 1 rfl) ?_
                refine lv_aload_n hx hb dX6_readClause_149 rfl (lv_at hl 0 rfl) ?_
                refine tk_get (ci := 6) (C := RX6) (T := TX6) (N := 11) (sp := (6, 8, 512, 12)) hx hb htl inX6 hown hK hG ht_a0 (by decide) tk_no rfl 0 (by decide) (htl _ mw_132) (fun _ h9 => h9) rfl dX6_readClause_150 (fun v9 hf166 hV9 => ?_)
                obtain ⟨b167, rfl, ht_b167⟩ := hV9
                have ht_b167 : t b167 = (8, 512, 12) := ht_b167
                refine tk_get (ci := 7) (C := RX7) (T := TX7) (N := 10) (sp := (4, 0, 0, 0)) hx hb htl inX7 hown hK hG ht_b167 (by decide) tk_no rfl 6 (by decide) (htl _ mw_513) (fun _ h9 => h9) rfl dX6_readClause_153 (fun v9 hf168 hV9 => ?_)
                obtain ⟨v169, rfl, (ha_v169 : 0 ≤ v169.toInt), (hb_v169 : v169.toInt ≤ 512)⟩ := hV9
                refine tk_iast hx hb hK hG hS ht_b165 (by decide) (fun _ => Iff.rfl) tk_no rfl (by omega) (by omega) trivial (tk_w.of ht_b165 (by decide) (List.mem_of_getElem? (i := 0) rfl) (Nat.le_refl _) (Nat.le_refl _)) dX6_readClause_156 (fun H locs hG hS hq9 => ?_)
                have hf161 := hf161.kept (hq9 _ (tk_ne ht_a0 ht_b165 (Or.inl (by decide))))
                have hf168 := hf168.kept (hq9 _ (tk_ne ht_b167 ht_b165 (Or.inl (by decide))))
                refine lv_aload_n hx hb dX6_readClause_157 rfl (lv_at hl 0 rfl) ?_
                refine tk_Vv (As := []) (rest := []) (ci := 6) ⟨hx, hb, hml, hown, hts⟩ hK hG hZ hS (k_X6_readTest_0 l D cy ld t a0 ht_a0) hf161 ⟨callB_of 0 hts (wl_in mw_635) rfl rfl rfl (htl _ mw_36) (htl _ mw_632) hd_yX6_readTest ⟨(Nat.le_of_ble_eq_true rfl), (Nat.le_of_ble_eq_true rfl)⟩, htl _ mw_633, htl _ mw_634⟩ ht_a0 (by decide) tk_no rfl (tk_w.pick [3, 0, 1] rfl) rfl hl.1 rfl (Nat.le_of_ble_eq_true rfl) dX6_readClause_158 ⟨(Nat.le_of_ble_eq_true rfl), (Nat.le_of_ble_eq_true rfl)⟩ (fun H locs hpo hG hS hq9 => ?_)
                have hf172 := hpo
                refine lv_aload_n hx hb dX6_readClause_161 rfl (lv_at hl 0 rfl) ?_
                refine tk_get (ci := 6) (C := RX6) (T := TX6) (N := 11) (sp := (6, 8, 512, 12)) hx hb htl inX6 hown hK hG ht_a0 (by decide) tk_no rfl 0 (by decide) (htl _ mw_132) (fun _ h9 => h9) rfl dX6_readClause_162 (fun v9 hf173 hV9 => ?_)
                obtain ⟨b174, rfl, ht_b174⟩ := hV9
                have ht_b174 : t b174 = (8, 512, 12) := ht_b174
                refine lv_iconst (v := 0) hx hb dX6_readClause_165 (by decide) ?_
                refine lv_iconst (v := 0) hx hb dX6_readClause_166 (by decide) ?_
                have hk_0 : (0 : Int32).toInt = 0 := by decide
                have hk_0 : (0 : Int32).toInt = 0 := by decide
                refine tk_Vv (As := [.int 0, .int 0]) (rest := []) (ci := 7) ⟨hx, hb, hml, hown, hts⟩ hK hG hZ hS (k_X7_put l D cy ld t b174 0 0 ht_b174) trivial ⟨callB_of 2 hts (wl_in mw_594) rfl rfl rfl (htl _ mw_131) (htl _ mw_591) hd_yX7_put ⟨(Nat.le_of_ble_eq_true rfl), (Nat.le_of_ble_eq_true rfl)⟩, htl _ mw_592, htl _ mw_593⟩ ht_b174 (by decide) tk_no rfl (tk_w.pick [0, 1] rfl) rfl hl.1 rfl (Nat.le_of_ble_eq_true rfl) dX6_readClause_167 ⟨(Nat.le_of_ble_eq_true rfl), (Nat.le_of_ble_eq_true rfl)⟩ (fun H locs hpo hG hS hq9 => ?_)
                have hf172 := hf172.call hq9 (tk_w.no ht_a0 (by decide))
                exact tk_vret hx hb hr hlocks (show tk_f D H a0 6 9 (.int 0) from hf172) hG hS dX6_readClause_170
            refine lv_if_ne (tgt := 128) hx hb dX6_readClause_120 (by decide) (fun c9 => ?_) (fun c9 => ?_)
            · have hc147 : ¬ (v146.toInt = 0) := fun h9 => c9 ((fi_eq rfl (show (0 : Int32).toInt = 0 by decide)).mpr h9)
              exact hj152 _ _ hG hS hf123 _ (lv_sub hl [0, 1] rfl)
            · have hc147 : v146.toInt = 0 := (fi_eq rfl (show (0 : Int32).toInt = 0 by decide)).mp c9
              refine lv_aload_n hx hb dX6_readClause_123 rfl (lv_at hl 0 rfl) ?_
              refine lv_iload_n hx hb dX6_readClause_124 rfl (lv_at hl 1 rfl) ?_
              have hk_0 : (0 : Int32).toInt = 0 := by decide
              refine tk_Vv (As := [.int p1]) (rest := []) (ci := 6) ⟨hx, hb, hml, hown, hts⟩ hK hG hZ hS (k_X6_readTimes l D cy ld t a0 p1 0 ht_a0 (by omega) (by omega) (by omega) (by omega)) hf123 ⟨callB_of 1 hts (wl_in mw_630) rfl rfl rfl (htl _ mw_36) (htl _ mw_627) hd_yX6_readTimes ⟨(Nat.le_of_ble_eq_true rfl), (Nat.le_of_ble_eq_true rfl)⟩, htl _ mw_628, htl _ mw_629⟩ ht_a0 (by decide) tk_no rfl (tk_w.pick [3, 2] rfl) rfl hl.1 rfl (Nat.le_of_ble_eq_true rfl) dX6_readClause_125 ⟨(Nat.le_of_ble_eq_true rfl), (Nat.le_of_ble_eq_true rfl)⟩ (fun H locs hpo hG hS hq9 => ?_)
              have hf177 := hpo
              exact hj152 _ _ hG hS hf177 _ (lv_sub hl [0, 1] rfl)
          refine lv_if_eq (tgt := 116) hx hb dX6_readClause_89 (by decide) (fun c9 => ?_) (fun c9 => ?_)
          · have hc133 : v116.toInt = 0 := (fi_eq rfl (show (0 : Int32).toInt = 0 by decide)).mp c9
            exact hj144 _ _ hG hS hf123 _ (lv_sub hl [1, 2] rfl)
          · have hc133 : ¬ (v116.toInt = 0) := fun h9 => c9 ((fi_eq rfl (show (0 : Int32).toInt = 0 by decide)).mpr h9)
            refine lv_aload_n hx hb dX6_readClause_92 rfl (lv_at hl 1 rfl) ?_
            refine va_ldcS hx hb hown hK.2.2.2.2.2.2.2.2.1 dX6_readClause_93 ?_
            have hk_0 : (0 : Int32).toInt = 0 := by decide
            refine tk_Vv (As := [.ref (ld 4)]) (rest := []) (ci := 6) ⟨hx, hb, hml, hown, hts⟩ hK hG hZ hS (k_X6_takeWord_4 l D cy ld t a0 0 ht_a0 (by omega) (by omega)) hf123 ⟨callB_of 1 hts (wl_in mw_622) rfl rfl rfl (htl _ mw_36) (htl _ mw_619) hd_yX6_takeWord ⟨(Nat.le_of_ble_eq_true rfl), (Nat.le_of_ble_eq_true rfl)⟩, htl _ mw_620, htl _ mw_621⟩ ht_a0 (by decide) tk_no rfl (tk_w.pick [3] rfl) rfl hl.1 rfl (Nat.le_of_ble_eq_true rfl) dX6_readClause_95 ⟨(Nat.le_of_ble_eq_true rfl), (Nat.le_of_ble_eq_true rfl)⟩ (fun H locs hpo hG hS hq9 => ?_)
            have hf179 := hpo
            refine lv_aload_n hx hb dX6_readClause_98 rfl (lv_at hl 1 rfl) ?_
            refine lv_iload_n hx hb dX6_readClause_99 rfl (lv_at hl 2 rfl) ?_
            refine lv_iconst (v := 1) hx hb dX6_readClause_100 (by decide) ?_
            have hk_1 : (1 : Int32).toInt = 1 := by decide
            refine tk_Vv (As := [.int p1, .int 1]) (rest := []) (ci := 6) ⟨hx, hb, hml, hown, hts⟩ hK hG hZ hS (k_X6_readWholeSum_0 l D cy ld t a0 p1 1 ht_a0 (by omega) (by omega) (by omega) (by omega)) hf179 ⟨callB_of 2 hts (wl_in mw_578) rfl rfl rfl (htl _ mw_36) (htl _ mw_575) hd_yX6_readWholeSum ⟨(Nat.le_of_ble_eq_true rfl), (Nat.le_of_ble_eq_true rfl)⟩, htl _ mw_576, htl _ mw_577⟩ ht_a0 (by decide) tk_no rfl (tk_w.pick [0, 3, 1] rfl) rfl hl.1 rfl (Nat.le_of_ble_eq_true rfl) dX6_readClause_101 ⟨(Nat.le_of_ble_eq_true rfl), (Nat.le_of_ble_eq_true rfl)⟩ (fun H locs hpo hG hS hq9 => ?_)
            have hf181 := hpo
            refine lv_aload_n hx hb dX6_readClause_104 rfl (lv_at hl 1 rfl) ?_
            refine va_ldcS hx hb hown hK.2.2.2.2.2.2.2.2.2.1 dX6_readClause_105 ?_
            have hk_0 : (0 : Int32).toInt = 0 := by decide
            refine tk_Vv (As := [.ref (ld 5)]) (rest := []) (ci := 6) ⟨hx, hb, hml, hown, hts⟩ hK hG hZ hS (k_X6_takeWord_5 l D cy ld t a0 0 ht_a0 (by omega) (by omega)) hf181 ⟨callB_of 1 hts (wl_in mw_622) rfl rfl rfl (htl _ mw_36) (htl _ mw_619) hd_yX6_takeWord ⟨(Nat.le_of_ble_eq_true rfl), (Nat.le_of_ble_eq_true rfl)⟩, htl _ mw_620, htl _ mw_621⟩ ht_a0 (by decide) tk_no rfl (tk_w.pick [3] rfl) rfl hl.1 rfl (Nat.le_of_ble_eq_true rfl) dX6_readClause_107 ⟨(Nat.le_of_ble_eq_true rfl), (Nat.le_of_ble_eq_true rfl)⟩ (fun H locs hpo hG hS hq9 => ?_)
            have hf183 := hpo
            refine lv_aload_n hx hb dX6_readClause_110 rfl (lv_at hl 1 rfl) ?_
            refine lv_iload_n hx hb dX6_readClause_111 rfl (lv_at hl 2 rfl) ?_
            refine lv_iconst (v := 2) hx hb dX6_readClause_112 (by decide) ?_
            have hk_2 : (2 : Int32).toInt = 2 := by decide
            refine tk_Vv (As := [.int p1, .int 2]) (rest := []) (ci := 6) ⟨hx, hb, hml, hown, hts⟩ hK hG hZ hS (k_X6_readWholeSum_0 l D cy ld t a0 p1 2 ht_a0 (by omega) (by omega) (by omega) (by omega)) hf183 ⟨callB_of 2 hts (wl_in mw_578) rfl rfl rfl (htl _ mw_36) (htl _ mw_575) hd_yX6_readWholeSum ⟨(Nat.le_of_ble_eq_true rfl), (Nat.le_of_ble_eq_true rfl)⟩, htl _ mw_576, htl _ mw_577⟩ ht_a0 (by decide) tk_no rfl (tk_w.pick [0, 3, 1] rfl) rfl hl.1 rfl (Nat.le_of_ble_eq_true rfl) dX6_readClause_113 ⟨(Nat.le_of_ble_eq_true rfl), (Nat.le_of_ble_eq_true rfl)⟩ (fun H locs hpo hG hS hq9 => ?_)
            have hf185 := hpo
            exact hj144 _ _ hG hS hf185 _ (lv_sub hl [1, 2] rfl)
        refine lv_if_eq (tgt := 73) hx hb dX6_readClause_62 (by decide) (fun c9 => ?_) (fun c9 => ?_)
        · have hc120 : v119.toInt = 0 := (fi_eq rfl (show (0 : Int32).toInt = 0 by decide)).mp c9
          refine lv_iload_n hx hb dX6_readClause_73 rfl (lv_at hl 0 rfl) ?_
          refine lv_if_ne (tgt := 82) hx hb dX6_readClause_74 (by decide) (fun c9 => ?_) (fun c9 => ?_)
          · have hc186 : ¬ (v116.toInt = 0) := fun h9 => c9 ((fi_eq rfl (show (0 : Int32).toInt = 0 by decide)).mpr h9)
            refine lv_aload_n hx hb dX6_readClause_82 rfl (lv_at hl 2 rfl) ?_
            refine lv_iload_n hx hb dX6_readClause_83 rfl (lv_at hl 3 rfl) ?_
            refine lv_iconst (v := 0) hx hb dX6_readClause_84 (by decide) ?_
            have hk_0 : (0 : Int32).toInt = 0 := by decide
            refine tk_Vv (As := [.int p1, .int 0]) (rest := []) (ci := 6) ⟨hx, hb, hml, hown, hts⟩ hK hG hZ hS (k_X6_readWholeSum_0 l D cy ld t a0 p1 0 ht_a0 (by omega) (by omega) (by omega) (by omega)) hf110 ⟨callB_of 2 hts (wl_in mw_578) rfl rfl rfl (htl _ mw_36) (htl _ mw_575) hd_yX6_readWholeSum ⟨(Nat.le_of_ble_eq_true rfl), (Nat.le_of_ble_eq_true rfl)⟩, htl _ mw_576, htl _ mw_577⟩ ht_a0 (by decide) tk_no rfl (tk_w.pick [0, 3, 1] rfl) rfl hl.1 rfl (Nat.le_of_ble_eq_true rfl) dX6_readClause_85 ⟨(Nat.le_of_ble_eq_true rfl), (Nat.le_of_ble_eq_true rfl)⟩ (fun H locs hpo hG hS hq9 => ?_)
            have hf188 := hpo
            exact hj132 _ _ hG hS hf188 _ (lv_sub hl [0, 2, 3] rfl)
          · have hc186 : v116.toInt = 0 := (fi_eq rfl (show (0 : Int32).toInt = 0 by decide)).mp c9
            refine lv_iload_n hx hb dX6_readClause_77 rfl (lv_at hl 1 rfl) ?_
            refine lv_iconst (v := 1) hx hb dX6_readClause_78 (by decide) ?_
            refine lv_icmp_ne (tgt := 88) hx hb dX6_readClause_79 (by decide) (fun c9 => ?_) (fun c9 => ?_)
            · have hc189 : ¬ (v101.toInt = 1) := fun h9 => c9 ((fi_eq rfl (show (1 : Int32).toInt = 1 by decide)).mpr h9)
              exact hj132 _ _ hG hS hf110 _ (lv_sub hl [0, 2, 3] rfl)
            · have hc189 : v101.toInt = 1 := (fi_eq rfl (show (1 : Int32).toInt = 1 by decide)).mp c9
              refine lv_aload_n hx hb dX6_readClause_82 rfl (lv_at hl 2 rfl) ?_
              refine lv_iload_n hx hb dX6_readClause_83 rfl (lv_at hl 3 rfl) ?_
              refine lv_iconst (v := 0) hx hb dX6_readClause_84 (by decide) ?_
              have hk_0 : (0 : Int32).toInt = 0 := by decide
              refine tk_Vv (As := [.int p1, .int 0]) (rest := []) (ci := 6) ⟨hx, hb, hml, hown, hts⟩ hK hG hZ hS (k_X6_readWholeSum_0 l D cy ld t a0 p1 0 ht_a0 (by omega) (by omega) (by omega) (by omega)) hf110 ⟨callB_of 2 hts (wl_in mw_578) rfl rfl rfl (htl _ mw_36) (htl _ mw_575) hd_yX6_readWholeSum ⟨(Nat.le_of_ble_eq_true rfl), (Nat.le_of_ble_eq_true rfl)⟩, htl _ mw_576, htl _ mw_577⟩ ht_a0 (by decide) tk_no rfl (tk_w.pick [0, 3, 1] rfl) rfl hl.1 rfl (Nat.le_of_ble_eq_true rfl) dX6_readClause_85 ⟨(Nat.le_of_ble_eq_true rfl), (Nat.le_of_ble_eq_true rfl)⟩ (fun H locs hpo hG hS hq9 => ?_)
              have hf191 := hpo
              exact hj132 _ _ hG hS hf191 _ (lv_sub hl [0, 2, 3] rfl)
        · have hc120 : ¬ (v119.toInt = 0) := fun h9 => c9 ((fi_eq rfl (show (0 : Int32).toInt = 0 by decide)).mpr h9)
          refine lv_iload_n hx hb dX6_readClause_65 rfl (lv_at hl 1 rfl) ?_
          refine lv_iconst (v := 3) hx hb dX6_readClause_66 (by decide) ?_
          refine lv_icmp_eq (tgt := 88) hx hb dX6_readClause_67 (by decide) (fun c9 => ?_) (fun c9 => ?_)
          · have hc192 : v101.toInt = 3 := (fi_eq rfl (show (3 : Int32).toInt = 3 by decide)).mp c9
            exact hj132 _ _ hG hS hf110 _ (lv_sub hl [0, 2, 3] rfl)
          · have hc192 : ¬ (v101.toInt = 3) := fun h9 => c9 ((fi_eq rfl (show (3 : Int32).toInt = 3 by decide)).mpr h9)
            refine lv_goto (tgt := 82) hx hb dX6_readClause_70 (by decide) ?_
            refine lv_aload_n hx hb dX6_readClause_82 rfl (lv_at hl 2 rfl) ?_
            refine lv_iload_n hx hb dX6_readClause_83 rfl (lv_at hl 3 rfl) ?_
            refine lv_iconst (v := 0) hx hb dX6_readClause_84 (by decide) ?_
            have hk_0 : (0 : Int32).toInt = 0 := by decide
            refine tk_Vv (As := [.int p1, .int 0]) (rest := []) (ci := 6) ⟨hx, hb, hml, hown, hts⟩ hK hG hZ hS (k_X6_readWholeSum_0 l D cy ld t a0 p1 0 ht_a0 (by omega) (by omega) (by omega) (by omega)) hf110 ⟨callB_of 2 hts (wl_in mw_578) rfl rfl rfl (htl _ mw_36) (htl _ mw_575) hd_yX6_readWholeSum ⟨(Nat.le_of_ble_eq_true rfl), (Nat.le_of_ble_eq_true rfl)⟩, htl _ mw_576, htl _ mw_577⟩ ht_a0 (by decide) tk_no rfl (tk_w.pick [0, 3, 1] rfl) rfl hl.1 rfl (Nat.le_of_ble_eq_true rfl) dX6_readClause_85 ⟨(Nat.le_of_ble_eq_true rfl), (Nat.le_of_ble_eq_true rfl)⟩ (fun H locs hpo hG hS hq9 => ?_)
            have hf194 := hpo
            exact hj132 _ _ hG hS hf194 _ (lv_sub hl [0, 2, 3] rfl)
      refine lv_if_ne (tgt := 56) hx hb dX6_readClause_45 (by decide) (fun c9 => ?_) (fun c9 => ?_)
      · have hc113 : ¬ (v112.toInt = 0) := fun h9 => c9 ((fi_eq rfl (show (0 : Int32).toInt = 0 by decide)).mpr h9)
        refine lv_iconst (v := 0) hx hb dX6_readClause_56 (by decide) ?_
        have hk_0 : (0 : Int32).toInt = 0 := by decide
        exact hj117 0 (by omega) (by omega) _ (lv_sub hl [0, 1, 2] rfl)
      · have hc113 : v112.toInt = 0 := (fi_eq rfl (show (0 : Int32).toInt = 0 by decide)).mp c9
        refine lv_iload_n hx hb dX6_readClause_48 rfl (lv_at hl 0 rfl) ?_
        refine lv_if_ne (tgt := 56) hx hb dX6_readClause_49 (by decide) (fun c9 => ?_) (fun c9 => ?_)
        · have hc195 : ¬ (v101.toInt = 0) := fun h9 => c9 ((fi_eq rfl (show (0 : Int32).toInt = 0 by decide)).mpr h9)
          refine lv_iconst (v := 0) hx hb dX6_readClause_56 (by decide) ?_
          have hk_0 : (0 : Int32).toInt = 0 := by decide
          exact hj117 0 (by omega) (by omega) _ (lv_sub hl [0, 1, 2] rfl)
        · have hc195 : v101.toInt = 0 := (fi_eq rfl (show (0 : Int32).toInt = 0 by decide)).mp c9
          refine lv_iconst (v := 1) hx hb dX6_readClause_52 (by decide) ?_
          refine lv_goto (tgt := 57) hx hb dX6_readClause_53 (by decide) ?_
          have hk_1 : (1 : Int32).toInt = 1 := by decide
          exact hj117 1 (by omega) (by omega) _ (lv_sub hl [0, 1, 2] rfl)
    · have hc105 : v101.toInt = (-1) := (fi_eq rfl (show ((-1) : Int32).toInt = (-1) by decide)).mp c9
      refine lv_aload_n hx hb dX6_readClause_24 rfl (lv_at hl 1 rfl) ?_
      have hk_0 : (0 : Int32).toInt = 0 := by decide
      refine tk_Vv (As := []) (rest := []) (ci := 6) ⟨hx, hb, hml, hown, hts⟩ hK hG hZ hS (k_X6_fail l D cy ld t a0 0 ht_a0 (by omega) (by omega)) hg_0 ⟨callB_of 0 hts (wl_in mw_507) rfl rfl rfl (htl _ mw_36) (htl _ mw_504) hd_yX6_fail ⟨(Nat.le_of_ble_eq_true rfl), (Nat.le_of_ble_eq_true rfl)⟩, htl _ mw_505, htl _ mw_506⟩ ht_a0 (by decide) tk_no rfl (tk_w.pick [3] rfl) rfl hl.1 rfl (Nat.le_of_ble_eq_true rfl) dX6_readClause_25 ⟨(Nat.le_of_ble_eq_true rfl), (Nat.le_of_ble_eq_true rfl)⟩ (fun H locs hpo hG hS hq9 => ?_)
      have hf197 := hpo
      exact tk_vret hx hb hr hlocks (show tk_f D H a0 6 9 (.int 0) from hf197) hG hS dX6_readClause_28
