theorem dX6_isWord_0 : decode cX6_isWord 0 = .ok (.aload_n 0, 1) := by decide +kernel
theorem dX6_isWord_1 : decode cX6_isWord 1 = .ok (.aload_n 1, 1) := by decide +kernel
theorem dX6_isWord_2 : decode cX6_isWord 2 = .ok (.invokevirtual 100, 3) := by decide +kernel
theorem dX6_isWord_5 : decode cX6_isWord 5 = .ok (.ifCond .ne 7, 3) := by decide +kernel
theorem dX6_isWord_12 : decode cX6_isWord 12 = .ok (.iconst 0, 1) := by decide +kernel
theorem dX6_isWord_13 : decode cX6_isWord 13 = .ok (.ireturn, 1) := by decide +kernel
theorem dX6_isWord_8 : decode cX6_isWord 8 = .ok (.iconst 1, 1) := by decide +kernel
theorem dX6_isWord_9 : decode cX6_isWord 9 = .ok (.goto 4, 3) := by decide +kernel
set_option maxHeartbeats 4000000 in
set_option maxRecDepth 100000 in
theorem k_X6_isWord_7 (l : Launch) (D : va_G) (cy : Nat → ClassId) (ld : Nat → Nat) (t : tk_T) (a0 : Nat) (ht_a0 : t a0 = (7, 0, 0)) : Met l yX6_isWord (wl yX6_isWord cX6_isWord 2 (some .boolean)) ({ frames := 9, cells := 0, slots := 0, locals := 560 }) (tp D cy ld t [] [.ref a0, .ref (ld 7)] (fun H => True)) (ti D cy ld t [] (fun r H => 0 ≤ r.toInt ∧ r.toInt ≤ 1 ∧ 0 ≤ r.toInt ∧ r.toInt ≤ 1) (tk_w t [])) 0 0 (tk_w t []) := by
  refine tk_met (y := yX6_isWord) (cc := cX6_isWord) (maxL := 2) (ret := (some .boolean)) (av := [.ref a0, .ref (ld 7)]) _ _ (by decide) (Nat.le_of_ble_eq_true rfl) ?_
  intro p e s m args below meth c hx hb hr hml hts htl hown hlocks hK H locs hH hG hS hB hZ ls hl
  have hown : s.vm.findClass RX6 = some m.cls := hown
  have hl : lv_has ls 2 [(0, .ref a0), (1, .ref (ld 7))] := hl
  refine lv_aload_n hx hb dX6_isWord_0 rfl (lv_at hl 0 rfl) ?_
  refine lv_aload_n hx hb dX6_isWord_1 rfl (lv_at hl 1 rfl) ?_
  refine tk_Vi (As := [.ref (ld 7)]) (rest := []) (ci := 6) ⟨hx, hb, hml, hown, hts⟩ hK hG hZ hS (k_X6_wordAmong_7 l D cy ld t a0 ht_a0) trivial ⟨callB_of 1 hts (wl_in mw_517) rfl rfl rfl (htl _ mw_36) (htl _ mw_514) hd_yX6_wordAmong ⟨(Nat.le_of_ble_eq_true rfl), (Nat.le_of_ble_eq_true rfl)⟩, htl _ mw_515, htl _ mw_516⟩ ht_a0 (by decide) tk_no rfl (tk_w.pick [] rfl) rfl hl.1 rfl (Nat.le_of_ble_eq_true rfl) dX6_isWord_2 ⟨(Nat.le_of_ble_eq_true rfl), (Nat.le_of_ble_eq_true rfl)⟩ (fun v1 H locs hpo hG hS hq9 => ?_)
  obtain ⟨hpo3, hpo4⟩ := hpo
  refine lv_if_ne (tgt := 12) hx hb dX6_isWord_5 (by decide) (fun c9 => ?_) (fun c9 => ?_)
  · have hc5 : ¬ (v1.toInt = 0) := fun h9 => c9 ((fi_eq rfl (show (0 : Int32).toInt = 0 by decide)).mpr h9)
    refine lv_iconst (v := 0) hx hb dX6_isWord_12 (by decide) ?_
    have hk_0 : (0 : Int32).toInt = 0 := by decide
    exact tk_iret (v := 0) hx hb hr rfl hlocks (show 0 ≤ (0 : Int32).toInt ∧ (0 : Int32).toInt ≤ 1 ∧ 0 ≤ (0 : Int32).toInt ∧ (0 : Int32).toInt ≤ 1 from ⟨(by omega), (by omega), (by omega), (by omega)⟩) hG hS dX6_isWord_13
  · have hc5 : v1.toInt = 0 := (fi_eq rfl (show (0 : Int32).toInt = 0 by decide)).mp c9
    refine lv_iconst (v := 1) hx hb dX6_isWord_8 (by decide) ?_
    refine lv_goto (tgt := 13) hx hb dX6_isWord_9 (by decide) ?_
    have hk_1 : (1 : Int32).toInt = 1 := by decide
    exact tk_iret (v := 1) hx hb hr rfl hlocks (show 0 ≤ (1 : Int32).toInt ∧ (1 : Int32).toInt ≤ 1 ∧ 0 ≤ (1 : Int32).toInt ∧ (1 : Int32).toInt ≤ 1 from ⟨(by omega), (by omega), (by omega), (by omega)⟩) hG hS dX6_isWord_13
set_option maxHeartbeats 4000000 in
set_option maxRecDepth 100000 in
theorem k_J0_isLatin1_aae02_10 (l : Launch) (D : va_G) (cy : Nat → ClassId) (ld : Nat → Nat) (t : tk_T) : Met l yJ0_isLatin1_aae02 (wl yJ0_isLatin1_aae02 cJ0_isLatin1_aae02 1 (some .boolean)) ({ frames := 3, cells := 0, slots := 0, locals := 140 }) (tp D cy ld t [] [.ref (ld 10)] (fun H => True)) (ti D cy ld t [] (fun r H => r.toInt + (-1) = 0 ∧ 0 ≤ r.toInt ∧ r.toInt ≤ 1) (tk_w t [])) 0 0 (tk_w t []) := by
  refine tk_met (y := yJ0_isLatin1_aae02) (cc := cJ0_isLatin1_aae02) (maxL := 1) (ret := (some .boolean)) (av := [.ref (ld 10)]) _ _ (by decide) (Nat.le_of_ble_eq_true rfl) ?_
  intro p e s m args below meth c hx hb hr hml hts htl hown hlocks hK H locs hH hG hS hB hZ ls hl
  have hown : s.vm.findClass RJ0 = some m.cls := hown
  have hl : lv_has ls 1 [(0, .ref (ld 10))] := hl
  refine va_gets hx hb (hZ.2.1.narrow (fun _ h => h.1)) hS hown (htl _ mw_528) (fun _ h9 => h9) dJ0_isLatin1_aae02_0 ?_
  refine lv_if_eq (tgt := 17) hx hb dJ0_isLatin1_aae02_3 (by decide) (fun c9 => absurd c9 (by decide)) (fun _ => ?_)
  refine lv_aload_n hx hb dJ0_isLatin1_aae02_6 rfl (lv_at hl 0 rfl) ?_
  refine vk_getf hx hb ((hZ.1.1 10 (by decide)).2.1.narrow (fun _ h => h.1)) hS hown (htl _ mw_529) (fun _ h9 => h9) dJ0_isLatin1_aae02_7 ?_
  refine lv_if_ne (tgt := 17) hx hb dJ0_isLatin1_aae02_10 (by decide) (fun c9 => absurd (by decide) c9) (fun _ => ?_)
  refine lv_iconst (v := 1) hx hb dJ0_isLatin1_aae02_13 (by decide) ?_
  refine lv_goto (tgt := 18) hx hb dJ0_isLatin1_aae02_14 (by decide) ?_
  have hk_1 : (1 : Int32).toInt = 1 := by decide
  exact tk_iret (v := 1) hx hb hr rfl hlocks (show (1 : Int32).toInt + (-1) = 0 ∧ 0 ≤ (1 : Int32).toInt ∧ (1 : Int32).toInt ≤ 1 from ⟨(by omega), (by omega), (by omega)⟩) hG hS dJ0_isLatin1_aae02_18
set_option maxHeartbeats 4000000 in
set_option maxRecDepth 100000 in
theorem k_J1_charAt_3b067_10 (l : Launch) (D : va_G) (cy : Nat → ClassId) (ld : Nat → Nat) (t : tk_T) (p1 : Int32) (hp_0 : 0 ≤ p1.toInt) (hp_1 : p1.toInt ≤ 1) : Met l yJ1_charAt_3b067 (wl yJ1_charAt_3b067 cJ1_charAt_3b067 2 (some .char)) ({ frames := 5, cells := 0, slots := 0, locals := 280 }) (tp D cy ld t [] [.ref (ld 60), .int p1] (fun H => True)) (ti D cy ld t [] (fun r H => 0 ≤ r.toInt ∧ r.toInt ≤ 255) (tk_w t [])) 0 0 (tk_w t []) := by
  refine tk_met (y := yJ1_charAt_3b067) (cc := cJ1_charAt_3b067) (maxL := 2) (ret := (some .char)) (av := [.ref (ld 60), .int p1]) _ _ (by decide) (Nat.le_of_ble_eq_true rfl) ?_
  intro p e s m args below meth c hx hb hr hml hts htl hown hlocks hK H locs hH hG hS hB hZ ls hl
  have hown : s.vm.findClass RJ1 = some m.cls := hown
  have hl : lv_has ls 2 [(0, .ref (ld 60)), (1, .int p1)] := hl
  have hr_p1 := tk_rng p1
  refine lv_iload_n hx hb dJ1_charAt_3b067_0 rfl (lv_at hl 1 rfl) ?_
  refine lv_aload_n hx hb dJ1_charAt_3b067_1 rfl (lv_at hl 0 rfl) ?_
  refine va_tlen (v := 2) hx hb ((hZ.1.1 10 (by decide)).2.2.2.narrow (fun _ h => h.1)) hS rfl dJ1_charAt_3b067_2 ?_
  have hk_2 : (2 : Int32).toInt = 2 := by decide
  refine tk_Sv (As := [.int p1, .int 2]) (rest := []) ⟨hx, hb, hml, hown, hts⟩ hK hG hZ hS (k_J0_checkIndex_df160 l D cy ld t p1 2 (by omega) (by omega) (by omega) (by omega) (by omega)) trivial ⟨callB_of 2 hts (wl_in mw_544) rfl rfl rfl (htl _ mw_521) (htl _ mw_542) hd_yJ0_checkIndex_df160 ⟨(Nat.le_of_ble_eq_true rfl), (Nat.le_of_ble_eq_true rfl)⟩, htl _ mw_543⟩ (tk_w.pick [] rfl) rfl hl.1 rfl (Nat.le_of_ble_eq_true rfl) dJ1_charAt_3b067_3 ⟨(Nat.le_of_ble_eq_true rfl), (Nat.le_of_ble_eq_true rfl)⟩ (fun H locs hpo hG hS hq9 => ?_)
  refine lv_aload_n hx hb dJ1_charAt_3b067_6 rfl (lv_at hl 0 rfl) ?_
  refine lv_iload_n hx hb dJ1_charAt_3b067_7 rfl (lv_at hl 1 rfl) ?_
  refine va_tb hx hb ((hZ.1.1 10 (by decide)).2.2.2.narrow (fun _ h => h.1)) hS (vp_in_iff.mpr ⟨by omega, show _ < ((2 : Nat) : Int) by omega⟩) rfl dJ1_charAt_3b067_8 ?_
  refine tk_any (fun v2 => ?_)
  refine lv_sipush (v := 255) hx hb dJ1_charAt_3b067_9 (by decide) ?_
  refine lv_iand hx hb dJ1_charAt_3b067_12 ?_
  refine tk_say (P := fun z => 0 ≤ z.toInt ∧ z.toInt ≤ 255) (tk_and v2 8 (by decide) (by decide)) (fun v3 h_v3 => ?_)
  obtain ⟨v4, e_v4, h_v4⟩ := tk_i2c (x := v3) (by omega) (by omega)
  refine lv_i2c (v := v4) hx hb dJ1_charAt_3b067_13 e_v4 ?_
  exact tk_iret (v := v4) hx hb hr (tk_nc (by omega) (by omega)) hlocks (show 0 ≤ v4.toInt ∧ v4.toInt ≤ 255 from ⟨(by omega), (by omega)⟩) hG hS dJ1_charAt_3b067_14
set_option maxHeartbeats 4000000 in
set_option maxRecDepth 100000 in
theorem k_J0_charAt_5068e_10 (l : Launch) (D : va_G) (cy : Nat → ClassId) (ld : Nat → Nat) (t : tk_T) (p1 : Int32) (hp_0 : 0 ≤ p1.toInt) (hp_1 : p1.toInt ≤ 1) : Met l yJ0_charAt_5068e (wl yJ0_charAt_5068e cJ0_charAt_5068e 2 (some .char)) ({ frames := 6, cells := 0, slots := 0, locals := 350 }) (tp D cy ld t [] [.ref (ld 10), .int p1] (fun H => True)) (ti D cy ld t [] (fun r H => 0 ≤ r.toInt ∧ r.toInt ≤ 255) (tk_w t [])) 0 0 (tk_w t []) := by
  refine tk_met (y := yJ0_charAt_5068e) (cc := cJ0_charAt_5068e) (maxL := 2) (ret := (some .char)) (av := [.ref (ld 10), .int p1]) _ _ (by decide) (Nat.le_of_ble_eq_true rfl) ?_
  intro p e s m args below meth c hx hb hr hml hts htl hown hlocks hK H locs hH hG hS hB hZ ls hl
  have hown : s.vm.findClass RJ0 = some m.cls := hown
  have hl : lv_has ls 2 [(0, .ref (ld 10)), (1, .int p1)] := hl
  have hr_p1 := tk_rng p1
  refine lv_aload_n hx hb dJ0_charAt_5068e_0 rfl (lv_at hl 0 rfl) ?_
  refine tk_Ti (As := []) (rest := []) (j := 10) ⟨hx, hb, hml, hown, hts⟩ hK hG hZ hS (k_J0_isLatin1_aae02_10 l D cy ld t) trivial ⟨callB_of 0 hts (wl_in mw_537) rfl rfl rfl (htl _ mw_521) (htl _ mw_534) hd_yJ0_isLatin1_aae02 ⟨(Nat.le_of_ble_eq_true rfl), (Nat.le_of_ble_eq_true rfl)⟩, htl _ mw_535, htl _ mw_536⟩ (by decide) (tk_w.pick [] rfl) rfl hl.1 rfl (Nat.le_of_ble_eq_true rfl) dJ0_charAt_5068e_1 ⟨(Nat.le_of_ble_eq_true rfl), (Nat.le_of_ble_eq_true rfl)⟩ (fun v1 H locs hpo hG hS hq9 => ?_)
  obtain ⟨hpo3, hpo4, hpo5⟩ := hpo
  obtain rfl : v1 = 1 := (fi_eq (show v1.toInt = 1 by omega) (by decide)).mpr rfl
  refine lv_if_eq (tgt := 16) hx hb dJ0_charAt_5068e_4 (by decide) (fun c9 => absurd c9 (by decide)) (fun _ => ?_)
  refine lv_aload_n hx hb dJ0_charAt_5068e_7 rfl (lv_at hl 0 rfl) ?_
  refine vk_getf hx hb ((hZ.1.1 10 (by decide)).2.2.1.narrow (fun _ h => h.1)) hS hown (htl _ mw_523) (fun _ h9 => h9) dJ0_charAt_5068e_8 ?_
  refine lv_iload_n hx hb dJ0_charAt_5068e_11 rfl (lv_at hl 1 rfl) ?_
  refine tk_Si (As := [.ref (ld 60), .int p1]) (rest := []) ⟨hx, hb, hml, hown, hts⟩ hK hG hZ hS (k_J1_charAt_3b067_10 l D cy ld t p1 (by omega) (by omega)) trivial ⟨callB_of 2 hts (wl_in mw_541) rfl rfl rfl (htl _ mw_540) (htl _ mw_538) hd_yJ1_charAt_3b067 ⟨(Nat.le_of_ble_eq_true rfl), (Nat.le_of_ble_eq_true rfl)⟩, htl _ mw_539⟩ (tk_w.pick [] rfl) rfl hl.1 rfl (Nat.le_of_ble_eq_true rfl) dJ0_charAt_5068e_12 ⟨(Nat.le_of_ble_eq_true rfl), (Nat.le_of_ble_eq_true rfl)⟩ (fun v6 H locs hpo hG hS hq9 => ?_)
  obtain ⟨hpo8, hpo9⟩ := hpo
  exact tk_iret (v := v6) hx hb hr (tk_nc (by omega) (by omega)) hlocks (show 0 ≤ v6.toInt ∧ v6.toInt ≤ 255 from ⟨(by omega), (by omega)⟩) hG hS dJ0_charAt_5068e_15
set_option maxHeartbeats 4000000 in
set_option maxRecDepth 100000 in
theorem k_J0_coder_7d493_10 (l : Launch) (D : va_G) (cy : Nat → ClassId) (ld : Nat → Nat) (t : tk_T) : Met l yJ0_coder_7d493 (wl yJ0_coder_7d493 cJ0_coder_7d493 1 (some .byte)) ({ frames := 3, cells := 0, slots := 0, locals := 140 }) (tp D cy ld t [] [.ref (ld 10)] (fun H => True)) (ti D cy ld t [] (fun r H => r.toInt = 0) (tk_w t [])) 0 0 (tk_w t []) := by
  refine tk_met (y := yJ0_coder_7d493) (cc := cJ0_coder_7d493) (maxL := 1) (ret := (some .byte)) (av := [.ref (ld 10)]) _ _ (by decide) (Nat.le_of_ble_eq_true rfl) ?_
  intro p e s m args below meth c hx hb hr hml hts htl hown hlocks hK H locs hH hG hS hB hZ ls hl
  have hown : s.vm.findClass RJ0 = some m.cls := hown
  have hl : lv_has ls 1 [(0, .ref (ld 10))] := hl
  refine va_gets hx hb (hZ.2.1.narrow (fun _ h => h.1)) hS hown (htl _ mw_528) (fun _ h9 => h9) dJ0_coder_7d493_0 ?_
  refine lv_if_eq (tgt := 13) hx hb dJ0_coder_7d493_3 (by decide) (fun c9 => absurd c9 (by decide)) (fun _ => ?_)
  refine lv_aload_n hx hb dJ0_coder_7d493_6 rfl (lv_at hl 0 rfl) ?_
  refine vk_getf hx hb ((hZ.1.1 10 (by decide)).2.1.narrow (fun _ h => h.1)) hS hown (htl _ mw_529) (fun _ h9 => h9) dJ0_coder_7d493_7 ?_
  refine lv_goto (tgt := 14) hx hb dJ0_coder_7d493_10 (by decide) ?_
  have hk_0 : (0 : Int32).toInt = 0 := by decide
  exact tk_iret (v := 0) hx hb hr rfl hlocks (show (0 : Int32).toInt = 0 from (by omega)) hG hS dJ0_coder_7d493_14
set_option maxHeartbeats 4000000 in
set_option maxRecDepth 100000 in
theorem k_J0_length_8abf5_10 (l : Launch) (D : va_G) (cy : Nat → ClassId) (ld : Nat → Nat) (t : tk_T) : Met l yJ0_length_8abf5 (wl yJ0_length_8abf5 cJ0_length_8abf5 1 (some .int)) ({ frames := 4, cells := 0, slots := 0, locals := 210 }) (tp D cy ld t [] [.ref (ld 10)] (fun H => True)) (ti D cy ld t [] (fun r H => r.toInt + (-2) = 0) (tk_w t [])) 0 0 (tk_w t []) := by
  refine tk_met (y := yJ0_length_8abf5) (cc := cJ0_length_8abf5) (maxL := 1) (ret := (some .int)) (av := [.ref (ld 10)]) _ _ (by decide) (Nat.le_of_ble_eq_true rfl) ?_
  intro p e s m args below meth c hx hb hr hml hts htl hown hlocks hK H locs hH hG hS hB hZ ls hl
  have hown : s.vm.findClass RJ0 = some m.cls := hown
  have hl : lv_has ls 1 [(0, .ref (ld 10))] := hl
  refine lv_aload_n hx hb dJ0_length_8abf5_0 rfl (lv_at hl 0 rfl) ?_
  refine vk_getf hx hb ((hZ.1.1 10 (by decide)).2.2.1.narrow (fun _ h => h.1)) hS hown (htl _ mw_523) (fun _ h9 => h9) dJ0_length_8abf5_1 ?_
  refine va_tlen (v := 2) hx hb ((hZ.1.1 10 (by decide)).2.2.2.narrow (fun _ h => h.1)) hS rfl dJ0_length_8abf5_4 ?_
  refine lv_aload_n hx hb dJ0_length_8abf5_5 rfl (lv_at hl 0 rfl) ?_
  refine tk_Ti (As := []) (rest := [.int 2]) (j := 10) ⟨hx, hb, hml, hown, hts⟩ hK hG hZ hS (k_J0_coder_7d493_10 l D cy ld t) trivial ⟨callB_of 0 hts (wl_in mw_527) rfl rfl rfl (htl _ mw_521) (htl _ mw_524) hd_yJ0_coder_7d493 ⟨(Nat.le_of_ble_eq_true rfl), (Nat.le_of_ble_eq_true rfl)⟩, htl _ mw_525, htl _ mw_526⟩ (by decide) (tk_w.pick [] rfl) rfl hl.1 rfl (Nat.le_of_ble_eq_true rfl) dJ0_length_8abf5_6 ⟨(Nat.le_of_ble_eq_true rfl), (Nat.le_of_ble_eq_true rfl)⟩ (fun v1 H locs hpo hG hS hq9 => ?_)
  have hpo3 := hpo
  obtain rfl : v1 = 0 := (fi_eq (show v1.toInt = 0 by omega) (by decide)).mpr rfl
  refine lv_ishr hx hb dJ0_length_8abf5_9 ?_
  refine fx_ti (v := 2) (by decide) ?_
  have hk_2 : (2 : Int32).toInt = 2 := by decide
  exact tk_iret (v := 2) hx hb hr rfl hlocks (show (2 : Int32).toInt + (-2) = 0 from (by omega)) hG hS dJ0_length_8abf5_10
set_option maxHeartbeats 4000000 in
set_option maxRecDepth 100000 in
theorem k_X6_isToken_10 (l : Launch) (D : va_G) (cy : Nat → ClassId) (ld : Nat → Nat) (t : tk_T) (a0 : Nat) (p2 : Int32) (p3 : Int32) (ht_a0 : t a0 = (7, 0, 0)) (hp_0 : 0 ≤ p2.toInt) (hp_1 : p2.toInt ≤ 2) (hp_2 : 0 ≤ p3.toInt) (hp_3 : p3.toInt ≤ 2) : Met l yX6_isToken (wl yX6_isToken cX6_isToken 5 (some .boolean)) ({ frames := 7, cells := 0, slots := 0, locals := 420 }) (tp D cy ld t [] [.ref a0, .ref (ld 10), .int p2, .int p3] (fun H => True)) (ti D cy ld t [] (fun r H => 0 ≤ r.toInt ∧ r.toInt ≤ 1 ∧ 0 ≤ r.toInt ∧ r.toInt ≤ 1) (tk_w t [])) 0 0 (tk_w t []) := by
  refine tk_met (y := yX6_isToken) (cc := cX6_isToken) (maxL := 5) (ret := (some .boolean)) (av := [.ref a0, .ref (ld 10), .int p2, .int p3]) _ _ (by decide) (Nat.le_of_ble_eq_true rfl) ?_
  intro p e s m args below meth c hx hb hr hml hts htl hown hlocks hK H locs hH hG hS hB hZ ls hl
  have hown : s.vm.findClass RX6 = some m.cls := hown
  have hl : lv_has ls 5 [(0, .ref a0), (1, .ref (ld 10)), (2, .int p2), (3, .int p3)] := hl
  have hr_p2 := tk_rng p2
  have hr_p3 := tk_rng p3
  refine lv_iload_n hx hb dX6_isToken_0 rfl (lv_at hl 3 rfl) ?_
  refine lv_iload_n hx hb dX6_isToken_1 rfl (lv_at hl 2 rfl) ?_
  refine lv_isub hx hb dX6_isToken_2 ?_
  refine tk_sub rfl rfl (by omega) (by omega) (fun v1 h_v1 => ?_)
  refine lv_aload_n hx hb dX6_isToken_3 rfl (lv_at hl 0 rfl) ?_
  refine tk_get (ci := 6) (C := RX6) (T := TX6) (N := 11) (sp := (0, 0, 400, 0)) hx hb htl inX6 hown hK hG ht_a0 (by decide) tk_no rfl 5 (by decide) (htl _ mw_478) (fun _ h9 => h9) rfl dX6_isToken_4 (fun v9 hf2 hV9 => ?_)
  obtain ⟨v3, rfl, (ha_v3 : 0 ≤ v3.toInt), (hb_v3 : v3.toInt ≤ 400)⟩ := hV9
  refine lv_aload_n hx hb dX6_isToken_7 rfl (lv_at hl 0 rfl) ?_
  refine tk_get (ci := 6) (C := RX6) (T := TX6) (N := 11) (sp := (0, 0, 400, 0)) hx hb htl inX6 hown hK hG ht_a0 (by decide) tk_no rfl 4 (by decide) (htl _ mw_495) (fun _ h9 => h9) rfl dX6_isToken_8 (fun v9 hf4 hV9 => ?_)
  obtain ⟨v5, rfl, (ha_v5 : 0 ≤ v5.toInt), (hb_v5 : v5.toInt ≤ 400)⟩ := hV9
  refine lv_isub hx hb dX6_isToken_11 ?_
  refine tk_sub rfl rfl (by omega) (by omega) (fun v6 h_v6 => ?_)
  refine lv_icmp_eq (tgt := 17) hx hb dX6_isToken_12 (by decide) (fun c9 => ?_) (fun c9 => ?_)
  · have hc7 : v1.toInt = v6.toInt := (fi_eq rfl rfl).mp c9
    refine lv_iload_n hx hb dX6_isToken_17 rfl (lv_at hl 2 rfl) ?_
    refine lv_istore (lv' := [(4, .int p2), (0, .ref a0), (1, .ref (ld 10)), (2, .int p2), (3, .int p3)]) hx hb dX6_isToken_18 hl (by decide) rfl (fun ls hl => ?_)
    have hl82 : ∀ (N_l82 : Nat) (v8 : Int32) (H : Heap) (locs : List Loc), v8.toInt ≤ 2 → 0 ≤ (-1) * p2.toInt + v8.toInt → (-1) * v8.toInt + 2 < (N_l82 : Int) → tk_G D cy ld t [] H → va_S (tk_w t []) s.heap H locs → tk_f D H a0 6 5 (.int v3) → tk_f D H a0 6 4 (.int v5) → ∀ ls : Array Slot, lv_has ls 5 [(4, .int v8), (0, .ref a0), (1, .ref (ld 10)), (2, .int p2), (3, .int p3)] → W p l e ({ frames := 7, cells := 0, slots := 0, locals := 420 }) s m args below meth c H locs 0 0 (MQ below (ti D cy ld t [] (fun r H => 0 ≤ r.toInt ∧ r.toInt ≤ 1 ∧ 0 ≤ r.toInt ∧ r.toInt ≤ 1) (tk_w t [])) args s 0 0 (tk_w t [])) (F0 m 20 ls []) := by
      intro N_l82
      induction N_l82 with
      | zero => intro v8 H locs hq0_l82 hq1_l82 hm_l82 hG hS hf2 hf4 ls hl; exfalso; omega
      | succ N_l82 ih_l82 =>
        intro v8 H locs hq0_l82 hq1_l82 hm_l82 hG hS hf2 hf4 ls hl
        refine lv_iload hx hb dX6_isToken_20 (lv_at hl 0 rfl) ?_
        refine lv_iload_n hx hb dX6_isToken_22 rfl (lv_at hl 4 rfl) ?_
        refine lv_icmp_ge (tgt := 57) hx hb dX6_isToken_23 (by decide) (fun c9 => ?_) (fun c9 => ?_)
        · have hc83 : p3.toInt ≤ v8.toInt := (fi_le rfl rfl).mp c9
          refine lv_iconst (v := 1) hx hb dX6_isToken_57 (by decide) ?_
          have hk_1 : (1 : Int32).toInt = 1 := by decide
          exact tk_iret (v := 1) hx hb hr rfl hlocks (show 0 ≤ (1 : Int32).toInt ∧ (1 : Int32).toInt ≤ 1 ∧ 0 ≤ (1 : Int32).toInt ∧ (1 : Int32).toInt ≤ 1 from ⟨(by omega), (by omega), (by omega), (by omega)⟩) hG hS dX6_isToken_58
        · have hc83 : ¬ (p3.toInt ≤ v8.toInt) := fun h9 => c9 ((fi_le rfl rfl).mpr h9)
          refine lv_aload_n hx hb dX6_isToken_26 rfl (lv_at hl 2 rfl) ?_
          refine lv_iload hx hb dX6_isToken_27 (lv_at hl 0 rfl) ?_
          refine tk_Ti (As := [.int v8]) (rest := []) (j := 10) ⟨hx, hb, hml, hown, hts⟩ hK hG hZ hS (k_J0_charAt_5068e_10 l D cy ld t v8 (by omega) (by omega)) trivial ⟨callB_of 1 hts (wl_in mw_533) rfl rfl rfl (htl _ mw_521) (htl _ mw_530) hd_yJ0_charAt_5068e ⟨(Nat.le_of_ble_eq_true rfl), (Nat.le_of_ble_eq_true rfl)⟩, htl _ mw_531, htl _ mw_532⟩ (by decide) (tk_w.pick [] rfl) rfl hl.1 rfl (Nat.le_of_ble_eq_true rfl) dX6_isToken_29 ⟨(Nat.le_of_ble_eq_true rfl), (Nat.le_of_ble_eq_true rfl)⟩ (fun v84 H locs hpo hG hS hq9 => ?_)
          have hf2 := hf2.call hq9 tk_w.nil
          have hf4 := hf4.call hq9 tk_w.nil
          obtain ⟨hpo86, hpo87⟩ := hpo
          refine lv_aload_n hx hb dX6_isToken_32 rfl (lv_at hl 1 rfl) ?_
          refine tk_get (ci := 6) (C := RX6) (T := TX6) (N := 11) (sp := (6, 20, 400, 9)) hx hb htl inX6 hown hK hG ht_a0 (by decide) tk_no rfl 1 (by decide) (htl _ mw_133) (fun _ h9 => h9) rfl dX6_isToken_33 (fun v9 hf88 hV9 => ?_)
          obtain ⟨b89, rfl, ht_b89⟩ := hV9
          have ht_b89 : t b89 = (20, 400, 9) := ht_b89
          refine lv_aload_n hx hb dX6_isToken_36 rfl (lv_at hl 1 rfl) ?_
          refine tk_getk (ci := 6) (C := RX6) (T := TX6) (N := 11) (sp := (0, 0, 400, 0)) hx hb htl inX6 hown hK hG ht_a0 (by decide) tk_no rfl 4 (by decide) (htl _ mw_495) (fun _ h9 => h9) rfl hf4 dX6_isToken_37 ?_
          refine lv_iload hx hb dX6_isToken_40 (lv_at hl 0 rfl) ?_
          refine lv_iadd hx hb dX6_isToken_42 ?_
          refine tk_add rfl rfl (by omega) (by omega) (fun v90 h_v90 => ?_)
          refine lv_iload_n hx hb dX6_isToken_43 rfl (lv_at hl 3 rfl) ?_
          refine lv_isub hx hb dX6_isToken_44 ?_
          refine tk_sub rfl rfl (by omega) (by omega) (fun v91 h_v91 => ?_)
          refine tk_iald hx hb hK hG ht_b89 (by decide) (fun _ h => h) tk_no rfl (by omega) (by omega) dX6_isToken_45 (fun v92 _ _ => ?_)
          have hr_v92 := tk_rng v92
          refine lv_icmp_eq (tgt := 51) hx hb dX6_isToken_46 (by decide) (fun c9 => ?_) (fun c9 => ?_)
          · have hc93 : v84.toInt = v92.toInt := (fi_eq rfl rfl).mp c9
            obtain ⟨v94, h_v94, e_v94⟩ := tk_inc v8 1 (by decide) (by omega) (by omega)
            refine lv_iinc (v := v94) (lv' := [(4, .int v94), (0, .ref a0), (1, .ref (ld 10)), (2, .int p2), (3, .int p3)]) hx hb dX6_isToken_51 hl (k := 0) rfl e_v94 (by decide) rfl (fun ls hl => ?_)
            refine lv_goto (tgt := 20) hx hb dX6_isToken_54 (by decide) ?_
            exact ih_l82 v94 _ _ (by omega) (by omega) (by omega) hG hS hf2 hf4 _ (lv_sub hl [0, 1, 2, 3, 4] rfl)
          · have hc93 : ¬ (v84.toInt = v92.toInt) := fun h9 => c9 ((fi_eq rfl rfl).mpr h9)
            refine lv_iconst (v := 0) hx hb dX6_isToken_49 (by decide) ?_
            have hk_0 : (0 : Int32).toInt = 0 := by decide
            exact tk_iret (v := 0) hx hb hr rfl hlocks (show 0 ≤ (0 : Int32).toInt ∧ (0 : Int32).toInt ≤ 1 ∧ 0 ≤ (0 : Int32).toInt ∧ (0 : Int32).toInt ≤ 1 from ⟨(by omega), (by omega), (by omega), (by omega)⟩) hG hS dX6_isToken_50
    exact hl82 3 p2 _ _ (by omega) (by omega) (by omega) hG hS hf2 hf4 _ (lv_sub hl [0, 1, 2, 3, 4] rfl)
  · have hc7 : ¬ (v1.toInt = v6.toInt) := fun h9 => c9 ((fi_eq rfl rfl).mpr h9)
    refine lv_iconst (v := 0) hx hb dX6_isToken_15 (by decide) ?_
    have hk_0 : (0 : Int32).toInt = 0 := by decide
    exact tk_iret (v := 0) hx hb hr rfl hlocks (show 0 ≤ (0 : Int32).toInt ∧ (0 : Int32).toInt ≤ 1 ∧ 0 ≤ (0 : Int32).toInt ∧ (0 : Int32).toInt ≤ 1 from ⟨(by omega), (by omega), (by omega), (by omega)⟩) hG hS dX6_isToken_16
set_option maxHeartbeats 4000000 in
set_option maxRecDepth 100000 in
theorem k_X6_wordAmong_10 (l : Launch) (D : va_G) (cy : Nat → ClassId) (ld : Nat → Nat) (t : tk_T) (a0 : Nat) (ht_a0 : t a0 = (7, 0, 0)) : Met l yX6_wordAmong (wl yX6_wordAmong cX6_wordAmong 5 (some .int)) ({ frames := 8, cells := 0, slots := 0, locals := 490 }) (tp D cy ld t [] [.ref a0, .ref (ld 10)] (fun H => True)) (ti D cy ld t [] (fun r H => (-1) ≤ r.toInt ∧ r.toInt ≤ 2) (tk_w t [])) 0 0 (tk_w t []) := by
  refine tk_met (y := yX6_wordAmong) (cc := cX6_wordAmong) (maxL := 5) (ret := (some .int)) (av := [.ref a0, .ref (ld 10)]) _ _ (by decide) (Nat.le_of_ble_eq_true rfl) ?_
  intro p e s m args below meth c hx hb hr hml hts htl hown hlocks hK H locs hH hG hS hB hZ ls hl
  have hown : s.vm.findClass RX6 = some m.cls := hown
  have hl : lv_has ls 5 [(0, .ref a0), (1, .ref (ld 10))] := hl
  refine lv_aload_n hx hb dX6_wordAmong_0 rfl (lv_at hl 0 rfl) ?_
  refine tk_Vi (As := []) (rest := []) (ci := 6) ⟨hx, hb, hml, hown, hts⟩ hK hG hZ hS (k_X6_isGood l D cy ld t a0 ht_a0) trivial ⟨callB_of 0 hts (wl_in mw_503) rfl rfl rfl (htl _ mw_36) (htl _ mw_500) hd_yX6_isGood ⟨(Nat.le_of_ble_eq_true rfl), (Nat.le_of_ble_eq_true rfl)⟩, htl _ mw_501, htl _ mw_502⟩ ht_a0 (by decide) tk_no rfl (tk_w.pick [] rfl) rfl hl.1 rfl (Nat.le_of_ble_eq_true rfl) dX6_wordAmong_1 ⟨(Nat.le_of_ble_eq_true rfl), (Nat.le_of_ble_eq_true rfl)⟩ (fun v1 H locs hpo hG hS hq9 => ?_)
  obtain ⟨hpo3, hpo4, hpo5, hpo6⟩ := hpo
  refine lv_if_eq (tgt := 15) hx hb dX6_wordAmong_4 (by decide) (fun c9 => ?_) (fun c9 => ?_)
  · have hc7 : v1.toInt = 0 := (fi_eq rfl (show (0 : Int32).toInt = 0 by decide)).mp c9
    refine lv_iconst (v := (-1)) hx hb dX6_wordAmong_15 (by decide) ?_
    have hk_m1 : ((-1) : Int32).toInt = (-1) := by decide
    exact tk_iret (v := (-1)) hx hb hr rfl hlocks (show (-1) ≤ ((-1) : Int32).toInt ∧ ((-1) : Int32).toInt ≤ 2 from ⟨(by omega), (by omega)⟩) hG hS dX6_wordAmong_16
  · have hc7 : ¬ (v1.toInt = 0) := fun h9 => c9 ((fi_eq rfl (show (0 : Int32).toInt = 0 by decide)).mpr h9)
    refine lv_aload_n hx hb dX6_wordAmong_7 rfl (lv_at hl 0 rfl) ?_
    refine tk_get (ci := 6) (C := RX6) (T := TX6) (N := 11) (sp := (0, (-2147483648), 2147483647, 0)) hx hb htl inX6 hown hK hG ht_a0 (by decide) tk_no rfl 6 (by decide) (htl _ mw_482) (fun _ h9 => h9) rfl dX6_wordAmong_8 (fun v9 hf8 hV9 => ?_)
    obtain ⟨v9, rfl, (ha_v9 : (-2147483648) ≤ v9.toInt), (hb_v9 : v9.toInt ≤ 2147483647)⟩ := hV9
    refine lv_iconst (v := 1) hx hb dX6_wordAmong_11 (by decide) ?_
    refine lv_icmp_eq (tgt := 17) hx hb dX6_wordAmong_12 (by decide) (fun c9 => ?_) (fun c9 => ?_)
    · have hc10 : v9.toInt = 1 := (fi_eq rfl (show (1 : Int32).toInt = 1 by decide)).mp c9
      refine lv_iconst (v := 0) hx hb dX6_wordAmong_17 (by decide) ?_
      refine lv_istore_n (lv' := [(2, .int 0), (0, .ref a0), (1, .ref (ld 10))]) hx hb dX6_wordAmong_18 rfl hl (by decide) rfl (fun ls hl => ?_)
      refine lv_iconst (v := 0) hx hb dX6_wordAmong_19 (by decide) ?_
      refine lv_istore_n (lv' := [(3, .int 0), (2, .int 0), (0, .ref a0), (1, .ref (ld 10))]) hx hb dX6_wordAmong_20 rfl hl (by decide) rfl (fun ls hl => ?_)
      refine lv_iconst (v := 0) hx hb dX6_wordAmong_21 (by decide) ?_
      refine lv_istore (lv' := [(4, .int 0), (3, .int 0), (2, .int 0), (0, .ref a0), (1, .ref (ld 10))]) hx hb dX6_wordAmong_22 hl (by decide) rfl (fun ls hl => ?_)
      have hl275 : ∀ (N_l275 : Nat) (v11 : Int32) (v12 : Int32) (v13 : Int32) (H : Heap) (locs : List Loc), v11.toInt ≤ 3 → 0 ≤ v13.toInt → 0 ≤ v11.toInt + (-1) * v12.toInt → 0 ≤ v12.toInt + (-1) * v13.toInt → (-1) * v11.toInt + 3 < (N_l275 : Int) → tk_G D cy ld t [] H → va_S (tk_w t []) s.heap H locs → tk_f D H a0 6 6 (.int v9) → ∀ ls : Array Slot, lv_has ls 5 [(4, .int v11), (3, .int v12), (2, .int v13), (0, .ref a0), (1, .ref (ld 10))] → W p l e ({ frames := 8, cells := 0, slots := 0, locals := 490 }) s m args below meth c H locs 0 0 (MQ below (ti D cy ld t [] (fun r H => (-1) ≤ r.toInt ∧ r.toInt ≤ 2) (tk_w t [])) args s 0 0 (tk_w t [])) (F0 m 24 ls []) := by
        intro N_l275
        induction N_l275 with
        | zero => intro v11 v12 v13 H locs hq0_l275 hq1_l275 hq2_l275 hq3_l275 hm_l275 hG hS hf8 ls hl; exfalso; omega
        | succ N_l275 ih_l275 =>
          intro v11 v12 v13 H locs hq0_l275 hq1_l275 hq2_l275 hq3_l275 hm_l275 hG hS hf8 ls hl
          refine lv_iload hx hb dX6_wordAmong_24 (lv_at hl 0 rfl) ?_
          refine lv_aload_n hx hb dX6_wordAmong_26 rfl (lv_at hl 4 rfl) ?_
          refine tk_Ti (As := []) (rest := [.int v11]) (j := 10) ⟨hx, hb, hml, hown, hts⟩ hK hG hZ hS (k_J0_length_8abf5_10 l D cy ld t) trivial ⟨callB_of 0 hts (wl_in mw_522) rfl rfl rfl (htl _ mw_521) (htl _ mw_518) hd_yJ0_length_8abf5 ⟨(Nat.le_of_ble_eq_true rfl), (Nat.le_of_ble_eq_true rfl)⟩, htl _ mw_519, htl _ mw_520⟩ (by decide) (tk_w.pick [] rfl) rfl hl.1 rfl (Nat.le_of_ble_eq_true rfl) dX6_wordAmong_27 ⟨(Nat.le_of_ble_eq_true rfl), (Nat.le_of_ble_eq_true rfl)⟩ (fun v276 H locs hpo hG hS hq9 => ?_)
          have hf8 := hf8.call hq9 tk_w.nil
          have hpo278 := hpo
          obtain rfl : v276 = 2 := (fi_eq (show v276.toInt = 2 by omega) (by decide)).mpr rfl
          refine lv_icmp_gt (tgt := 80) hx hb dX6_wordAmong_30 (by decide) (fun c9 => ?_) (fun c9 => ?_)
          · have hc279 : 2 < v11.toInt := (fi_lt (show (2 : Int32).toInt = 2 by decide) rfl).mp c9
            refine lv_iconst (v := (-1)) hx hb dX6_wordAmong_80 (by decide) ?_
            have hk_m1 : ((-1) : Int32).toInt = (-1) := by decide
            exact tk_iret (v := (-1)) hx hb hr rfl hlocks (show (-1) ≤ ((-1) : Int32).toInt ∧ ((-1) : Int32).toInt ≤ 2 from ⟨(by omega), (by omega)⟩) hG hS dX6_wordAmong_81
          · have hc279 : ¬ (2 < v11.toInt) := fun h9 => c9 ((fi_lt (show (2 : Int32).toInt = 2 by decide) rfl).mpr h9)
            refine lv_iload hx hb dX6_wordAmong_33 (lv_at hl 0 rfl) ?_
            refine lv_aload_n hx hb dX6_wordAmong_35 rfl (lv_at hl 4 rfl) ?_
            refine tk_Ti (As := []) (rest := [.int v11]) (j := 10) ⟨hx, hb, hml, hown, hts⟩ hK hG hZ hS (k_J0_length_8abf5_10 l D cy ld t) trivial ⟨callB_of 0 hts (wl_in mw_522) rfl rfl rfl (htl _ mw_521) (htl _ mw_518) hd_yJ0_length_8abf5 ⟨(Nat.le_of_ble_eq_true rfl), (Nat.le_of_ble_eq_true rfl)⟩, htl _ mw_519, htl _ mw_520⟩ (by decide) (tk_w.pick [] rfl) rfl hl.1 rfl (Nat.le_of_ble_eq_true rfl) dX6_wordAmong_36 ⟨(Nat.le_of_ble_eq_true rfl), (Nat.le_of_ble_eq_true rfl)⟩ (fun v280 H locs hpo hG hS hq9 => ?_)
            have hf8 := hf8.call hq9 tk_w.nil
            have hpo282 := hpo
            obtain rfl : v280 = 2 := (fi_eq (show v280.toInt = 2 by omega) (by decide)).mpr rfl
            refine lv_icmp_eq (tgt := 53) hx hb dX6_wordAmong_39 (by decide) (fun c9 => ?_) (fun c9 => ?_)
            · have hc283 : v11.toInt = 2 := (fi_eq rfl (show (2 : Int32).toInt = 2 by decide)).mp c9
              refine lv_aload_n hx hb dX6_wordAmong_53 rfl (lv_at hl 3 rfl) ?_
              refine lv_aload_n hx hb dX6_wordAmong_54 rfl (lv_at hl 4 rfl) ?_
              refine lv_iload_n hx hb dX6_wordAmong_55 rfl (lv_at hl 1 rfl) ?_
              refine lv_iload hx hb dX6_wordAmong_56 (lv_at hl 0 rfl) ?_
              refine tk_Vi (As := [.ref (ld 10), .int v12, .int v11]) (rest := []) (ci := 6) ⟨hx, hb, hml, hown, hts⟩ hK hG hZ hS (k_X6_isToken_10 l D cy ld t a0 v12 v11 ht_a0 (by omega) (by omega) (by omega) (by omega)) trivial ⟨callB_of 3 hts (wl_in mw_570) rfl rfl rfl (htl _ mw_36) (htl _ mw_567) hd_yX6_isToken ⟨(Nat.le_of_ble_eq_true rfl), (Nat.le_of_ble_eq_true rfl)⟩, htl _ mw_568, htl _ mw_569⟩ ht_a0 (by decide) tk_no rfl (tk_w.pick [] rfl) rfl hl.1 rfl (Nat.le_of_ble_eq_true rfl) dX6_wordAmong_58 ⟨(Nat.le_of_ble_eq_true rfl), (Nat.le_of_ble_eq_true rfl)⟩ (fun v284 H locs hpo hG hS hq9 => ?_)
              have hf8 := hf8.call hq9 tk_w.nil
              obtain ⟨hpo286, hpo287, hpo288, hpo289⟩ := hpo
              refine lv_if_eq (tgt := 66) hx hb dX6_wordAmong_61 (by decide) (fun c9 => ?_) (fun c9 => ?_)
              · have hc290 : v284.toInt = 0 := (fi_eq rfl (show (0 : Int32).toInt = 0 by decide)).mp c9
                obtain ⟨v291, h_v291, e_v291⟩ := tk_inc v13 1 (by decide) (by omega) (by omega)
                refine lv_iinc (v := v291) (lv' := [(2, .int v291), (4, .int v11), (3, .int v12), (0, .ref a0), (1, .ref (ld 10))]) hx hb dX6_wordAmong_66 hl (k := 2) rfl e_v291 (by decide) rfl (fun ls hl => ?_)
                refine lv_iload hx hb dX6_wordAmong_69 (lv_at hl 1 rfl) ?_
                refine lv_iconst (v := 1) hx hb dX6_wordAmong_71 (by decide) ?_
                refine lv_iadd hx hb dX6_wordAmong_72 ?_
                refine tk_add rfl (show (1 : Int32).toInt = 1 by decide) (by omega) (by omega) (fun v292 h_v292 => ?_)
                refine lv_istore_n (lv' := [(3, .int v292), (2, .int v291), (4, .int v11), (0, .ref a0), (1, .ref (ld 10))]) hx hb dX6_wordAmong_73 rfl hl (by decide) rfl (fun ls hl => ?_)
                obtain ⟨v293, h_v293, e_v293⟩ := tk_inc v11 1 (by decide) (by omega) (by omega)
                refine lv_iinc (v := v293) (lv' := [(4, .int v293), (3, .int v292), (2, .int v291), (0, .ref a0), (1, .ref (ld 10))]) hx hb dX6_wordAmong_74 hl (k := 2) rfl e_v293 (by decide) rfl (fun ls hl => ?_)
                refine lv_goto (tgt := 24) hx hb dX6_wordAmong_77 (by decide) ?_
                exact ih_l275 v293 v292 v291 _ _ (by omega) (by omega) (by omega) (by omega) (by omega) hG hS hf8 _ (lv_sub hl [0, 1, 2, 3, 4] rfl)
              · have hc290 : ¬ (v284.toInt = 0) := fun h9 => c9 ((fi_eq rfl (show (0 : Int32).toInt = 0 by decide)).mpr h9)
                refine lv_iload_n hx hb dX6_wordAmong_64 rfl (lv_at hl 2 rfl) ?_
                exact tk_iret (v := v13) hx hb hr rfl hlocks (show (-1) ≤ v13.toInt ∧ v13.toInt ≤ 2 from ⟨(by omega), (by omega)⟩) hG hS dX6_wordAmong_65
            · have hc283 : ¬ (v11.toInt = 2) := fun h9 => c9 ((fi_eq rfl (show (2 : Int32).toInt = 2 by decide)).mpr h9)
              refine lv_aload_n hx hb dX6_wordAmong_42 rfl (lv_at hl 4 rfl) ?_
              refine lv_iload hx hb dX6_wordAmong_43 (lv_at hl 0 rfl) ?_
              refine tk_Ti (As := [.int v11]) (rest := []) (j := 10) ⟨hx, hb, hml, hown, hts⟩ hK hG hZ hS (k_J0_charAt_5068e_10 l D cy ld t v11 (by omega) (by omega)) trivial ⟨callB_of 1 hts (wl_in mw_533) rfl rfl rfl (htl _ mw_521) (htl _ mw_530) hd_yJ0_charAt_5068e ⟨(Nat.le_of_ble_eq_true rfl), (Nat.le_of_ble_eq_true rfl)⟩, htl _ mw_531, htl _ mw_532⟩ (by decide) (tk_w.pick [] rfl) rfl hl.1 rfl (Nat.le_of_ble_eq_true rfl) dX6_wordAmong_45 ⟨(Nat.le_of_ble_eq_true rfl), (Nat.le_of_ble_eq_true rfl)⟩ (fun v294 H locs hpo hG hS hq9 => ?_)
              have hf8 := hf8.call hq9 tk_w.nil
              obtain ⟨hpo296, hpo297⟩ := hpo
              refine lv_bipush (v := 32) hx hb dX6_wordAmong_48 (by decide) ?_
              refine lv_icmp_ne (tgt := 74) hx hb dX6_wordAmong_50 (by decide) (fun c9 => ?_) (fun c9 => ?_)
              · have hc298 : ¬ (v294.toInt = 32) := fun h9 => c9 ((fi_eq rfl (show (32 : Int32).toInt = 32 by decide)).mpr h9)
                obtain ⟨v299, h_v299, e_v299⟩ := tk_inc v11 1 (by decide) (by omega) (by omega)
                refine lv_iinc (v := v299) (lv' := [(4, .int v299), (3, .int v12), (2, .int v13), (0, .ref a0), (1, .ref (ld 10))]) hx hb dX6_wordAmong_74 hl (k := 0) rfl e_v299 (by decide) rfl (fun ls hl => ?_)
                refine lv_goto (tgt := 24) hx hb dX6_wordAmong_77 (by decide) ?_
                exact ih_l275 v299 v12 v13 _ _ (by omega) (by omega) (by omega) (by omega) (by omega) hG hS hf8 _ (lv_sub hl [0, 1, 2, 3, 4] rfl)
              · have hc298 : v294.toInt = 32 := (fi_eq rfl (show (32 : Int32).toInt = 32 by decide)).mp c9
                refine lv_aload_n hx hb dX6_wordAmong_53 rfl (lv_at hl 3 rfl) ?_
                refine lv_aload_n hx hb dX6_wordAmong_54 rfl (lv_at hl 4 rfl) ?_
                refine lv_iload_n hx hb dX6_wordAmong_55 rfl (lv_at hl 1 rfl) ?_
                refine lv_iload hx hb dX6_wordAmong_56 (lv_at hl 0 rfl) ?_
                refine tk_Vi (As := [.ref (ld 10), .int v12, .int v11]) (rest := []) (ci := 6) ⟨hx, hb, hml, hown, hts⟩ hK hG hZ hS (k_X6_isToken_10 l D cy ld t a0 v12 v11 ht_a0 (by omega) (by omega) (by omega) (by omega)) trivial ⟨callB_of 3 hts (wl_in mw_570) rfl rfl rfl (htl _ mw_36) (htl _ mw_567) hd_yX6_isToken ⟨(Nat.le_of_ble_eq_true rfl), (Nat.le_of_ble_eq_true rfl)⟩, htl _ mw_568, htl _ mw_569⟩ ht_a0 (by decide) tk_no rfl (tk_w.pick [] rfl) rfl hl.1 rfl (Nat.le_of_ble_eq_true rfl) dX6_wordAmong_58 ⟨(Nat.le_of_ble_eq_true rfl), (Nat.le_of_ble_eq_true rfl)⟩ (fun v300 H locs hpo hG hS hq9 => ?_)
                have hf8 := hf8.call hq9 tk_w.nil
                obtain ⟨hpo302, hpo303, hpo304, hpo305⟩ := hpo
                refine lv_if_eq (tgt := 66) hx hb dX6_wordAmong_61 (by decide) (fun c9 => ?_) (fun c9 => ?_)
                · have hc306 : v300.toInt = 0 := (fi_eq rfl (show (0 : Int32).toInt = 0 by decide)).mp c9
                  obtain ⟨v307, h_v307, e_v307⟩ := tk_inc v13 1 (by decide) (by omega) (by omega)
                  refine lv_iinc (v := v307) (lv' := [(2, .int v307), (4, .int v11), (3, .int v12), (0, .ref a0), (1, .ref (ld 10))]) hx hb dX6_wordAmong_66 hl (k := 2) rfl e_v307 (by decide) rfl (fun ls hl => ?_)
                  refine lv_iload hx hb dX6_wordAmong_69 (lv_at hl 1 rfl) ?_
                  refine lv_iconst (v := 1) hx hb dX6_wordAmong_71 (by decide) ?_
                  refine lv_iadd hx hb dX6_wordAmong_72 ?_
                  refine tk_add rfl (show (1 : Int32).toInt = 1 by decide) (by omega) (by omega) (fun v308 h_v308 => ?_)
                  refine lv_istore_n (lv' := [(3, .int v308), (2, .int v307), (4, .int v11), (0, .ref a0), (1, .ref (ld 10))]) hx hb dX6_wordAmong_73 rfl hl (by decide) rfl (fun ls hl => ?_)
                  obtain ⟨v309, h_v309, e_v309⟩ := tk_inc v11 1 (by decide) (by omega) (by omega)
                  refine lv_iinc (v := v309) (lv' := [(4, .int v309), (3, .int v308), (2, .int v307), (0, .ref a0), (1, .ref (ld 10))]) hx hb dX6_wordAmong_74 hl (k := 2) rfl e_v309 (by decide) rfl (fun ls hl => ?_)
                  refine lv_goto (tgt := 24) hx hb dX6_wordAmong_77 (by decide) ?_
                  exact ih_l275 v309 v308 v307 _ _ (by omega) (by omega) (by omega) (by omega) (by omega) hG hS hf8 _ (lv_sub hl [0, 1, 2, 3, 4] rfl)
                · have hc306 : ¬ (v300.toInt = 0) := fun h9 => c9 ((fi_eq rfl (show (0 : Int32).toInt = 0 by decide)).mpr h9)
                  refine lv_iload_n hx hb dX6_wordAmong_64 rfl (lv_at hl 2 rfl) ?_
                  exact tk_iret (v := v13) hx hb hr rfl hlocks (show (-1) ≤ v13.toInt ∧ v13.toInt ≤ 2 from ⟨(by omega), (by omega)⟩) hG hS dX6_wordAmong_65
      have hk_0 : (0 : Int32).toInt = 0 := by decide
      have hk_0 : (0 : Int32).toInt = 0 := by decide
      have hk_0 : (0 : Int32).toInt = 0 := by decide
      exact hl275 4 0 0 0 _ _ (by omega) (by omega) (by omega) (by omega) (by omega) hG hS hf8 _ (lv_sub hl [0, 1, 2, 3, 4] rfl)
    · have hc10 : ¬ (v9.toInt = 1) := fun h9 => c9 ((fi_eq rfl (show (1 : Int32).toInt = 1 by decide)).mpr h9)
      refine lv_iconst (v := (-1)) hx hb dX6_wordAmong_15 (by decide) ?_
      have hk_m1 : ((-1) : Int32).toInt = (-1) := by decide
      exact tk_iret (v := (-1)) hx hb hr rfl hlocks (show (-1) ≤ ((-1) : Int32).toInt ∧ ((-1) : Int32).toInt ≤ 2 from ⟨(by omega), (by omega)⟩) hG hS dX6_wordAmong_16
set_option maxHeartbeats 4000000 in
set_option maxRecDepth 100000 in
theorem k_X6_isWord_10 (l : Launch) (D : va_G) (cy : Nat → ClassId) (ld : Nat → Nat) (t : tk_T) (a0 : Nat) (ht_a0 : t a0 = (7, 0, 0)) : Met l yX6_isWord (wl yX6_isWord cX6_isWord 2 (some .boolean)) ({ frames := 9, cells := 0, slots := 0, locals := 560 }) (tp D cy ld t [] [.ref a0, .ref (ld 10)] (fun H => True)) (ti D cy ld t [] (fun r H => 0 ≤ r.toInt ∧ r.toInt ≤ 1 ∧ 0 ≤ r.toInt ∧ r.toInt ≤ 1) (tk_w t [])) 0 0 (tk_w t []) := by
  refine tk_met (y := yX6_isWord) (cc := cX6_isWord) (maxL := 2) (ret := (some .boolean)) (av := [.ref a0, .ref (ld 10)]) _ _ (by decide) (Nat.le_of_ble_eq_true rfl) ?_
  intro p e s m args below meth c hx hb hr hml hts htl hown hlocks hK H locs hH hG hS hB hZ ls hl
  have hown : s.vm.findClass RX6 = some m.cls := hown
  have hl : lv_has ls 2 [(0, .ref a0), (1, .ref (ld 10))] := hl
  refine lv_aload_n hx hb dX6_isWord_0 rfl (lv_at hl 0 rfl) ?_
  refine lv_aload_n hx hb dX6_isWord_1 rfl (lv_at hl 1 rfl) ?_
  refine tk_Vi (As := [.ref (ld 10)]) (rest := []) (ci := 6) ⟨hx, hb, hml, hown, hts⟩ hK hG hZ hS (k_X6_wordAmong_10 l D cy ld t a0 ht_a0) trivial ⟨callB_of 1 hts (wl_in mw_517) rfl rfl rfl (htl _ mw_36) (htl _ mw_514) hd_yX6_wordAmong ⟨(Nat.le_of_ble_eq_true rfl), (Nat.le_of_ble_eq_true rfl)⟩, htl _ mw_515, htl _ mw_516⟩ ht_a0 (by decide) tk_no rfl (tk_w.pick [] rfl) rfl hl.1 rfl (Nat.le_of_ble_eq_true rfl) dX6_isWord_2 ⟨(Nat.le_of_ble_eq_true rfl), (Nat.le_of_ble_eq_true rfl)⟩ (fun v1 H locs hpo hG hS hq9 => ?_)
  obtain ⟨hpo3, hpo4⟩ := hpo
  refine lv_if_ne (tgt := 12) hx hb dX6_isWord_5 (by decide) (fun c9 => ?_) (fun c9 => ?_)
  · have hc5 : ¬ (v1.toInt = 0) := fun h9 => c9 ((fi_eq rfl (show (0 : Int32).toInt = 0 by decide)).mpr h9)
    refine lv_iconst (v := 0) hx hb dX6_isWord_12 (by decide) ?_
    have hk_0 : (0 : Int32).toInt = 0 := by decide
    exact tk_iret (v := 0) hx hb hr rfl hlocks (show 0 ≤ (0 : Int32).toInt ∧ (0 : Int32).toInt ≤ 1 ∧ 0 ≤ (0 : Int32).toInt ∧ (0 : Int32).toInt ≤ 1 from ⟨(by omega), (by omega), (by omega), (by omega)⟩) hG hS dX6_isWord_13
  · have hc5 : v1.toInt = 0 := (fi_eq rfl (show (0 : Int32).toInt = 0 by decide)).mp c9
    refine lv_iconst (v := 1) hx hb dX6_isWord_8 (by decide) ?_
    refine lv_goto (tgt := 13) hx hb dX6_isWord_9 (by decide) ?_
    have hk_1 : (1 : Int32).toInt = 1 := by decide
    exact tk_iret (v := 1) hx hb hr rfl hlocks (show 0 ≤ (1 : Int32).toInt ∧ (1 : Int32).toInt ≤ 1 ∧ 0 ≤ (1 : Int32).toInt ∧ (1 : Int32).toInt ≤ 1 from ⟨(by omega), (by omega), (by omega), (by omega)⟩) hG hS dX6_isWord_13
theorem dX6_landHere_0 : decode cX6_landHere 0 = .ok (.iload_n 1, 1) := by decide +kernel
theorem dX6_landHere_1 : decode cX6_landHere 1 = .ok (.aload_n 0, 1) := by decide +kernel
theorem dX6_landHere_2 : decode cX6_landHere 2 = .ok (.getfield 16, 3) := by decide +kernel
theorem dX6_landHere_5 : decode cX6_landHere 5 = .ok (.getfield 170, 3) := by decide +kernel
theorem dX6_landHere_8 : decode cX6_landHere 8 = .ok (.arraylength, 1) := by decide +kernel
theorem dX6_landHere_9 : decode cX6_landHere 9 = .ok (.if_icmp .ge 19, 3) := by decide +kernel
theorem dX6_landHere_28 : decode cX6_landHere 28 = .ok (.return_, 1) := by decide +kernel
theorem dX6_landHere_12 : decode cX6_landHere 12 = .ok (.aload_n 0, 1) := by decide +kernel
theorem dX6_landHere_13 : decode cX6_landHere 13 = .ok (.getfield 16, 3) := by decide +kernel
theorem dX6_landHere_16 : decode cX6_landHere 16 = .ok (.getfield 170, 3) := by decide +kernel
theorem dX6_landHere_19 : decode cX6_landHere 19 = .ok (.iload_n 1, 1) := by decide +kernel
theorem dX6_landHere_20 : decode cX6_landHere 20 = .ok (.aload_n 0, 1) := by decide +kernel
theorem dX6_landHere_21 : decode cX6_landHere 21 = .ok (.getfield 16, 3) := by decide +kernel
theorem dX6_landHere_24 : decode cX6_landHere 24 = .ok (.getfield 136, 3) := by decide +kernel
theorem dX6_landHere_27 : decode cX6_landHere 27 = .ok (.iastore, 1) := by decide +kernel
set_option maxHeartbeats 4000000 in
set_option maxRecDepth 100000 in
theorem k_X6_landHere (l : Launch) (D : va_G) (cy : Nat → ClassId) (ld : Nat → Nat) (t : tk_T) (a0 : Nat) (p1 : Int32) (ht_a0 : t a0 = (7, 0, 0)) (hp_0 : 0 ≤ p1.toInt) (hp_1 : p1.toInt ≤ 2147483647) : Met l yX6_landHere (wl yX6_landHere cX6_landHere 2 none) ({ frames := 3, cells := 0, slots := 0, locals := 140 }) (tp D cy ld t [] [.ref a0, .int p1] (fun H => True)) (tv D cy ld t [] (fun H => True) (tk_w t [(20, 0, 0)])) 0 0 (tk_w t [(20, 0, 0)]) := by
  refine tk_met (y := yX6_landHere) (cc := cX6_landHere) (maxL := 2) (ret := none) (av := [.ref a0, .int p1]) _ _ (by decide) (Nat.le_of_ble_eq_true rfl) ?_
  intro p e s m args below meth c hx hb hr hml hts htl hown hlocks hK H locs hH hG hS hB hZ ls hl
  have hown : s.vm.findClass RX6 = some m.cls := hown
  have hl : lv_has ls 2 [(0, .ref a0), (1, .int p1)] := hl
  have hr_p1 := tk_rng p1
  refine lv_iload_n hx hb dX6_landHere_0 rfl (lv_at hl 1 rfl) ?_
  refine lv_aload_n hx hb dX6_landHere_1 rfl (lv_at hl 0 rfl) ?_
  refine tk_get (ci := 6) (C := RX6) (T := TX6) (N := 11) (sp := (6, 8, 512, 12)) hx hb htl inX6 hown hK hG ht_a0 (by decide) tk_no rfl 0 (by decide) (htl _ mw_132) (fun _ h9 => h9) rfl dX6_landHere_2 (fun v9 hf1 hV9 => ?_)
  obtain ⟨b2, rfl, ht_b2⟩ := hV9
  have ht_b2 : t b2 = (8, 512, 12) := ht_b2
  refine tk_get (ci := 7) (C := RX7) (T := TX7) (N := 10) (sp := (2, 20, 0, 0)) hx hb htl inX7 hown hK hG ht_b2 (by decide) tk_no rfl 1 (by decide) (htl _ mw_643) (fun _ h9 => h9) rfl dX6_landHere_5 (fun v9 hf3 hV9 => ?_)
  obtain ⟨b4, rfl, ht_b4⟩ := hV9
  have ht_b4 : t b4 = (20, 512, 0) := ht_b4
  refine tk_alen hx hb hK hG 0 rfl ht_b4 (by decide) (fun _ h => by obtain ⟨f, h, _⟩ := h; exact ⟨_, h⟩) tk_no (by decide) dX6_landHere_8 (fun z hz => ?_)
  obtain rfl : z = 512 := (fi_eq hz (by decide)).mpr rfl
  refine lv_icmp_ge (tgt := 28) hx hb dX6_landHere_9 (by decide) (fun c9 => ?_) (fun c9 => ?_)
  · have hc5 : 512 ≤ p1.toInt := (fi_le (show (512 : Int32).toInt = 512 by decide) rfl).mp c9
    exact tk_vret hx hb hr hlocks trivial hG hS dX6_landHere_28
  · have hc5 : ¬ (512 ≤ p1.toInt) := fun h9 => c9 ((fi_le (show (512 : Int32).toInt = 512 by decide) rfl).mpr h9)
    refine lv_aload_n hx hb dX6_landHere_12 rfl (lv_at hl 0 rfl) ?_
    refine tk_get (ci := 6) (C := RX6) (T := TX6) (N := 11) (sp := (6, 8, 512, 12)) hx hb htl inX6 hown hK hG ht_a0 (by decide) tk_no rfl 0 (by decide) (htl _ mw_132) (fun _ h9 => h9) rfl dX6_landHere_13 (fun v9 hf6 hV9 => ?_)
    obtain ⟨b7, rfl, ht_b7⟩ := hV9
    have ht_b7 : t b7 = (8, 512, 12) := ht_b7
    refine tk_get (ci := 7) (C := RX7) (T := TX7) (N := 10) (sp := (2, 20, 0, 0)) hx hb htl inX7 hown hK hG ht_b7 (by decide) tk_no rfl 1 (by decide) (htl _ mw_643) (fun _ h9 => h9) rfl dX6_landHere_16 (fun v9 hf8 hV9 => ?_)
    obtain ⟨b9, rfl, ht_b9⟩ := hV9
    have ht_b9 : t b9 = (20, 512, 0) := ht_b9
    refine lv_iload_n hx hb dX6_landHere_19 rfl (lv_at hl 1 rfl) ?_
    refine lv_aload_n hx hb dX6_landHere_20 rfl (lv_at hl 0 rfl) ?_
    refine tk_get (ci := 6) (C := RX6) (T := TX6) (N := 11) (sp := (6, 8, 512, 12)) hx hb htl inX6 hown hK hG ht_a0 (by decide) tk_no rfl 0 (by decide) (htl _ mw_132) (fun _ h9 => h9) rfl dX6_landHere_21 (fun v9 hf10 hV9 => ?_)
    obtain ⟨b11, rfl, ht_b11⟩ := hV9
    have ht_b11 : t b11 = (8, 512, 12) := ht_b11
    refine tk_get (ci := 7) (C := RX7) (T := TX7) (N := 10) (sp := (4, 0, 0, 0)) hx hb htl inX7 hown hK hG ht_b11 (by decide) tk_no rfl 6 (by decide) (htl _ mw_513) (fun _ h9 => h9) rfl dX6_landHere_24 (fun v9 hf12 hV9 => ?_)
    obtain ⟨v13, rfl, (ha_v13 : 0 ≤ v13.toInt), (hb_v13 : v13.toInt ≤ 512)⟩ := hV9
    refine tk_iast hx hb hK hG hS ht_b9 (by decide) (fun _ => Iff.rfl) tk_no rfl (by omega) (by omega) trivial (tk_w.of ht_b9 (by decide) (List.mem_of_getElem? (i := 0) rfl) (Nat.le_refl _) (Nat.le_refl _)) dX6_landHere_27 (fun H locs hG hS hq9 => ?_)
    have hf12 := hf12.kept (hq9 _ (tk_ne ht_b11 ht_b9 (Or.inl (by decide))))
    exact tk_vret hx hb hr hlocks trivial hG hS dX6_landHere_28
set_option maxHeartbeats 4000000 in
set_option maxRecDepth 100000 in
theorem k_J0_isLatin1_aae02_9 (l : Launch) (D : va_G) (cy : Nat → ClassId) (ld : Nat → Nat) (t : tk_T) : Met l yJ0_isLatin1_aae02 (wl yJ0_isLatin1_aae02 cJ0_isLatin1_aae02 1 (some .boolean)) ({ frames := 3, cells := 0, slots := 0, locals := 140 }) (tp D cy ld t [] [.ref (ld 9)] (fun H => True)) (ti D cy ld t [] (fun r H => r.toInt + (-1) = 0 ∧ 0 ≤ r.toInt ∧ r.toInt ≤ 1) (tk_w t [])) 0 0 (tk_w t []) := by
  refine tk_met (y := yJ0_isLatin1_aae02) (cc := cJ0_isLatin1_aae02) (maxL := 1) (ret := (some .boolean)) (av := [.ref (ld 9)]) _ _ (by decide) (Nat.le_of_ble_eq_true rfl) ?_
  intro p e s m args below meth c hx hb hr hml hts htl hown hlocks hK H locs hH hG hS hB hZ ls hl
  have hown : s.vm.findClass RJ0 = some m.cls := hown
  have hl : lv_has ls 1 [(0, .ref (ld 9))] := hl
  refine va_gets hx hb (hZ.2.1.narrow (fun _ h => h.1)) hS hown (htl _ mw_528) (fun _ h9 => h9) dJ0_isLatin1_aae02_0 ?_
  refine lv_if_eq (tgt := 17) hx hb dJ0_isLatin1_aae02_3 (by decide) (fun c9 => absurd c9 (by decide)) (fun _ => ?_)
  refine lv_aload_n hx hb dJ0_isLatin1_aae02_6 rfl (lv_at hl 0 rfl) ?_
  refine vk_getf hx hb ((hZ.1.1 9 (by decide)).2.1.narrow (fun _ h => h.1)) hS hown (htl _ mw_529) (fun _ h9 => h9) dJ0_isLatin1_aae02_7 ?_
  refine lv_if_ne (tgt := 17) hx hb dJ0_isLatin1_aae02_10 (by decide) (fun c9 => absurd (by decide) c9) (fun _ => ?_)
  refine lv_iconst (v := 1) hx hb dJ0_isLatin1_aae02_13 (by decide) ?_
  refine lv_goto (tgt := 18) hx hb dJ0_isLatin1_aae02_14 (by decide) ?_
  have hk_1 : (1 : Int32).toInt = 1 := by decide
  exact tk_iret (v := 1) hx hb hr rfl hlocks (show (1 : Int32).toInt + (-1) = 0 ∧ 0 ≤ (1 : Int32).toInt ∧ (1 : Int32).toInt ≤ 1 from ⟨(by omega), (by omega), (by omega)⟩) hG hS dJ0_isLatin1_aae02_18
set_option maxHeartbeats 4000000 in
set_option maxRecDepth 100000 in
theorem k_J1_charAt_3b067_9 (l : Launch) (D : va_G) (cy : Nat → ClassId) (ld : Nat → Nat) (t : tk_T) (p1 : Int32) (hp_0 : 0 ≤ p1.toInt) (hp_1 : p1.toInt ≤ 2) : Met l yJ1_charAt_3b067 (wl yJ1_charAt_3b067 cJ1_charAt_3b067 2 (some .char)) ({ frames := 5, cells := 0, slots := 0, locals := 280 }) (tp D cy ld t [] [.ref (ld 59), .int p1] (fun H => True)) (ti D cy ld t [] (fun r H => 0 ≤ r.toInt ∧ r.toInt ≤ 255) (tk_w t [])) 0 0 (tk_w t []) := by
  refine tk_met (y := yJ1_charAt_3b067) (cc := cJ1_charAt_3b067) (maxL := 2) (ret := (some .char)) (av := [.ref (ld 59), .int p1]) _ _ (by decide) (Nat.le_of_ble_eq_true rfl) ?_
  intro p e s m args below meth c hx hb hr hml hts htl hown hlocks hK H locs hH hG hS hB hZ ls hl
  have hown : s.vm.findClass RJ1 = some m.cls := hown
  have hl : lv_has ls 2 [(0, .ref (ld 59)), (1, .int p1)] := hl
  have hr_p1 := tk_rng p1
  refine lv_iload_n hx hb dJ1_charAt_3b067_0 rfl (lv_at hl 1 rfl) ?_
  refine lv_aload_n hx hb dJ1_charAt_3b067_1 rfl (lv_at hl 0 rfl) ?_
  refine va_tlen (v := 3) hx hb ((hZ.1.1 9 (by decide)).2.2.2.narrow (fun _ h => h.1)) hS rfl dJ1_charAt_3b067_2 ?_
  have hk_3 : (3 : Int32).toInt = 3 := by decide
  refine tk_Sv (As := [.int p1, .int 3]) (rest := []) ⟨hx, hb, hml, hown, hts⟩ hK hG hZ hS (k_J0_checkIndex_df160 l D cy ld t p1 3 (by omega) (by omega) (by omega) (by omega) (by omega)) trivial ⟨callB_of 2 hts (wl_in mw_544) rfl rfl rfl (htl _ mw_521) (htl _ mw_542) hd_yJ0_checkIndex_df160 ⟨(Nat.le_of_ble_eq_true rfl), (Nat.le_of_ble_eq_true rfl)⟩, htl _ mw_543⟩ (tk_w.pick [] rfl) rfl hl.1 rfl (Nat.le_of_ble_eq_true rfl) dJ1_charAt_3b067_3 ⟨(Nat.le_of_ble_eq_true rfl), (Nat.le_of_ble_eq_true rfl)⟩ (fun H locs hpo hG hS hq9 => ?_)
  refine lv_aload_n hx hb dJ1_charAt_3b067_6 rfl (lv_at hl 0 rfl) ?_
  refine lv_iload_n hx hb dJ1_charAt_3b067_7 rfl (lv_at hl 1 rfl) ?_
  refine va_tb hx hb ((hZ.1.1 9 (by decide)).2.2.2.narrow (fun _ h => h.1)) hS (vp_in_iff.mpr ⟨by omega, show _ < ((3 : Nat) : Int) by omega⟩) rfl dJ1_charAt_3b067_8 ?_
  refine tk_any (fun v2 => ?_)
  refine lv_sipush (v := 255) hx hb dJ1_charAt_3b067_9 (by decide) ?_
  refine lv_iand hx hb dJ1_charAt_3b067_12 ?_
  refine tk_say (P := fun z => 0 ≤ z.toInt ∧ z.toInt ≤ 255) (tk_and v2 8 (by decide) (by decide)) (fun v3 h_v3 => ?_)
  obtain ⟨v4, e_v4, h_v4⟩ := tk_i2c (x := v3) (by omega) (by omega)
  refine lv_i2c (v := v4) hx hb dJ1_charAt_3b067_13 e_v4 ?_
  exact tk_iret (v := v4) hx hb hr (tk_nc (by omega) (by omega)) hlocks (show 0 ≤ v4.toInt ∧ v4.toInt ≤ 255 from ⟨(by omega), (by omega)⟩) hG hS dJ1_charAt_3b067_14
set_option maxHeartbeats 4000000 in
set_option maxRecDepth 100000 in
theorem k_J0_charAt_5068e_9 (l : Launch) (D : va_G) (cy : Nat → ClassId) (ld : Nat → Nat) (t : tk_T) (p1 : Int32) (hp_0 : 0 ≤ p1.toInt) (hp_1 : p1.toInt ≤ 2) : Met l yJ0_charAt_5068e (wl yJ0_charAt_5068e cJ0_charAt_5068e 2 (some .char)) ({ frames := 6, cells := 0, slots := 0, locals := 350 }) (tp D cy ld t [] [.ref (ld 9), .int p1] (fun H => True)) (ti D cy ld t [] (fun r H => 0 ≤ r.toInt ∧ r.toInt ≤ 255) (tk_w t [])) 0 0 (tk_w t []) := by
  refine tk_met (y := yJ0_charAt_5068e) (cc := cJ0_charAt_5068e) (maxL := 2) (ret := (some .char)) (av := [.ref (ld 9), .int p1]) _ _ (by decide) (Nat.le_of_ble_eq_true rfl) ?_
  intro p e s m args below meth c hx hb hr hml hts htl hown hlocks hK H locs hH hG hS hB hZ ls hl
  have hown : s.vm.findClass RJ0 = some m.cls := hown
  have hl : lv_has ls 2 [(0, .ref (ld 9)), (1, .int p1)] := hl
  have hr_p1 := tk_rng p1
  refine lv_aload_n hx hb dJ0_charAt_5068e_0 rfl (lv_at hl 0 rfl) ?_
  refine tk_Ti (As := []) (rest := []) (j := 9) ⟨hx, hb, hml, hown, hts⟩ hK hG hZ hS (k_J0_isLatin1_aae02_9 l D cy ld t) trivial ⟨callB_of 0 hts (wl_in mw_537) rfl rfl rfl (htl _ mw_521) (htl _ mw_534) hd_yJ0_isLatin1_aae02 ⟨(Nat.le_of_ble_eq_true rfl), (Nat.le_of_ble_eq_true rfl)⟩, htl _ mw_535, htl _ mw_536⟩ (by decide) (tk_w.pick [] rfl) rfl hl.1 rfl (Nat.le_of_ble_eq_true rfl) dJ0_charAt_5068e_1 ⟨(Nat.le_of_ble_eq_true rfl), (Nat.le_of_ble_eq_true rfl)⟩ (fun v1 H locs hpo hG hS hq9 => ?_)
  obtain ⟨hpo3, hpo4, hpo5⟩ := hpo
  obtain rfl : v1 = 1 := (fi_eq (show v1.toInt = 1 by omega) (by decide)).mpr rfl
  refine lv_if_eq (tgt := 16) hx hb dJ0_charAt_5068e_4 (by decide) (fun c9 => absurd c9 (by decide)) (fun _ => ?_)
  refine lv_aload_n hx hb dJ0_charAt_5068e_7 rfl (lv_at hl 0 rfl) ?_
  refine vk_getf hx hb ((hZ.1.1 9 (by decide)).2.2.1.narrow (fun _ h => h.1)) hS hown (htl _ mw_523) (fun _ h9 => h9) dJ0_charAt_5068e_8 ?_
  refine lv_iload_n hx hb dJ0_charAt_5068e_11 rfl (lv_at hl 1 rfl) ?_
  refine tk_Si (As := [.ref (ld 59), .int p1]) (rest := []) ⟨hx, hb, hml, hown, hts⟩ hK hG hZ hS (k_J1_charAt_3b067_9 l D cy ld t p1 (by omega) (by omega)) trivial ⟨callB_of 2 hts (wl_in mw_541) rfl rfl rfl (htl _ mw_540) (htl _ mw_538) hd_yJ1_charAt_3b067 ⟨(Nat.le_of_ble_eq_true rfl), (Nat.le_of_ble_eq_true rfl)⟩, htl _ mw_539⟩ (tk_w.pick [] rfl) rfl hl.1 rfl (Nat.le_of_ble_eq_true rfl) dJ0_charAt_5068e_12 ⟨(Nat.le_of_ble_eq_true rfl), (Nat.le_of_ble_eq_true rfl)⟩ (fun v6 H locs hpo hG hS hq9 => ?_)
  obtain ⟨hpo8, hpo9⟩ := hpo
  exact tk_iret (v := v6) hx hb hr (tk_nc (by omega) (by omega)) hlocks (show 0 ≤ v6.toInt ∧ v6.toInt ≤ 255 from ⟨(by omega), (by omega)⟩) hG hS dJ0_charAt_5068e_15
set_option maxHeartbeats 4000000 in
set_option maxRecDepth 100000 in
theorem k_J0_coder_7d493_9 (l : Launch) (D : va_G) (cy : Nat → ClassId) (ld : Nat → Nat) (t : tk_T) : Met l yJ0_coder_7d493 (wl yJ0_coder_7d493 cJ0_coder_7d493 1 (some .byte)) ({ frames := 3, cells := 0, slots := 0, locals := 140 }) (tp D cy ld t [] [.ref (ld 9)] (fun H => True)) (ti D cy ld t [] (fun r H => r.toInt = 0) (tk_w t [])) 0 0 (tk_w t []) := by
  refine tk_met (y := yJ0_coder_7d493) (cc := cJ0_coder_7d493) (maxL := 1) (ret := (some .byte)) (av := [.ref (ld 9)]) _ _ (by decide) (Nat.le_of_ble_eq_true rfl) ?_
  intro p e s m args below meth c hx hb hr hml hts htl hown hlocks hK H locs hH hG hS hB hZ ls hl
  have hown : s.vm.findClass RJ0 = some m.cls := hown
  have hl : lv_has ls 1 [(0, .ref (ld 9))] := hl
  refine va_gets hx hb (hZ.2.1.narrow (fun _ h => h.1)) hS hown (htl _ mw_528) (fun _ h9 => h9) dJ0_coder_7d493_0 ?_
  refine lv_if_eq (tgt := 13) hx hb dJ0_coder_7d493_3 (by decide) (fun c9 => absurd c9 (by decide)) (fun _ => ?_)
  refine lv_aload_n hx hb dJ0_coder_7d493_6 rfl (lv_at hl 0 rfl) ?_
  refine vk_getf hx hb ((hZ.1.1 9 (by decide)).2.1.narrow (fun _ h => h.1)) hS hown (htl _ mw_529) (fun _ h9 => h9) dJ0_coder_7d493_7 ?_
  refine lv_goto (tgt := 14) hx hb dJ0_coder_7d493_10 (by decide) ?_
  have hk_0 : (0 : Int32).toInt = 0 := by decide
  exact tk_iret (v := 0) hx hb hr rfl hlocks (show (0 : Int32).toInt = 0 from (by omega)) hG hS dJ0_coder_7d493_14
set_option maxHeartbeats 4000000 in
set_option maxRecDepth 100000 in
theorem k_J0_length_8abf5_9 (l : Launch) (D : va_G) (cy : Nat → ClassId) (ld : Nat → Nat) (t : tk_T) : Met l yJ0_length_8abf5 (wl yJ0_length_8abf5 cJ0_length_8abf5 1 (some .int)) ({ frames := 4, cells := 0, slots := 0, locals := 210 }) (tp D cy ld t [] [.ref (ld 9)] (fun H => True)) (ti D cy ld t [] (fun r H => r.toInt + (-3) = 0) (tk_w t [])) 0 0 (tk_w t []) := by
  refine tk_met (y := yJ0_length_8abf5) (cc := cJ0_length_8abf5) (maxL := 1) (ret := (some .int)) (av := [.ref (ld 9)]) _ _ (by decide) (Nat.le_of_ble_eq_true rfl) ?_
  intro p e s m args below meth c hx hb hr hml hts htl hown hlocks hK H locs hH hG hS hB hZ ls hl
  have hown : s.vm.findClass RJ0 = some m.cls := hown
  have hl : lv_has ls 1 [(0, .ref (ld 9))] := hl
  refine lv_aload_n hx hb dJ0_length_8abf5_0 rfl (lv_at hl 0 rfl) ?_
  refine vk_getf hx hb ((hZ.1.1 9 (by decide)).2.2.1.narrow (fun _ h => h.1)) hS hown (htl _ mw_523) (fun _ h9 => h9) dJ0_length_8abf5_1 ?_
  refine va_tlen (v := 3) hx hb ((hZ.1.1 9 (by decide)).2.2.2.narrow (fun _ h => h.1)) hS rfl dJ0_length_8abf5_4 ?_
  refine lv_aload_n hx hb dJ0_length_8abf5_5 rfl (lv_at hl 0 rfl) ?_
  refine tk_Ti (As := []) (rest := [.int 3]) (j := 9) ⟨hx, hb, hml, hown, hts⟩ hK hG hZ hS (k_J0_coder_7d493_9 l D cy ld t) trivial ⟨callB_of 0 hts (wl_in mw_527) rfl rfl rfl (htl _ mw_521) (htl _ mw_524) hd_yJ0_coder_7d493 ⟨(Nat.le_of_ble_eq_true rfl), (Nat.le_of_ble_eq_true rfl)⟩, htl _ mw_525, htl _ mw_526⟩ (by decide) (tk_w.pick [] rfl) rfl hl.1 rfl (Nat.le_of_ble_eq_true rfl) dJ0_length_8abf5_6 ⟨(Nat.le_of_ble_eq_true rfl), (Nat.le_of_ble_eq_true rfl)⟩ (fun v1 H locs hpo hG hS hq9 => ?_)
  have hpo3 := hpo
  obtain rfl : v1 = 0 := (fi_eq (show v1.toInt = 0 by omega) (by decide)).mpr rfl
  refine lv_ishr hx hb dJ0_length_8abf5_9 ?_
  refine fx_ti (v := 3) (by decide) ?_
  have hk_3 : (3 : Int32).toInt = 3 := by decide
  exact tk_iret (v := 3) hx hb hr rfl hlocks (show (3 : Int32).toInt + (-3) = 0 from (by omega)) hG hS dJ0_length_8abf5_10
set_option maxHeartbeats 4000000 in
set_option maxRecDepth 100000 in
theorem k_X6_isToken_9 (l : Launch) (D : va_G) (cy : Nat → ClassId) (ld : Nat → Nat) (t : tk_T) (a0 : Nat) (p2 : Int32) (p3 : Int32) (ht_a0 : t a0 = (7, 0, 0)) (hp_0 : 0 ≤ p2.toInt) (hp_1 : p2.toInt ≤ 3) (hp_2 : 0 ≤ p3.toInt) (hp_3 : p3.toInt ≤ 3) : Met l yX6_isToken (wl yX6_isToken cX6_isToken 5 (some .boolean)) ({ frames := 7, cells := 0, slots := 0, locals := 420 }) (tp D cy ld t [] [.ref a0, .ref (ld 9), .int p2, .int p3] (fun H => True)) (ti D cy ld t [] (fun r H => 0 ≤ r.toInt ∧ r.toInt ≤ 1 ∧ 0 ≤ r.toInt ∧ r.toInt ≤ 1) (tk_w t [])) 0 0 (tk_w t []) := by
  refine tk_met (y := yX6_isToken) (cc := cX6_isToken) (maxL := 5) (ret := (some .boolean)) (av := [.ref a0, .ref (ld 9), .int p2, .int p3]) _ _ (by decide) (Nat.le_of_ble_eq_true rfl) ?_
  intro p e s m args below meth c hx hb hr hml hts htl hown hlocks hK H locs hH hG hS hB hZ ls hl
  have hown : s.vm.findClass RX6 = some m.cls := hown
  have hl : lv_has ls 5 [(0, .ref a0), (1, .ref (ld 9)), (2, .int p2), (3, .int p3)] := hl
  have hr_p2 := tk_rng p2
  have hr_p3 := tk_rng p3
  refine lv_iload_n hx hb dX6_isToken_0 rfl (lv_at hl 3 rfl) ?_
  refine lv_iload_n hx hb dX6_isToken_1 rfl (lv_at hl 2 rfl) ?_
  refine lv_isub hx hb dX6_isToken_2 ?_
  refine tk_sub rfl rfl (by omega) (by omega) (fun v1 h_v1 => ?_)
  refine lv_aload_n hx hb dX6_isToken_3 rfl (lv_at hl 0 rfl) ?_
  refine tk_get (ci := 6) (C := RX6) (T := TX6) (N := 11) (sp := (0, 0, 400, 0)) hx hb htl inX6 hown hK hG ht_a0 (by decide) tk_no rfl 5 (by decide) (htl _ mw_478) (fun _ h9 => h9) rfl dX6_isToken_4 (fun v9 hf2 hV9 => ?_)
  obtain ⟨v3, rfl, (ha_v3 : 0 ≤ v3.toInt), (hb_v3 : v3.toInt ≤ 400)⟩ := hV9
  refine lv_aload_n hx hb dX6_isToken_7 rfl (lv_at hl 0 rfl) ?_
  refine tk_get (ci := 6) (C := RX6) (T := TX6) (N := 11) (sp := (0, 0, 400, 0)) hx hb htl inX6 hown hK hG ht_a0 (by decide) tk_no rfl 4 (by decide) (htl _ mw_495) (fun _ h9 => h9) rfl dX6_isToken_8 (fun v9 hf4 hV9 => ?_)
  obtain ⟨v5, rfl, (ha_v5 : 0 ≤ v5.toInt), (hb_v5 : v5.toInt ≤ 400)⟩ := hV9
  refine lv_isub hx hb dX6_isToken_11 ?_
  refine tk_sub rfl rfl (by omega) (by omega) (fun v6 h_v6 => ?_)
  refine lv_icmp_eq (tgt := 17) hx hb dX6_isToken_12 (by decide) (fun c9 => ?_) (fun c9 => ?_)
  · have hc7 : v1.toInt = v6.toInt := (fi_eq rfl rfl).mp c9
    refine lv_iload_n hx hb dX6_isToken_17 rfl (lv_at hl 2 rfl) ?_
    refine lv_istore (lv' := [(4, .int p2), (0, .ref a0), (1, .ref (ld 9)), (2, .int p2), (3, .int p3)]) hx hb dX6_isToken_18 hl (by decide) rfl (fun ls hl => ?_)
    have hl82 : ∀ (N_l82 : Nat) (v8 : Int32) (H : Heap) (locs : List Loc), v8.toInt ≤ 3 → 0 ≤ (-1) * p2.toInt + v8.toInt → (-1) * v8.toInt + 3 < (N_l82 : Int) → tk_G D cy ld t [] H → va_S (tk_w t []) s.heap H locs → tk_f D H a0 6 5 (.int v3) → tk_f D H a0 6 4 (.int v5) → ∀ ls : Array Slot, lv_has ls 5 [(4, .int v8), (0, .ref a0), (1, .ref (ld 9)), (2, .int p2), (3, .int p3)] → W p l e ({ frames := 7, cells := 0, slots := 0, locals := 420 }) s m args below meth c H locs 0 0 (MQ below (ti D cy ld t [] (fun r H => 0 ≤ r.toInt ∧ r.toInt ≤ 1 ∧ 0 ≤ r.toInt ∧ r.toInt ≤ 1) (tk_w t [])) args s 0 0 (tk_w t [])) (F0 m 20 ls []) := by
      intro N_l82
      induction N_l82 with
      | zero => intro v8 H locs hq0_l82 hq1_l82 hm_l82 hG hS hf2 hf4 ls hl; exfalso; omega
      | succ N_l82 ih_l82 =>
        intro v8 H locs hq0_l82 hq1_l82 hm_l82 hG hS hf2 hf4 ls hl
        refine lv_iload hx hb dX6_isToken_20 (lv_at hl 0 rfl) ?_
        refine lv_iload_n hx hb dX6_isToken_22 rfl (lv_at hl 4 rfl) ?_
        refine lv_icmp_ge (tgt := 57) hx hb dX6_isToken_23 (by decide) (fun c9 => ?_) (fun c9 => ?_)
        · have hc83 : p3.toInt ≤ v8.toInt := (fi_le rfl rfl).mp c9
          refine lv_iconst (v := 1) hx hb dX6_isToken_57 (by decide) ?_
          have hk_1 : (1 : Int32).toInt = 1 := by decide
          exact tk_iret (v := 1) hx hb hr rfl hlocks (show 0 ≤ (1 : Int32).toInt ∧ (1 : Int32).toInt ≤ 1 ∧ 0 ≤ (1 : Int32).toInt ∧ (1 : Int32).toInt ≤ 1 from ⟨(by omega), (by omega), (by omega), (by omega)⟩) hG hS dX6_isToken_58
        · have hc83 : ¬ (p3.toInt ≤ v8.toInt) := fun h9 => c9 ((fi_le rfl rfl).mpr h9)
          refine lv_aload_n hx hb dX6_isToken_26 rfl (lv_at hl 2 rfl) ?_
          refine lv_iload hx hb dX6_isToken_27 (lv_at hl 0 rfl) ?_
          refine tk_Ti (As := [.int v8]) (rest := []) (j := 9) ⟨hx, hb, hml, hown, hts⟩ hK hG hZ hS (k_J0_charAt_5068e_9 l D cy ld t v8 (by omega) (by omega)) trivial ⟨callB_of 1 hts (wl_in mw_533) rfl rfl rfl (htl _ mw_521) (htl _ mw_530) hd_yJ0_charAt_5068e ⟨(Nat.le_of_ble_eq_true rfl), (Nat.le_of_ble_eq_true rfl)⟩, htl _ mw_531, htl _ mw_532⟩ (by decide) (tk_w.pick [] rfl) rfl hl.1 rfl (Nat.le_of_ble_eq_true rfl) dX6_isToken_29 ⟨(Nat.le_of_ble_eq_true rfl), (Nat.le_of_ble_eq_true rfl)⟩ (fun v84 H locs hpo hG hS hq9 => ?_)
          have hf2 := hf2.call hq9 tk_w.nil
          have hf4 := hf4.call hq9 tk_w.nil
          obtain ⟨hpo86, hpo87⟩ := hpo
          refine lv_aload_n hx hb dX6_isToken_32 rfl (lv_at hl 1 rfl) ?_
          refine tk_get (ci := 6) (C := RX6) (T := TX6) (N := 11) (sp := (6, 20, 400, 9)) hx hb htl inX6 hown hK hG ht_a0 (by decide) tk_no rfl 1 (by decide) (htl _ mw_133) (fun _ h9 => h9) rfl dX6_isToken_33 (fun v9 hf88 hV9 => ?_)
          obtain ⟨b89, rfl, ht_b89⟩ := hV9
          have ht_b89 : t b89 = (20, 400, 9) := ht_b89
          refine lv_aload_n hx hb dX6_isToken_36 rfl (lv_at hl 1 rfl) ?_
          refine tk_getk (ci := 6) (C := RX6) (T := TX6) (N := 11) (sp := (0, 0, 400, 0)) hx hb htl inX6 hown hK hG ht_a0 (by decide) tk_no rfl 4 (by decide) (htl _ mw_495) (fun _ h9 => h9) rfl hf4 dX6_isToken_37 ?_
          refine lv_iload hx hb dX6_isToken_40 (lv_at hl 0 rfl) ?_
          refine lv_iadd hx hb dX6_isToken_42 ?_
          refine tk_add rfl rfl (by omega) (by omega) (fun v90 h_v90 => ?_)
          refine lv_iload_n hx hb dX6_isToken_43 rfl (lv_at hl 3 rfl) ?_
          refine lv_isub hx hb dX6_isToken_44 ?_
          refine tk_sub rfl rfl (by omega) (by omega) (fun v91 h_v91 => ?_)
          refine tk_iald hx hb hK hG ht_b89 (by decide) (fun _ h => h) tk_no rfl (by omega) (by omega) dX6_isToken_45 (fun v92 _ _ => ?_)
          have hr_v92 := tk_rng v92
          refine lv_icmp_eq (tgt := 51) hx hb dX6_isToken_46 (by decide) (fun c9 => ?_) (fun c9 => ?_)
          · have hc93 : v84.toInt = v92.toInt := (fi_eq rfl rfl).mp c9
            obtain ⟨v94, h_v94, e_v94⟩ := tk_inc v8 1 (by decide) (by omega) (by omega)
            refine lv_iinc (v := v94) (lv' := [(4, .int v94), (0, .ref a0), (1, .ref (ld 9)), (2, .int p2), (3, .int p3)]) hx hb dX6_isToken_51 hl (k := 0) rfl e_v94 (by decide) rfl (fun ls hl => ?_)
            refine lv_goto (tgt := 20) hx hb dX6_isToken_54 (by decide) ?_
            exact ih_l82 v94 _ _ (by omega) (by omega) (by omega) hG hS hf2 hf4 _ (lv_sub hl [0, 1, 2, 3, 4] rfl)
          · have hc93 : ¬ (v84.toInt = v92.toInt) := fun h9 => c9 ((fi_eq rfl rfl).mpr h9)
            refine lv_iconst (v := 0) hx hb dX6_isToken_49 (by decide) ?_
            have hk_0 : (0 : Int32).toInt = 0 := by decide
            exact tk_iret (v := 0) hx hb hr rfl hlocks (show 0 ≤ (0 : Int32).toInt ∧ (0 : Int32).toInt ≤ 1 ∧ 0 ≤ (0 : Int32).toInt ∧ (0 : Int32).toInt ≤ 1 from ⟨(by omega), (by omega), (by omega), (by omega)⟩) hG hS dX6_isToken_50
    exact hl82 4 p2 _ _ (by omega) (by omega) (by omega) hG hS hf2 hf4 _ (lv_sub hl [0, 1, 2, 3, 4] rfl)
  · have hc7 : ¬ (v1.toInt = v6.toInt) := fun h9 => c9 ((fi_eq rfl rfl).mpr h9)
    refine lv_iconst (v := 0) hx hb dX6_isToken_15 (by decide) ?_
    have hk_0 : (0 : Int32).toInt = 0 := by decide
    exact tk_iret (v := 0) hx hb hr rfl hlocks (show 0 ≤ (0 : Int32).toInt ∧ (0 : Int32).toInt ≤ 1 ∧ 0 ≤ (0 : Int32).toInt ∧ (0 : Int32).toInt ≤ 1 from ⟨(by omega), (by omega), (by omega), (by omega)⟩) hG hS dX6_isToken_16
set_option maxHeartbeats 4000000 in
set_option maxRecDepth 100000 in
theorem k_X6_wordAmong_9 (l : Launch) (D : va_G) (cy : Nat → ClassId) (ld : Nat → Nat) (t : tk_T) (a0 : Nat) (ht_a0 : t a0 = (7, 0, 0)) : Met l yX6_wordAmong (wl yX6_wordAmong cX6_wordAmong 5 (some .int)) ({ frames := 8, cells := 0, slots := 0, locals := 490 }) (tp D cy ld t [] [.ref a0, .ref (ld 9)] (fun H => True)) (ti D cy ld t [] (fun r H => (-1) ≤ r.toInt ∧ r.toInt ≤ 3) (tk_w t [])) 0 0 (tk_w t []) := by
  refine tk_met (y := yX6_wordAmong) (cc := cX6_wordAmong) (maxL := 5) (ret := (some .int)) (av := [.ref a0, .ref (ld 9)]) _ _ (by decide) (Nat.le_of_ble_eq_true rfl) ?_
  intro p e s m args below meth c hx hb hr hml hts htl hown hlocks hK H locs hH hG hS hB hZ ls hl
  have hown : s.vm.findClass RX6 = some m.cls := hown
  have hl : lv_has ls 5 [(0, .ref a0), (1, .ref (ld 9))] := hl
  refine lv_aload_n hx hb dX6_wordAmong_0 rfl (lv_at hl 0 rfl) ?_
  refine tk_Vi (As := []) (rest := []) (ci := 6) ⟨hx, hb, hml, hown, hts⟩ hK hG hZ hS (k_X6_isGood l D cy ld t a0 ht_a0) trivial ⟨callB_of 0 hts (wl_in mw_503) rfl rfl rfl (htl _ mw_36) (htl _ mw_500) hd_yX6_isGood ⟨(Nat.le_of_ble_eq_true rfl), (Nat.le_of_ble_eq_true rfl)⟩, htl _ mw_501, htl _ mw_502⟩ ht_a0 (by decide) tk_no rfl (tk_w.pick [] rfl) rfl hl.1 rfl (Nat.le_of_ble_eq_true rfl) dX6_wordAmong_1 ⟨(Nat.le_of_ble_eq_true rfl), (Nat.le_of_ble_eq_true rfl)⟩ (fun v1 H locs hpo hG hS hq9 => ?_)
  obtain ⟨hpo3, hpo4, hpo5, hpo6⟩ := hpo
  refine lv_if_eq (tgt := 15) hx hb dX6_wordAmong_4 (by decide) (fun c9 => ?_) (fun c9 => ?_)
  · have hc7 : v1.toInt = 0 := (fi_eq rfl (show (0 : Int32).toInt = 0 by decide)).mp c9
    refine lv_iconst (v := (-1)) hx hb dX6_wordAmong_15 (by decide) ?_
    have hk_m1 : ((-1) : Int32).toInt = (-1) := by decide
    exact tk_iret (v := (-1)) hx hb hr rfl hlocks (show (-1) ≤ ((-1) : Int32).toInt ∧ ((-1) : Int32).toInt ≤ 3 from ⟨(by omega), (by omega)⟩) hG hS dX6_wordAmong_16
  · have hc7 : ¬ (v1.toInt = 0) := fun h9 => c9 ((fi_eq rfl (show (0 : Int32).toInt = 0 by decide)).mpr h9)
    refine lv_aload_n hx hb dX6_wordAmong_7 rfl (lv_at hl 0 rfl) ?_
    refine tk_get (ci := 6) (C := RX6) (T := TX6) (N := 11) (sp := (0, (-2147483648), 2147483647, 0)) hx hb htl inX6 hown hK hG ht_a0 (by decide) tk_no rfl 6 (by decide) (htl _ mw_482) (fun _ h9 => h9) rfl dX6_wordAmong_8 (fun v9 hf8 hV9 => ?_)
    obtain ⟨v9, rfl, (ha_v9 : (-2147483648) ≤ v9.toInt), (hb_v9 : v9.toInt ≤ 2147483647)⟩ := hV9
    refine lv_iconst (v := 1) hx hb dX6_wordAmong_11 (by decide) ?_
    refine lv_icmp_eq (tgt := 17) hx hb dX6_wordAmong_12 (by decide) (fun c9 => ?_) (fun c9 => ?_)
    · have hc10 : v9.toInt = 1 := (fi_eq rfl (show (1 : Int32).toInt = 1 by decide)).mp c9
      refine lv_iconst (v := 0) hx hb dX6_wordAmong_17 (by decide) ?_
      refine lv_istore_n (lv' := [(2, .int 0), (0, .ref a0), (1, .ref (ld 9))]) hx hb dX6_wordAmong_18 rfl hl (by decide) rfl (fun ls hl => ?_)
      refine lv_iconst (v := 0) hx hb dX6_wordAmong_19 (by decide) ?_
      refine lv_istore_n (lv' := [(3, .int 0), (2, .int 0), (0, .ref a0), (1, .ref (ld 9))]) hx hb dX6_wordAmong_20 rfl hl (by decide) rfl (fun ls hl => ?_)
      refine lv_iconst (v := 0) hx hb dX6_wordAmong_21 (by decide) ?_
      refine lv_istore (lv' := [(4, .int 0), (3, .int 0), (2, .int 0), (0, .ref a0), (1, .ref (ld 9))]) hx hb dX6_wordAmong_22 hl (by decide) rfl (fun ls hl => ?_)
      have hl275 : ∀ (N_l275 : Nat) (v11 : Int32) (v12 : Int32) (v13 : Int32) (H : Heap) (locs : List Loc), v11.toInt ≤ 4 → 0 ≤ v13.toInt → 0 ≤ v11.toInt + (-1) * v12.toInt → 0 ≤ v12.toInt + (-1) * v13.toInt → (-1) * v11.toInt + 4 < (N_l275 : Int) → tk_G D cy ld t [] H → va_S (tk_w t []) s.heap H locs → tk_f D H a0 6 6 (.int v9) → ∀ ls : Array Slot, lv_has ls 5 [(4, .int v11), (3, .int v12), (2, .int v13), (0, .ref a0), (1, .ref (ld 9))] → W p l e ({ frames := 8, cells := 0, slots := 0, locals := 490 }) s m args below meth c H locs 0 0 (MQ below (ti D cy ld t [] (fun r H => (-1) ≤ r.toInt ∧ r.toInt ≤ 3) (tk_w t [])) args s 0 0 (tk_w t [])) (F0 m 24 ls []) := by
        intro N_l275
        induction N_l275 with
        | zero => intro v11 v12 v13 H locs hq0_l275 hq1_l275 hq2_l275 hq3_l275 hm_l275 hG hS hf8 ls hl; exfalso; omega
        | succ N_l275 ih_l275 =>
          intro v11 v12 v13 H locs hq0_l275 hq1_l275 hq2_l275 hq3_l275 hm_l275 hG hS hf8 ls hl
          refine lv_iload hx hb dX6_wordAmong_24 (lv_at hl 0 rfl) ?_
          refine lv_aload_n hx hb dX6_wordAmong_26 rfl (lv_at hl 4 rfl) ?_
          refine tk_Ti (As := []) (rest := [.int v11]) (j := 9) ⟨hx, hb, hml, hown, hts⟩ hK hG hZ hS (k_J0_length_8abf5_9 l D cy ld t) trivial ⟨callB_of 0 hts (wl_in mw_522) rfl rfl rfl (htl _ mw_521) (htl _ mw_518) hd_yJ0_length_8abf5 ⟨(Nat.le_of_ble_eq_true rfl), (Nat.le_of_ble_eq_true rfl)⟩, htl _ mw_519, htl _ mw_520⟩ (by decide) (tk_w.pick [] rfl) rfl hl.1 rfl (Nat.le_of_ble_eq_true rfl) dX6_wordAmong_27 ⟨(Nat.le_of_ble_eq_true rfl), (Nat.le_of_ble_eq_true rfl)⟩ (fun v276 H locs hpo hG hS hq9 => ?_)
          have hf8 := hf8.call hq9 tk_w.nil
          have hpo278 := hpo
          obtain rfl : v276 = 3 := (fi_eq (show v276.toInt = 3 by omega) (by decide)).mpr rfl
          refine lv_icmp_gt (tgt := 80) hx hb dX6_wordAmong_30 (by decide) (fun c9 => ?_) (fun c9 => ?_)
          · have hc279 : 3 < v11.toInt := (fi_lt (show (3 : Int32).toInt = 3 by decide) rfl).mp c9
            refine lv_iconst (v := (-1)) hx hb dX6_wordAmong_80 (by decide) ?_
            have hk_m1 : ((-1) : Int32).toInt = (-1) := by decide
            exact tk_iret (v := (-1)) hx hb hr rfl hlocks (show (-1) ≤ ((-1) : Int32).toInt ∧ ((-1) : Int32).toInt ≤ 3 from ⟨(by omega), (by omega)⟩) hG hS dX6_wordAmong_81
          · have hc279 : ¬ (3 < v11.toInt) := fun h9 => c9 ((fi_lt (show (3 : Int32).toInt = 3 by decide) rfl).mpr h9)
            refine lv_iload hx hb dX6_wordAmong_33 (lv_at hl 0 rfl) ?_
            refine lv_aload_n hx hb dX6_wordAmong_35 rfl (lv_at hl 4 rfl) ?_
            refine tk_Ti (As := []) (rest := [.int v11]) (j := 9) ⟨hx, hb, hml, hown, hts⟩ hK hG hZ hS (k_J0_length_8abf5_9 l D cy ld t) trivial ⟨callB_of 0 hts (wl_in mw_522) rfl rfl rfl (htl _ mw_521) (htl _ mw_518) hd_yJ0_length_8abf5 ⟨(Nat.le_of_ble_eq_true rfl), (Nat.le_of_ble_eq_true rfl)⟩, htl _ mw_519, htl _ mw_520⟩ (by decide) (tk_w.pick [] rfl) rfl hl.1 rfl (Nat.le_of_ble_eq_true rfl) dX6_wordAmong_36 ⟨(Nat.le_of_ble_eq_true rfl), (Nat.le_of_ble_eq_true rfl)⟩ (fun v280 H locs hpo hG hS hq9 => ?_)
            have hf8 := hf8.call hq9 tk_w.nil
            have hpo282 := hpo
            obtain rfl : v280 = 3 := (fi_eq (show v280.toInt = 3 by omega) (by decide)).mpr rfl
            refine lv_icmp_eq (tgt := 53) hx hb dX6_wordAmong_39 (by decide) (fun c9 => ?_) (fun c9 => ?_)
            · have hc283 : v11.toInt = 3 := (fi_eq rfl (show (3 : Int32).toInt = 3 by decide)).mp c9
              refine lv_aload_n hx hb dX6_wordAmong_53 rfl (lv_at hl 3 rfl) ?_
              refine lv_aload_n hx hb dX6_wordAmong_54 rfl (lv_at hl 4 rfl) ?_
              refine lv_iload_n hx hb dX6_wordAmong_55 rfl (lv_at hl 1 rfl) ?_
              refine lv_iload hx hb dX6_wordAmong_56 (lv_at hl 0 rfl) ?_
              refine tk_Vi (As := [.ref (ld 9), .int v12, .int v11]) (rest := []) (ci := 6) ⟨hx, hb, hml, hown, hts⟩ hK hG hZ hS (k_X6_isToken_9 l D cy ld t a0 v12 v11 ht_a0 (by omega) (by omega) (by omega) (by omega)) trivial ⟨callB_of 3 hts (wl_in mw_570) rfl rfl rfl (htl _ mw_36) (htl _ mw_567) hd_yX6_isToken ⟨(Nat.le_of_ble_eq_true rfl), (Nat.le_of_ble_eq_true rfl)⟩, htl _ mw_568, htl _ mw_569⟩ ht_a0 (by decide) tk_no rfl (tk_w.pick [] rfl) rfl hl.1 rfl (Nat.le_of_ble_eq_true rfl) dX6_wordAmong_58 ⟨(Nat.le_of_ble_eq_true rfl), (Nat.le_of_ble_eq_true rfl)⟩ (fun v284 H locs hpo hG hS hq9 => ?_)
              have hf8 := hf8.call hq9 tk_w.nil
              obtain ⟨hpo286, hpo287, hpo288, hpo289⟩ := hpo
              refine lv_if_eq (tgt := 66) hx hb dX6_wordAmong_61 (by decide) (fun c9 => ?_) (fun c9 => ?_)
              · have hc290 : v284.toInt = 0 := (fi_eq rfl (show (0 : Int32).toInt = 0 by decide)).mp c9
                obtain ⟨v291, h_v291, e_v291⟩ := tk_inc v13 1 (by decide) (by omega) (by omega)
                refine lv_iinc (v := v291) (lv' := [(2, .int v291), (4, .int v11), (3, .int v12), (0, .ref a0), (1, .ref (ld 9))]) hx hb dX6_wordAmong_66 hl (k := 2) rfl e_v291 (by decide) rfl (fun ls hl => ?_)
                refine lv_iload hx hb dX6_wordAmong_69 (lv_at hl 1 rfl) ?_
                refine lv_iconst (v := 1) hx hb dX6_wordAmong_71 (by decide) ?_
                refine lv_iadd hx hb dX6_wordAmong_72 ?_
                refine tk_add rfl (show (1 : Int32).toInt = 1 by decide) (by omega) (by omega) (fun v292 h_v292 => ?_)
                refine lv_istore_n (lv' := [(3, .int v292), (2, .int v291), (4, .int v11), (0, .ref a0), (1, .ref (ld 9))]) hx hb dX6_wordAmong_73 rfl hl (by decide) rfl (fun ls hl => ?_)
                obtain ⟨v293, h_v293, e_v293⟩ := tk_inc v11 1 (by decide) (by omega) (by omega)
                refine lv_iinc (v := v293) (lv' := [(4, .int v293), (3, .int v292), (2, .int v291), (0, .ref a0), (1, .ref (ld 9))]) hx hb dX6_wordAmong_74 hl (k := 2) rfl e_v293 (by decide) rfl (fun ls hl => ?_)
                refine lv_goto (tgt := 24) hx hb dX6_wordAmong_77 (by decide) ?_
                exact ih_l275 v293 v292 v291 _ _ (by omega) (by omega) (by omega) (by omega) (by omega) hG hS hf8 _ (lv_sub hl [0, 1, 2, 3, 4] rfl)
              · have hc290 : ¬ (v284.toInt = 0) := fun h9 => c9 ((fi_eq rfl (show (0 : Int32).toInt = 0 by decide)).mpr h9)
                refine lv_iload_n hx hb dX6_wordAmong_64 rfl (lv_at hl 2 rfl) ?_
                exact tk_iret (v := v13) hx hb hr rfl hlocks (show (-1) ≤ v13.toInt ∧ v13.toInt ≤ 3 from ⟨(by omega), (by omega)⟩) hG hS dX6_wordAmong_65
            · have hc283 : ¬ (v11.toInt = 3) := fun h9 => c9 ((fi_eq rfl (show (3 : Int32).toInt = 3 by decide)).mpr h9)
              refine lv_aload_n hx hb dX6_wordAmong_42 rfl (lv_at hl 4 rfl) ?_
              refine lv_iload hx hb dX6_wordAmong_43 (lv_at hl 0 rfl) ?_
              refine tk_Ti (As := [.int v11]) (rest := []) (j := 9) ⟨hx, hb, hml, hown, hts⟩ hK hG hZ hS (k_J0_charAt_5068e_9 l D cy ld t v11 (by omega) (by omega)) trivial ⟨callB_of 1 hts (wl_in mw_533) rfl rfl rfl (htl _ mw_521) (htl _ mw_530) hd_yJ0_charAt_5068e ⟨(Nat.le_of_ble_eq_true rfl), (Nat.le_of_ble_eq_true rfl)⟩, htl _ mw_531, htl _ mw_532⟩ (by decide) (tk_w.pick [] rfl) rfl hl.1 rfl (Nat.le_of_ble_eq_true rfl) dX6_wordAmong_45 ⟨(Nat.le_of_ble_eq_true rfl), (Nat.le_of_ble_eq_true rfl)⟩ (fun v294 H locs hpo hG hS hq9 => ?_)
              have hf8 := hf8.call hq9 tk_w.nil
              obtain ⟨hpo296, hpo297⟩ := hpo
              refine lv_bipush (v := 32) hx hb dX6_wordAmong_48 (by decide) ?_
              refine lv_icmp_ne (tgt := 74) hx hb dX6_wordAmong_50 (by decide) (fun c9 => ?_) (fun c9 => ?_)
              · have hc298 : ¬ (v294.toInt = 32) := fun h9 => c9 ((fi_eq rfl (show (32 : Int32).toInt = 32 by decide)).mpr h9)
                obtain ⟨v299, h_v299, e_v299⟩ := tk_inc v11 1 (by decide) (by omega) (by omega)
                refine lv_iinc (v := v299) (lv' := [(4, .int v299), (3, .int v12), (2, .int v13), (0, .ref a0), (1, .ref (ld 9))]) hx hb dX6_wordAmong_74 hl (k := 0) rfl e_v299 (by decide) rfl (fun ls hl => ?_)
                refine lv_goto (tgt := 24) hx hb dX6_wordAmong_77 (by decide) ?_
                exact ih_l275 v299 v12 v13 _ _ (by omega) (by omega) (by omega) (by omega) (by omega) hG hS hf8 _ (lv_sub hl [0, 1, 2, 3, 4] rfl)
              · have hc298 : v294.toInt = 32 := (fi_eq rfl (show (32 : Int32).toInt = 32 by decide)).mp c9
                refine lv_aload_n hx hb dX6_wordAmong_53 rfl (lv_at hl 3 rfl) ?_
                refine lv_aload_n hx hb dX6_wordAmong_54 rfl (lv_at hl 4 rfl) ?_
                refine lv_iload_n hx hb dX6_wordAmong_55 rfl (lv_at hl 1 rfl) ?_
                refine lv_iload hx hb dX6_wordAmong_56 (lv_at hl 0 rfl) ?_
                refine tk_Vi (As := [.ref (ld 9), .int v12, .int v11]) (rest := []) (ci := 6) ⟨hx, hb, hml, hown, hts⟩ hK hG hZ hS (k_X6_isToken_9 l D cy ld t a0 v12 v11 ht_a0 (by omega) (by omega) (by omega) (by omega)) trivial ⟨callB_of 3 hts (wl_in mw_570) rfl rfl rfl (htl _ mw_36) (htl _ mw_567) hd_yX6_isToken ⟨(Nat.le_of_ble_eq_true rfl), (Nat.le_of_ble_eq_true rfl)⟩, htl _ mw_568, htl _ mw_569⟩ ht_a0 (by decide) tk_no rfl (tk_w.pick [] rfl) rfl hl.1 rfl (Nat.le_of_ble_eq_true rfl) dX6_wordAmong_58 ⟨(Nat.le_of_ble_eq_true rfl), (Nat.le_of_ble_eq_true rfl)⟩ (fun v300 H locs hpo hG hS hq9 => ?_)
                have hf8 := hf8.call hq9 tk_w.nil
                obtain ⟨hpo302, hpo303, hpo304, hpo305⟩ := hpo
                refine lv_if_eq (tgt := 66) hx hb dX6_wordAmong_61 (by decide) (fun c9 => ?_) (fun c9 => ?_)
                · have hc306 : v300.toInt = 0 := (fi_eq rfl (show (0 : Int32).toInt = 0 by decide)).mp c9
                  obtain ⟨v307, h_v307, e_v307⟩ := tk_inc v13 1 (by decide) (by omega) (by omega)
                  refine lv_iinc (v := v307) (lv' := [(2, .int v307), (4, .int v11), (3, .int v12), (0, .ref a0), (1, .ref (ld 9))]) hx hb dX6_wordAmong_66 hl (k := 2) rfl e_v307 (by decide) rfl (fun ls hl => ?_)
                  refine lv_iload hx hb dX6_wordAmong_69 (lv_at hl 1 rfl) ?_
                  refine lv_iconst (v := 1) hx hb dX6_wordAmong_71 (by decide) ?_
                  refine lv_iadd hx hb dX6_wordAmong_72 ?_
                  refine tk_add rfl (show (1 : Int32).toInt = 1 by decide) (by omega) (by omega) (fun v308 h_v308 => ?_)
                  refine lv_istore_n (lv' := [(3, .int v308), (2, .int v307), (4, .int v11), (0, .ref a0), (1, .ref (ld 9))]) hx hb dX6_wordAmong_73 rfl hl (by decide) rfl (fun ls hl => ?_)
                  obtain ⟨v309, h_v309, e_v309⟩ := tk_inc v11 1 (by decide) (by omega) (by omega)
                  refine lv_iinc (v := v309) (lv' := [(4, .int v309), (3, .int v308), (2, .int v307), (0, .ref a0), (1, .ref (ld 9))]) hx hb dX6_wordAmong_74 hl (k := 2) rfl e_v309 (by decide) rfl (fun ls hl => ?_)
                  refine lv_goto (tgt := 24) hx hb dX6_wordAmong_77 (by decide) ?_
                  exact ih_l275 v309 v308 v307 _ _ (by omega) (by omega) (by omega) (by omega) (by omega) hG hS hf8 _ (lv_sub hl [0, 1, 2, 3, 4] rfl)
                · have hc306 : ¬ (v300.toInt = 0) := fun h9 => c9 ((fi_eq rfl (show (0 : Int32).toInt = 0 by decide)).mpr h9)
                  refine lv_iload_n hx hb dX6_wordAmong_64 rfl (lv_at hl 2 rfl) ?_
                  exact tk_iret (v := v13) hx hb hr rfl hlocks (show (-1) ≤ v13.toInt ∧ v13.toInt ≤ 3 from ⟨(by omega), (by omega)⟩) hG hS dX6_wordAmong_65
      have hk_0 : (0 : Int32).toInt = 0 := by decide
      have hk_0 : (0 : Int32).toInt = 0 := by decide
      have hk_0 : (0 : Int32).toInt = 0 := by decide
      exact hl275 5 0 0 0 _ _ (by omega) (by omega) (by omega) (by omega) (by omega) hG hS hf8 _ (lv_sub hl [0, 1, 2, 3, 4] rfl)
    · have hc10 : ¬ (v9.toInt = 1) := fun h9 => c9 ((fi_eq rfl (show (1 : Int32).toInt = 1 by decide)).mpr h9)
      refine lv_iconst (v := (-1)) hx hb dX6_wordAmong_15 (by decide) ?_
      have hk_m1 : ((-1) : Int32).toInt = (-1) := by decide
      exact tk_iret (v := (-1)) hx hb hr rfl hlocks (show (-1) ≤ ((-1) : Int32).toInt ∧ ((-1) : Int32).toInt ≤ 3 from ⟨(by omega), (by omega)⟩) hG hS dX6_wordAmong_16
set_option maxHeartbeats 4000000 in
set_option maxRecDepth 100000 in
theorem k_X6_isWord_9 (l : Launch) (D : va_G) (cy : Nat → ClassId) (ld : Nat → Nat) (t : tk_T) (a0 : Nat) (ht_a0 : t a0 = (7, 0, 0)) : Met l yX6_isWord (wl yX6_isWord cX6_isWord 2 (some .boolean)) ({ frames := 9, cells := 0, slots := 0, locals := 560 }) (tp D cy ld t [] [.ref a0, .ref (ld 9)] (fun H => True)) (ti D cy ld t [] (fun r H => 0 ≤ r.toInt ∧ r.toInt ≤ 1 ∧ 0 ≤ r.toInt ∧ r.toInt ≤ 1) (tk_w t [])) 0 0 (tk_w t []) := by
  refine tk_met (y := yX6_isWord) (cc := cX6_isWord) (maxL := 2) (ret := (some .boolean)) (av := [.ref a0, .ref (ld 9)]) _ _ (by decide) (Nat.le_of_ble_eq_true rfl) ?_
  intro p e s m args below meth c hx hb hr hml hts htl hown hlocks hK H locs hH hG hS hB hZ ls hl
  have hown : s.vm.findClass RX6 = some m.cls := hown
  have hl : lv_has ls 2 [(0, .ref a0), (1, .ref (ld 9))] := hl
  refine lv_aload_n hx hb dX6_isWord_0 rfl (lv_at hl 0 rfl) ?_
  refine lv_aload_n hx hb dX6_isWord_1 rfl (lv_at hl 1 rfl) ?_
  refine tk_Vi (As := [.ref (ld 9)]) (rest := []) (ci := 6) ⟨hx, hb, hml, hown, hts⟩ hK hG hZ hS (k_X6_wordAmong_9 l D cy ld t a0 ht_a0) trivial ⟨callB_of 1 hts (wl_in mw_517) rfl rfl rfl (htl _ mw_36) (htl _ mw_514) hd_yX6_wordAmong ⟨(Nat.le_of_ble_eq_true rfl), (Nat.le_of_ble_eq_true rfl)⟩, htl _ mw_515, htl _ mw_516⟩ ht_a0 (by decide) tk_no rfl (tk_w.pick [] rfl) rfl hl.1 rfl (Nat.le_of_ble_eq_true rfl) dX6_isWord_2 ⟨(Nat.le_of_ble_eq_true rfl), (Nat.le_of_ble_eq_true rfl)⟩ (fun v1 H locs hpo hG hS hq9 => ?_)
  obtain ⟨hpo3, hpo4⟩ := hpo
  refine lv_if_ne (tgt := 12) hx hb dX6_isWord_5 (by decide) (fun c9 => ?_) (fun c9 => ?_)
  · have hc5 : ¬ (v1.toInt = 0) := fun h9 => c9 ((fi_eq rfl (show (0 : Int32).toInt = 0 by decide)).mpr h9)
    refine lv_iconst (v := 0) hx hb dX6_isWord_12 (by decide) ?_
    have hk_0 : (0 : Int32).toInt = 0 := by decide
    exact tk_iret (v := 0) hx hb hr rfl hlocks (show 0 ≤ (0 : Int32).toInt ∧ (0 : Int32).toInt ≤ 1 ∧ 0 ≤ (0 : Int32).toInt ∧ (0 : Int32).toInt ≤ 1 from ⟨(by omega), (by omega), (by omega), (by omega)⟩) hG hS dX6_isWord_13
  · have hc5 : v1.toInt = 0 := (fi_eq rfl (show (0 : Int32).toInt = 0 by decide)).mp c9
    refine lv_iconst (v := 1) hx hb dX6_isWord_8 (by decide) ?_
    refine lv_goto (tgt := 13) hx hb dX6_isWord_9 (by decide) ?_
    have hk_1 : (1 : Int32).toInt = 1 := by decide
    exact tk_iret (v := 1) hx hb hr rfl hlocks (show 0 ≤ (1 : Int32).toInt ∧ (1 : Int32).toInt ≤ 1 ∧ 0 ≤ (1 : Int32).toInt ∧ (1 : Int32).toInt ≤ 1 from ⟨(by omega), (by omega), (by omega), (by omega)⟩) hG hS dX6_isWord_13
theorem dX6_kindOf_0 : decode cX6_kindOf 0 = .ok (.iload_n 0, 1) := by decide +kernel
theorem dX6_kindOf_1 : decode cX6_kindOf 1 = .ok (.bipush 97, 2) := by decide +kernel
theorem dX6_kindOf_3 : decode cX6_kindOf 3 = .ok (.if_icmp .lt 11, 3) := by decide +kernel
theorem dX6_kindOf_14 : decode cX6_kindOf 14 = .ok (.iload_n 0, 1) := by decide +kernel
theorem dX6_kindOf_15 : decode cX6_kindOf 15 = .ok (.bipush 48, 2) := by decide +kernel
theorem dX6_kindOf_17 : decode cX6_kindOf 17 = .ok (.if_icmp .lt 13, 3) := by decide +kernel
theorem dX6_kindOf_30 : decode cX6_kindOf 30 = .ok (.iconst 3, 1) := by decide +kernel
theorem dX6_kindOf_31 : decode cX6_kindOf 31 = .ok (.ireturn, 1) := by decide +kernel
theorem dX6_kindOf_20 : decode cX6_kindOf 20 = .ok (.iload_n 0, 1) := by decide +kernel
theorem dX6_kindOf_21 : decode cX6_kindOf 21 = .ok (.bipush 57, 2) := by decide +kernel
theorem dX6_kindOf_23 : decode cX6_kindOf 23 = .ok (.if_icmp .gt 7, 3) := by decide +kernel
theorem dX6_kindOf_26 : decode cX6_kindOf 26 = .ok (.iconst 2, 1) := by decide +kernel
theorem dX6_kindOf_27 : decode cX6_kindOf 27 = .ok (.goto 4, 3) := by decide +kernel
theorem dX6_kindOf_6 : decode cX6_kindOf 6 = .ok (.iload_n 0, 1) := by decide +kernel
theorem dX6_kindOf_7 : decode cX6_kindOf 7 = .ok (.bipush 122, 2) := by decide +kernel
theorem dX6_kindOf_9 : decode cX6_kindOf 9 = .ok (.if_icmp .gt 5, 3) := by decide +kernel
theorem dX6_kindOf_12 : decode cX6_kindOf 12 = .ok (.iconst 1, 1) := by decide +kernel
theorem dX6_kindOf_13 : decode cX6_kindOf 13 = .ok (.ireturn, 1) := by decide +kernel
set_option maxHeartbeats 4000000 in
set_option maxRecDepth 100000 in
theorem k_X6_kindOf (l : Launch) (D : va_G) (cy : Nat → ClassId) (ld : Nat → Nat) (t : tk_T) (X : List Nat) (p0 : Int32) : Met l yX6_kindOf (wl yX6_kindOf cX6_kindOf 1 (some .int)) ({ frames := 3, cells := 0, slots := 0, locals := 140 }) (tp D cy ld t X [.int p0] (fun H => True)) (ti D cy ld t X (fun r H => 1 ≤ r.toInt ∧ r.toInt ≤ 3) (tk_w t [])) 0 0 (tk_w t []) := by
  refine tk_met (y := yX6_kindOf) (cc := cX6_kindOf) (maxL := 1) (ret := (some .int)) (av := [.int p0]) _ _ (by decide) (Nat.le_of_ble_eq_true rfl) ?_
  intro p e s m args below meth c hx hb hr hml hts htl hown hlocks hK H locs hH hG hS hB hZ ls hl
  have hown : s.vm.findClass RX6 = some m.cls := hown
  have hl : lv_has ls 1 [(0, .int p0)] := hl
  have hr_p0 := tk_rng p0
  refine lv_iload_n hx hb dX6_kindOf_0 rfl (lv_at hl 0 rfl) ?_
  refine lv_bipush (v := 97) hx hb dX6_kindOf_1 (by decide) ?_
  refine lv_icmp_lt (tgt := 14) hx hb dX6_kindOf_3 (by decide) (fun c9 => ?_) (fun c9 => ?_)
  · have hc1 : p0.toInt < 97 := (fi_lt rfl (show (97 : Int32).toInt = 97 by decide)).mp c9
    refine lv_iload_n hx hb dX6_kindOf_14 rfl (lv_at hl 0 rfl) ?_
    refine lv_bipush (v := 48) hx hb dX6_kindOf_15 (by decide) ?_
    refine lv_icmp_lt (tgt := 30) hx hb dX6_kindOf_17 (by decide) (fun c9 => ?_) (fun c9 => ?_)
    · have hc2 : p0.toInt < 48 := (fi_lt rfl (show (48 : Int32).toInt = 48 by decide)).mp c9
      refine lv_iconst (v := 3) hx hb dX6_kindOf_30 (by decide) ?_
      have hk_3 : (3 : Int32).toInt = 3 := by decide
      exact tk_iret (v := 3) hx hb hr rfl hlocks (show 1 ≤ (3 : Int32).toInt ∧ (3 : Int32).toInt ≤ 3 from ⟨(by omega), (by omega)⟩) hG hS dX6_kindOf_31
    · have hc2 : ¬ (p0.toInt < 48) := fun h9 => c9 ((fi_lt rfl (show (48 : Int32).toInt = 48 by decide)).mpr h9)
      refine lv_iload_n hx hb dX6_kindOf_20 rfl (lv_at hl 0 rfl) ?_
      refine lv_bipush (v := 57) hx hb dX6_kindOf_21 (by decide) ?_
      refine lv_icmp_gt (tgt := 30) hx hb dX6_kindOf_23 (by decide) (fun c9 => ?_) (fun c9 => ?_)
      · have hc3 : 57 < p0.toInt := (fi_lt (show (57 : Int32).toInt = 57 by decide) rfl).mp c9
        refine lv_iconst (v := 3) hx hb dX6_kindOf_30 (by decide) ?_
        have hk_3 : (3 : Int32).toInt = 3 := by decide
        exact tk_iret (v := 3) hx hb hr rfl hlocks (show 1 ≤ (3 : Int32).toInt ∧ (3 : Int32).toInt ≤ 3 from ⟨(by omega), (by omega)⟩) hG hS dX6_kindOf_31
      · have hc3 : ¬ (57 < p0.toInt) := fun h9 => c9 ((fi_lt (show (57 : Int32).toInt = 57 by decide) rfl).mpr h9)
        refine lv_iconst (v := 2) hx hb dX6_kindOf_26 (by decide) ?_
        refine lv_goto (tgt := 31) hx hb dX6_kindOf_27 (by decide) ?_
        have hk_2 : (2 : Int32).toInt = 2 := by decide
        exact tk_iret (v := 2) hx hb hr rfl hlocks (show 1 ≤ (2 : Int32).toInt ∧ (2 : Int32).toInt ≤ 3 from ⟨(by omega), (by omega)⟩) hG hS dX6_kindOf_31
  · have hc1 : ¬ (p0.toInt < 97) := fun h9 => c9 ((fi_lt rfl (show (97 : Int32).toInt = 97 by decide)).mpr h9)
    refine lv_iload_n hx hb dX6_kindOf_6 rfl (lv_at hl 0 rfl) ?_
    refine lv_bipush (v := 122) hx hb dX6_kindOf_7 (by decide) ?_
    refine lv_icmp_gt (tgt := 14) hx hb dX6_kindOf_9 (by decide) (fun c9 => ?_) (fun c9 => ?_)
    · have hc4 : 122 < p0.toInt := (fi_lt (show (122 : Int32).toInt = 122 by decide) rfl).mp c9
      refine lv_iload_n hx hb dX6_kindOf_14 rfl (lv_at hl 0 rfl) ?_
      refine lv_bipush (v := 48) hx hb dX6_kindOf_15 (by decide) ?_
      refine lv_icmp_lt (tgt := 30) hx hb dX6_kindOf_17 (by decide) (fun c9 => absurd (show p0.toInt < 48 from (fi_lt rfl (show (48 : Int32).toInt = 48 by decide)).mp c9) (by omega)) (fun _ => ?_)
      refine lv_iload_n hx hb dX6_kindOf_20 rfl (lv_at hl 0 rfl) ?_
      refine lv_bipush (v := 57) hx hb dX6_kindOf_21 (by decide) ?_
      refine lv_icmp_gt (tgt := 30) hx hb dX6_kindOf_23 (by decide) (fun _ => ?_) (fun c9 => absurd ((fi_lt (show (57 : Int32).toInt = 57 by decide) rfl).mpr (show 57 < p0.toInt by omega)) c9)
      refine lv_iconst (v := 3) hx hb dX6_kindOf_30 (by decide) ?_
      have hk_3 : (3 : Int32).toInt = 3 := by decide
      exact tk_iret (v := 3) hx hb hr rfl hlocks (show 1 ≤ (3 : Int32).toInt ∧ (3 : Int32).toInt ≤ 3 from ⟨(by omega), (by omega)⟩) hG hS dX6_kindOf_31
    · have hc4 : ¬ (122 < p0.toInt) := fun h9 => c9 ((fi_lt (show (122 : Int32).toInt = 122 by decide) rfl).mpr h9)
      refine lv_iconst (v := 1) hx hb dX6_kindOf_12 (by decide) ?_
      have hk_1 : (1 : Int32).toInt = 1 := by decide
      exact tk_iret (v := 1) hx hb hr rfl hlocks (show 1 ≤ (1 : Int32).toInt ∧ (1 : Int32).toInt ≤ 3 from ⟨(by omega), (by omega)⟩) hG hS dX6_kindOf_13
theorem dX6_step_0 : decode cX6_step 0 = .ok (.aload_n 0, 1) := by decide +kernel
theorem dX6_step_1 : decode cX6_step 1 = .ok (.getfield 41, 3) := by decide +kernel
theorem dX6_step_4 : decode cX6_step 4 = .ok (.istore_n 1, 1) := by decide +kernel
theorem dX6_step_5 : decode cX6_step 5 = .ok (.iload_n 1, 1) := by decide +kernel
theorem dX6_step_6 : decode cX6_step 6 = .ok (.aload_n 0, 1) := by decide +kernel
theorem dX6_step_7 : decode cX6_step 7 = .ok (.getfield 33, 3) := by decide +kernel
theorem dX6_step_30 : decode cX6_step 30 = .ok (.aload_n 0, 1) := by decide +kernel
theorem dX6_step_31 : decode cX6_step 31 = .ok (.iload_n 1, 1) := by decide +kernel
theorem dX6_step_32 : decode cX6_step 32 = .ok (.putfield 73, 3) := by decide +kernel
theorem dX6_step_35 : decode cX6_step 35 = .ok (.aload_n 0, 1) := by decide +kernel
theorem dX6_step_36 : decode cX6_step 36 = .ok (.iload_n 1, 1) := by decide +kernel
theorem dX6_step_37 : decode cX6_step 37 = .ok (.aload_n 0, 1) := by decide +kernel
theorem dX6_step_38 : decode cX6_step 38 = .ok (.getfield 33, 3) := by decide +kernel
theorem dX6_step_41 : decode cX6_step 41 = .ok (.if_icmp .ge 15, 3) := by decide +kernel
theorem dX6_step_56 : decode cX6_step 56 = .ok (.iconst 0, 1) := by decide +kernel
theorem dX6_step_57 : decode cX6_step 57 = .ok (.putfield 67, 3) := by decide +kernel
theorem dX6_step_60 : decode cX6_step 60 = .ok (.aload_n 0, 1) := by decide +kernel
theorem dX6_step_61 : decode cX6_step 61 = .ok (.iconst 0, 1) := by decide +kernel
theorem dX6_step_62 : decode cX6_step 62 = .ok (.putfield 80, 3) := by decide +kernel
theorem dX6_step_65 : decode cX6_step 65 = .ok (.iload_n 1, 1) := by decide +kernel
theorem dX6_step_66 : decode cX6_step 66 = .ok (.istore_n 2, 1) := by decide +kernel
theorem dX6_step_67 : decode cX6_step 67 = .ok (.iload_n 1, 1) := by decide +kernel
theorem dX6_step_68 : decode cX6_step 68 = .ok (.aload_n 0, 1) := by decide +kernel
theorem dX6_step_69 : decode cX6_step 69 = .ok (.getfield 33, 3) := by decide +kernel
theorem dX6_step_72 : decode cX6_step 72 = .ok (.if_icmp .ge 77, 3) := by decide +kernel
theorem dX6_step_149 : decode cX6_step 149 = .ok (.aload_n 0, 1) := by decide +kernel
theorem dX6_step_150 : decode cX6_step 150 = .ok (.iload_n 1, 1) := by decide +kernel
theorem dX6_step_151 : decode cX6_step 151 = .ok (.putfield 41, 3) := by decide +kernel
theorem dX6_step_154 : decode cX6_step 154 = .ok (.return_, 1) := by decide +kernel
theorem dX6_step_44 : decode cX6_step 44 = .ok (.aload_n 0, 1) := by decide +kernel
theorem dX6_step_45 : decode cX6_step 45 = .ok (.getfield 20, 3) := by decide +kernel
theorem dX6_step_48 : decode cX6_step 48 = .ok (.iload_n 1, 1) := by decide +kernel
theorem dX6_step_49 : decode cX6_step 49 = .ok (.iaload, 1) := by decide +kernel
theorem dX6_step_50 : decode cX6_step 50 = .ok (.invokestatic 76, 3) := by decide +kernel
theorem dX6_step_53 : decode cX6_step 53 = .ok (.goto 4, 3) := by decide +kernel
theorem dX6_step_75 : decode cX6_step 75 = .ok (.iload_n 1, 1) := by decide +kernel
theorem dX6_step_76 : decode cX6_step 76 = .ok (.iload_n 2, 1) := by decide +kernel
theorem dX6_step_77 : decode cX6_step 77 = .ok (.if_icmp .eq 11, 3) := by decide +kernel
theorem dX6_step_88 : decode cX6_step 88 = .ok (.aload_n 0, 1) := by decide +kernel
theorem dX6_step_89 : decode cX6_step 89 = .ok (.getfield 20, 3) := by decide +kernel
theorem dX6_step_92 : decode cX6_step 92 = .ok (.iload_n 1, 1) := by decide +kernel
theorem dX6_step_93 : decode cX6_step 93 = .ok (.iaload, 1) := by decide +kernel
theorem dX6_step_94 : decode cX6_step 94 = .ok (.invokestatic 76, 3) := by decide +kernel
theorem dX6_step_97 : decode cX6_step 97 = .ok (.aload_n 0, 1) := by decide +kernel
theorem dX6_step_98 : decode cX6_step 98 = .ok (.getfield 67, 3) := by decide +kernel
theorem dX6_step_101 : decode cX6_step 101 = .ok (.if_icmp .ne 48, 3) := by decide +kernel
theorem dX6_step_104 : decode cX6_step 104 = .ok (.aload_n 0, 1) := by decide +kernel
theorem dX6_step_105 : decode cX6_step 105 = .ok (.aload_n 0, 1) := by decide +kernel
theorem dX6_step_106 : decode cX6_step 106 = .ok (.getfield 67, 3) := by decide +kernel
theorem dX6_step_109 : decode cX6_step 109 = .ok (.iconst 2, 1) := by decide +kernel
theorem dX6_step_140 : decode cX6_step 140 = .ok (.putfield 80, 3) := by decide +kernel
theorem dX6_step_143 : decode cX6_step 143 = .ok (.iinc 1 1, 3) := by decide +kernel
theorem dX6_step_146 : decode cX6_step 146 = .ok (.goto (-79), 3) := by decide +kernel
theorem dX6_step_110 : decode cX6_step 110 = .ok (.if_icmp .ne 29, 3) := by decide +kernel
theorem dX6_step_139 : decode cX6_step 139 = .ok (.iconst 0, 1) := by decide +kernel
theorem dX6_step_113 : decode cX6_step 113 = .ok (.aload_n 0, 1) := by decide +kernel
theorem dX6_step_114 : decode cX6_step 114 = .ok (.getfield 80, 3) := by decide +kernel
theorem dX6_step_117 : decode cX6_step 117 = .ok (.bipush 10, 2) := by decide +kernel
theorem dX6_step_119 : decode cX6_step 119 = .ok (.imul, 1) := by decide +kernel
theorem dX6_step_120 : decode cX6_step 120 = .ok (.aload_n 0, 1) := by decide +kernel
theorem dX6_step_121 : decode cX6_step 121 = .ok (.getfield 20, 3) := by decide +kernel
theorem dX6_step_124 : decode cX6_step 124 = .ok (.iload_n 1, 1) := by decide +kernel
theorem dX6_step_125 : decode cX6_step 125 = .ok (.iaload, 1) := by decide +kernel
theorem dX6_step_126 : decode cX6_step 126 = .ok (.iadd, 1) := by decide +kernel
theorem dX6_step_127 : decode cX6_step 127 = .ok (.bipush 48, 2) := by decide +kernel
theorem dX6_step_129 : decode cX6_step 129 = .ok (.isub, 1) := by decide +kernel
theorem dX6_step_130 : decode cX6_step 130 = .ok (.sipush 1001, 3) := by decide +kernel
theorem dX6_step_133 : decode cX6_step 133 = .ok (.invokestatic 27, 3) := by decide +kernel
theorem dX6_step_136 : decode cX6_step 136 = .ok (.goto 4, 3) := by decide +kernel
theorem dX6_step_80 : decode cX6_step 80 = .ok (.aload_n 0, 1) := by decide +kernel
theorem dX6_step_81 : decode cX6_step 81 = .ok (.getfield 67, 3) := by decide +kernel
theorem dX6_step_84 : decode cX6_step 84 = .ok (.iconst 3, 1) := by decide +kernel
theorem dX6_step_85 : decode cX6_step 85 = .ok (.if_icmp .eq 64, 3) := by decide +kernel
theorem dX6_step_10 : decode cX6_step 10 = .ok (.if_icmp .ge 20, 3) := by decide +kernel
theorem dX6_step_13 : decode cX6_step 13 = .ok (.aload_n 0, 1) := by decide +kernel
theorem dX6_step_14 : decode cX6_step 14 = .ok (.getfield 20, 3) := by decide +kernel
theorem dX6_step_17 : decode cX6_step 17 = .ok (.iload_n 1, 1) := by decide +kernel
theorem dX6_step_18 : decode cX6_step 18 = .ok (.iaload, 1) := by decide +kernel
theorem dX6_step_19 : decode cX6_step 19 = .ok (.bipush 32, 2) := by decide +kernel
theorem dX6_step_21 : decode cX6_step 21 = .ok (.if_icmp .ne 9, 3) := by decide +kernel
theorem dX6_step_24 : decode cX6_step 24 = .ok (.iinc 1 1, 3) := by decide +kernel
theorem dX6_step_27 : decode cX6_step 27 = .ok (.goto (-22), 3) := by decide +kernel
set_option maxHeartbeats 4000000 in
set_option maxRecDepth 100000 in
theorem k_X6_step (l : Launch) (D : va_G) (cy : Nat → ClassId) (ld : Nat → Nat) (t : tk_T) (a0 : Nat) (g9 : Int32) (ht_a0 : t a0 = (7, 0, 0)) (hp_0 : 0 ≤ g9.toInt) (hp_1 : g9.toInt ≤ 8) : Met l yX6_step (wl yX6_step cX6_step 3 none) ({ frames := 4, cells := 0, slots := 0, locals := 210 }) (tp D cy ld t [] [.ref a0] (fun H => tk_f D H a0 6 9 (.int g9))) (tv D cy ld t [] (fun H => tk_f D H a0 6 9 (.int g9)) (tk_w t [(7, 0, 0)])) 0 0 (tk_w t [(7, 0, 0)]) := by
  refine tk_met (y := yX6_step) (cc := cX6_step) (maxL := 3) (ret := none) (av := [.ref a0]) _ _ (by decide) (Nat.le_of_ble_eq_true rfl) ?_
  intro p e s m args below meth c hx hb hr hml hts htl hown hlocks hK H locs hH hG hS hB hZ ls hl
  have hown : s.vm.findClass RX6 = some m.cls := hown
  have hl : lv_has ls 3 [(0, .ref a0)] := hl
  have hg_0 := hB
  obtain ⟨b1, b2, v3, v4, v5, v6, v7, v8, v9, v10, v11, hat, ht_b1, ht_b2, ha_v3, hb_v3, ha_v4, hb_v4, ha_v5, hb_v5, ha_v6, hb_v6, ha_v7, hb_v7, ha_v8, hb_v8, ha_v9, hb_v9, ha_v10, hb_v10, ha_v11, hb_v11, hxx9⟩ := tk_op6 hG ht_a0
  have e9 : g9 = v10 := by have h9 := hg_0.same (tk_f.of (C := RX6) (T := TX6) (N := 11) hat rfl (by decide) rfl); injection h9
  subst e9
  have hG := hG.hole (a := a0)
  refine lv_aload_n hx hb dX6_step_0 rfl (lv_at hl 0 rfl) ?_
  refine va_get (ci := 6) (v := .int v6) (C := RX6) (T := TX6) (N := 11) hx hb htl inX6 hown hK.1 (tk_one hat) 0 rfl rfl 5 (by decide) (htl _ mw_478) (fun _ h9 => h9) rfl dX6_step_1 ?_
  refine lv_istore_n (lv' := [(1, .int v6), (0, .ref a0)]) hx hb dX6_step_4 rfl hl (by decide) rfl (fun ls hl => ?_)
  have hl5776 : ∀ (N_l5776 : Nat) (v837 : Int32), 0 ≤ (-1) * v6.toInt + v837.toInt → v837.toInt ≤ 400 → (-1) * v837.toInt + 400 < (N_l5776 : Int) → ∀ ls : Array Slot, lv_has ls 3 [(1, .int v837), (0, .ref a0)] → W p l e ({ frames := 4, cells := 0, slots := 0, locals := 210 }) s m args below meth c H locs 0 0 (MQ below (tv D cy ld t [] (fun H => tk_f D H a0 6 9 (.int g9)) (tk_w t [(7, 0, 0)])) args s 0 0 (tk_w t [(7, 0, 0)])) (F0 m 5 ls []) := by
    intro N_l5776
    induction N_l5776 with
    | zero => intro v837 hq0_l5776 hq1_l5776 hm_l5776 ls hl; exfalso; omega
    | succ N_l5776 ih_l5776 =>
      intro v837 hq0_l5776 hq1_l5776 hm_l5776 ls hl
      refine lv_iload_n hx hb dX6_step_5 rfl (lv_at hl 0 rfl) ?_
      refine lv_aload_n hx hb dX6_step_6 rfl (lv_at hl 1 rfl) ?_
      refine va_get (ci := 6) (v := .int v3) (C := RX6) (T := TX6) (N := 11) hx hb htl inX6 hown hK.1 (tk_one hat) 0 rfl rfl 2 (by decide) (htl _ mw_476) (fun _ h9 => h9) rfl dX6_step_7 ?_
      have hj5781 : ∀ (_ : Unit), ∀ ls : Array Slot, lv_has ls 3 [(1, .int v837), (0, .ref a0)] → W p l e ({ frames := 4, cells := 0, slots := 0, locals := 210 }) s m args below meth c H locs 0 0 (MQ below (tv D cy ld t [] (fun H => tk_f D H a0 6 9 (.int g9)) (tk_w t [(7, 0, 0)])) args s 0 0 (tk_w t [(7, 0, 0)])) (F0 m 30 ls []) := by
        intro _  ls hl
        refine lv_aload_n hx hb dX6_step_30 rfl (lv_at hl 1 rfl) ?_
        refine lv_iload_n hx hb dX6_step_31 rfl (lv_at hl 0 rfl) ?_
        refine tk_put0 (ci := 6) (v := .int v837) (ty := .int) (C := RX6) (T := TX6) (N := 11) hx hb htl inX6 tyX6 tyX6_ok nmX6 hown hK hat rfl 4 (by decide) (htl _ mw_495) (fun _ h9 => h9) rfl (tyX6_ok 4 (by decide)) rfl rfl (Nat.le_of_ble_eq_true rfl) dX6_step_32 (fun H j9 hat z9 hq9 => ?_)
        have hS := hS.put (k := j9) z9 hq9 (tk_w.of ht_a0 (by decide) (List.mem_of_getElem? (i := 0) rfl) (Nat.le_refl _) (Nat.le_refl _))
        have hG := hG.ajar (List.mem_singleton.mpr rfl) hq9
        have hat : va_at D vwCl (a0, .inr (6, [.ref b1, .ref b2, .int v3, .int v4, .int v837, .int v6, .int v7, .int v8, .int v9, .int g9, .int v11])) H := hat
        generalize locs ++ [_] = locs at hS ⊢
        refine lv_aload_n hx hb dX6_step_35 rfl (lv_at hl 1 rfl) ?_
        refine lv_iload_n hx hb dX6_step_36 rfl (lv_at hl 0 rfl) ?_
        refine lv_aload_n hx hb dX6_step_37 rfl (lv_at hl 1 rfl) ?_
        refine va_get (ci := 6) (v := .int v3) (C := RX6) (T := TX6) (N := 11) hx hb htl inX6 hown hK.1 (tk_one hat) 0 rfl rfl 2 (by decide) (htl _ mw_476) (fun _ h9 => h9) rfl dX6_step_38 ?_
        refine lv_icmp_ge (tgt := 56) hx hb dX6_step_41 (by decide) (fun c9 => ?_) (fun c9 => ?_)
        · have hc5783 : v3.toInt ≤ v837.toInt := (fi_le rfl rfl).mp c9
          refine lv_iconst (v := 0) hx hb dX6_step_56 (by decide) ?_
          refine tk_put0 (ci := 6) (v := .int 0) (ty := .int) (C := RX6) (T := TX6) (N := 11) hx hb htl inX6 tyX6 tyX6_ok nmX6 hown hK hat rfl 6 (by decide) (htl _ mw_482) (fun _ h9 => h9) rfl (tyX6_ok 6 (by decide)) rfl rfl (Nat.le_of_ble_eq_true rfl) dX6_step_57 (fun H j9 hat z9 hq9 => ?_)
          have hS := hS.put (k := j9) z9 hq9 (tk_w.of ht_a0 (by decide) (List.mem_of_getElem? (i := 0) rfl) (Nat.le_refl _) (Nat.le_refl _))
          have hG := hG.ajar (List.mem_singleton.mpr rfl) hq9
          have hat : va_at D vwCl (a0, .inr (6, [.ref b1, .ref b2, .int v3, .int v4, .int v837, .int v6, .int 0, .int v8, .int v9, .int g9, .int v11])) H := hat
          generalize locs ++ [_] = locs at hS ⊢
          refine lv_aload_n hx hb dX6_step_60 rfl (lv_at hl 1 rfl) ?_
          refine lv_iconst (v := 0) hx hb dX6_step_61 (by decide) ?_
          refine tk_put0 (ci := 6) (v := .int 0) (ty := .int) (C := RX6) (T := TX6) (N := 11) hx hb htl inX6 tyX6 tyX6_ok nmX6 hown hK hat rfl 7 (by decide) (htl _ mw_496) (fun _ h9 => h9) rfl (tyX6_ok 7 (by decide)) rfl rfl (Nat.le_of_ble_eq_true rfl) dX6_step_62 (fun H j9 hat z9 hq9 => ?_)
          have hS := hS.put (k := j9) z9 hq9 (tk_w.of ht_a0 (by decide) (List.mem_of_getElem? (i := 0) rfl) (Nat.le_refl _) (Nat.le_refl _))
          have hG := hG.ajar (List.mem_singleton.mpr rfl) hq9
          have hat : va_at D vwCl (a0, .inr (6, [.ref b1, .ref b2, .int v3, .int v4, .int v837, .int v6, .int 0, .int 0, .int v9, .int g9, .int v11])) H := hat
          generalize locs ++ [_] = locs at hS ⊢
          refine lv_iload_n hx hb dX6_step_65 rfl (lv_at hl 0 rfl) ?_
          refine lv_istore_n (lv' := [(2, .int v837), (1, .int v837), (0, .ref a0)]) hx hb dX6_step_66 rfl hl (by decide) rfl (fun ls hl => ?_)
          refine lv_iload_n hx hb dX6_step_67 rfl (lv_at hl 1 rfl) ?_
          refine lv_aload_n hx hb dX6_step_68 rfl (lv_at hl 2 rfl) ?_
          refine va_get (ci := 6) (v := .int v3) (C := RX6) (T := TX6) (N := 11) hx hb htl inX6 hown hK.1 (tk_one hat) 0 rfl rfl 2 (by decide) (htl _ mw_476) (fun _ h9 => h9) rfl dX6_step_69 ?_
          refine lv_icmp_ge (tgt := 149) hx hb dX6_step_72 (by decide) (fun _ => ?_) (fun c9 => absurd ((fi_le rfl rfl).mpr (show v3.toInt ≤ v837.toInt by omega)) c9)
          refine lv_aload_n hx hb dX6_step_149 rfl (lv_at hl 2 rfl) ?_
          refine lv_iload_n hx hb dX6_step_150 rfl (lv_at hl 1 rfl) ?_
          refine tk_put0 (ci := 6) (v := .int v837) (ty := .int) (C := RX6) (T := TX6) (N := 11) hx hb htl inX6 tyX6 tyX6_ok nmX6 hown hK hat rfl 5 (by decide) (htl _ mw_478) (fun _ h9 => h9) rfl (tyX6_ok 5 (by decide)) rfl rfl (Nat.le_of_ble_eq_true rfl) dX6_step_151 (fun H j9 hat z9 hq9 => ?_)
          have hS := hS.put (k := j9) z9 hq9 (tk_w.of ht_a0 (by decide) (List.mem_of_getElem? (i := 0) rfl) (Nat.le_refl _) (Nat.le_refl _))
          have hG := hG.ajar (List.mem_singleton.mpr rfl) hq9
          have hat : va_at D vwCl (a0, .inr (6, [.ref b1, .ref b2, .int v3, .int v4, .int v837, .int v837, .int 0, .int 0, .int v9, .int g9, .int v11])) H := hat
          generalize locs ++ [_] = locs at hS ⊢
          have hk_0 : (0 : Int32).toInt = 0 := by decide
          have hk_0 : (0 : Int32).toInt = 0 := by decide
          have hG := tk_cl6 hG ht_a0 hat ht_b1 ht_b2 (by omega) (by omega) (by omega) (by omega) (by omega) (by omega) (by omega) (by omega) (tk_rng _).1 (tk_rng _).2 (tk_rng _).1 (tk_rng _).2 (tk_rng _).1 (tk_rng _).2 (by omega) (by omega) (tk_rng _).1 (tk_rng _).2 (by omega)
          have hf5811 : tk_f D H a0 6 2 (.int v3) := tk_f.of hat (C := RX6) (T := TX6) (N := 11) rfl (by decide) rfl
          have hf5812 : tk_f D H a0 6 4 (.int v837) := tk_f.of hat (C := RX6) (T := TX6) (N := 11) rfl (by decide) rfl
          have hf5813 : tk_f D H a0 6 5 (.int v837) := tk_f.of hat (C := RX6) (T := TX6) (N := 11) rfl (by decide) rfl
          have hf5814 : tk_f D H a0 6 6 (.int 0) := tk_f.of hat (C := RX6) (T := TX6) (N := 11) rfl (by decide) rfl
          have hf5815 : tk_f D H a0 6 7 (.int 0) := tk_f.of hat (C := RX6) (T := TX6) (N := 11) rfl (by decide) rfl
          have hf5816 : tk_f D H a0 6 9 (.int g9) := tk_f.of hat (C := RX6) (T := TX6) (N := 11) rfl (by decide) rfl
          have hf5817 : tk_f D H a0 6 10 (.int v11) := tk_f.of hat (C := RX6) (T := TX6) (N := 11) rfl (by decide) rfl
          exact tk_vret hx hb hr hlocks (show tk_f D H a0 6 9 (.int g9) from hf5816) hG hS dX6_step_154
        · have hc5783 : ¬ (v3.toInt ≤ v837.toInt) := fun h9 => c9 ((fi_le rfl rfl).mpr h9)
          refine lv_aload_n hx hb dX6_step_44 rfl (lv_at hl 1 rfl) ?_
          refine va_get (ci := 6) (v := .ref b2) (C := RX6) (T := TX6) (N := 11) hx hb htl inX6 hown hK.1 (tk_one hat) 0 rfl rfl 1 (by decide) (htl _ mw_133) (fun _ h9 => h9) rfl dX6_step_45 ?_
          refine lv_iload_n hx hb dX6_step_48 rfl (lv_at hl 0 rfl) ?_
          refine tk_iald hx hb hK hG ht_b2 (by decide) (fun _ h => h) (tk_out (tk_ne ht_b2 ht_a0 (Or.inl (by decide)))) rfl (by omega) (by omega) dX6_step_49 (fun v5818 _ _ => ?_)
          have hr_v5818 := tk_rng v5818
          refine tk_Si (As := [.int v5818]) (rest := [.ref a0]) ⟨hx, hb, hml, hown, hts⟩ hK hG hZ hS (k_X6_kindOf l D cy ld t _ v5818) trivial ⟨callB_of 1 hts (wl_in mw_499) rfl rfl rfl (htl _ mw_36) (htl _ mw_497) hd_yX6_kindOf ⟨(Nat.le_of_ble_eq_true rfl), (Nat.le_of_ble_eq_true rfl)⟩, htl _ mw_498⟩ (tk_w.pick [] rfl) rfl hl.1 rfl (Nat.le_of_ble_eq_true rfl) dX6_step_50 ⟨(Nat.le_of_ble_eq_true rfl), (Nat.le_of_ble_eq_true rfl)⟩ (fun v5819 H locs hpo hG hS hq9 => ?_)
          have hat := hat.kept (hq9 _ hat.lt tk_w.nil)
          obtain ⟨hpo5821, hpo5822⟩ := hpo
          refine lv_goto (tgt := 57) hx hb dX6_step_53 (by decide) ?_
          refine tk_put0 (ci := 6) (v := .int v5819) (ty := .int) (C := RX6) (T := TX6) (N := 11) hx hb htl inX6 tyX6 tyX6_ok nmX6 hown hK hat rfl 6 (by decide) (htl _ mw_482) (fun _ h9 => h9) rfl (tyX6_ok 6 (by decide)) rfl rfl (Nat.le_of_ble_eq_true rfl) dX6_step_57 (fun H j9 hat z9 hq9 => ?_)
          have hS := hS.put (k := j9) z9 hq9 (tk_w.of ht_a0 (by decide) (List.mem_of_getElem? (i := 0) rfl) (Nat.le_refl _) (Nat.le_refl _))
          have hG := hG.ajar (List.mem_singleton.mpr rfl) hq9
          have hat : va_at D vwCl (a0, .inr (6, [.ref b1, .ref b2, .int v3, .int v4, .int v837, .int v6, .int v5819, .int v8, .int v9, .int g9, .int v11])) H := hat
          generalize locs ++ [_] = locs at hS ⊢
          refine lv_aload_n hx hb dX6_step_60 rfl (lv_at hl 1 rfl) ?_
          refine lv_iconst (v := 0) hx hb dX6_step_61 (by decide) ?_
          refine tk_put0 (ci := 6) (v := .int 0) (ty := .int) (C := RX6) (T := TX6) (N := 11) hx hb htl inX6 tyX6 tyX6_ok nmX6 hown hK hat rfl 7 (by decide) (htl _ mw_496) (fun _ h9 => h9) rfl (tyX6_ok 7 (by decide)) rfl rfl (Nat.le_of_ble_eq_true rfl) dX6_step_62 (fun H j9 hat z9 hq9 => ?_)
          have hS := hS.put (k := j9) z9 hq9 (tk_w.of ht_a0 (by decide) (List.mem_of_getElem? (i := 0) rfl) (Nat.le_refl _) (Nat.le_refl _))
          have hG := hG.ajar (List.mem_singleton.mpr rfl) hq9
          have hat : va_at D vwCl (a0, .inr (6, [.ref b1, .ref b2, .int v3, .int v4, .int v837, .int v6, .int v5819, .int 0, .int v9, .int g9, .int v11])) H := hat
          generalize locs ++ [_] = locs at hS ⊢
          refine lv_iload_n hx hb dX6_step_65 rfl (lv_at hl 0 rfl) ?_
          refine lv_istore_n (lv' := [(2, .int v837), (1, .int v837), (0, .ref a0)]) hx hb dX6_step_66 rfl hl (by decide) rfl (fun ls hl => ?_)
          have hl6492 : ∀ (N_l6492 : Nat) (v5923 : Int32) (v5924 : Int32) (H : Heap) (locs : List Loc), v5924.toInt ≤ 1001 → 0 ≤ v5923.toInt + (-1) * v837.toInt → v5923.toInt ≤ 400 → (-1) * v5923.toInt + 400 < (N_l6492 : Int) → va_at D vwCl (a0, .inr (6, [.ref b1, .ref b2, .int v3, .int v4, .int v837, .int v6, .int v5819, .int v5924, .int v9, .int g9, .int v11])) H → tk_G D cy ld t [a0] H → va_S (tk_w t [(7, 0, 0)]) s.heap H locs → ∀ ls : Array Slot, lv_has ls 3 [(2, .int v837), (1, .int v5923), (0, .ref a0)] → W p l e ({ frames := 4, cells := 0, slots := 0, locals := 210 }) s m args below meth c H locs 0 0 (MQ below (tv D cy ld t [] (fun H => tk_f D H a0 6 9 (.int g9)) (tk_w t [(7, 0, 0)])) args s 0 0 (tk_w t [(7, 0, 0)])) (F0 m 67 ls []) := by
            intro N_l6492
            induction N_l6492 with
            | zero => intro v5923 v5924 H locs hq0_l6492 hq1_l6492 hq2_l6492 hm_l6492 hat hG hS ls hl; exfalso; omega
            | succ N_l6492 ih_l6492 =>
              intro v5923 v5924 H locs hq0_l6492 hq1_l6492 hq2_l6492 hm_l6492 hat hG hS ls hl
              refine lv_iload_n hx hb dX6_step_67 rfl (lv_at hl 1 rfl) ?_
              refine lv_aload_n hx hb dX6_step_68 rfl (lv_at hl 2 rfl) ?_
              refine va_get (ci := 6) (v := .int v3) (C := RX6) (T := TX6) (N := 11) hx hb htl inX6 hown hK.1 (tk_one hat) 0 rfl rfl 2 (by decide) (htl _ mw_476) (fun _ h9 => h9) rfl dX6_step_69 ?_
              have hj6542 : ∀ (H : Heap) (locs : List Loc), va_at D vwCl (a0, .inr (6, [.ref b1, .ref b2, .int v3, .int v4, .int v837, .int v6, .int v5819, .int v5924, .int v9, .int g9, .int v11])) H → tk_G D cy ld t [a0] H → va_S (tk_w t [(7, 0, 0)]) s.heap H locs → ∀ ls : Array Slot, lv_has ls 3 [(1, .int v5923), (0, .ref a0)] → W p l e ({ frames := 4, cells := 0, slots := 0, locals := 210 }) s m args below meth c H locs 0 0 (MQ below (tv D cy ld t [] (fun H => tk_f D H a0 6 9 (.int g9)) (tk_w t [(7, 0, 0)])) args s 0 0 (tk_w t [(7, 0, 0)])) (F0 m 149 ls []) := by
                intro H locs hat hG hS ls hl
                refine lv_aload_n hx hb dX6_step_149 rfl (lv_at hl 1 rfl) ?_
                refine lv_iload_n hx hb dX6_step_150 rfl (lv_at hl 0 rfl) ?_
                refine tk_put0 (ci := 6) (v := .int v5923) (ty := .int) (C := RX6) (T := TX6) (N := 11) hx hb htl inX6 tyX6 tyX6_ok nmX6 hown hK hat rfl 5 (by decide) (htl _ mw_478) (fun _ h9 => h9) rfl (tyX6_ok 5 (by decide)) rfl rfl (Nat.le_of_ble_eq_true rfl) dX6_step_151 (fun H j9 hat z9 hq9 => ?_)
                have hS := hS.put (k := j9) z9 hq9 (tk_w.of ht_a0 (by decide) (List.mem_of_getElem? (i := 0) rfl) (Nat.le_refl _) (Nat.le_refl _))
                have hG := hG.ajar (List.mem_singleton.mpr rfl) hq9
                have hat : va_at D vwCl (a0, .inr (6, [.ref b1, .ref b2, .int v3, .int v4, .int v837, .int v5923, .int v5819, .int v5924, .int v9, .int g9, .int v11])) H := hat
                generalize locs ++ [_] = locs at hS ⊢
                have hG := tk_cl6 hG ht_a0 hat ht_b1 ht_b2 (by omega) (by omega) (by omega) (by omega) (by omega) (by omega) (by omega) (by omega) (tk_rng _).1 (tk_rng _).2 (tk_rng _).1 (tk_rng _).2 (tk_rng _).1 (tk_rng _).2 (by omega) (by omega) (tk_rng _).1 (tk_rng _).2 (by omega)
                have hf6544 : tk_f D H a0 6 2 (.int v3) := tk_f.of hat (C := RX6) (T := TX6) (N := 11) rfl (by decide) rfl
                have hf6545 : tk_f D H a0 6 4 (.int v837) := tk_f.of hat (C := RX6) (T := TX6) (N := 11) rfl (by decide) rfl
                have hf6546 : tk_f D H a0 6 5 (.int v5923) := tk_f.of hat (C := RX6) (T := TX6) (N := 11) rfl (by decide) rfl
                have hf6547 : tk_f D H a0 6 6 (.int v5819) := tk_f.of hat (C := RX6) (T := TX6) (N := 11) rfl (by decide) rfl
                have hf6548 : tk_f D H a0 6 7 (.int v5924) := tk_f.of hat (C := RX6) (T := TX6) (N := 11) rfl (by decide) rfl
                have hf6549 : tk_f D H a0 6 9 (.int g9) := tk_f.of hat (C := RX6) (T := TX6) (N := 11) rfl (by decide) rfl
                have hf6550 : tk_f D H a0 6 10 (.int v11) := tk_f.of hat (C := RX6) (T := TX6) (N := 11) rfl (by decide) rfl
                exact tk_vret hx hb hr hlocks (show tk_f D H a0 6 9 (.int g9) from hf6549) hG hS dX6_step_154
              refine lv_icmp_ge (tgt := 149) hx hb dX6_step_72 (by decide) (fun c9 => ?_) (fun c9 => ?_)
              · have hc6493 : v3.toInt ≤ v5923.toInt := (fi_le rfl rfl).mp c9
                exact hj6542 _ _ hat hG hS _ (lv_sub hl [1, 2] rfl)
              · have hc6493 : ¬ (v3.toInt ≤ v5923.toInt) := fun h9 => c9 ((fi_le rfl rfl).mpr h9)
                refine lv_iload_n hx hb dX6_step_75 rfl (lv_at hl 1 rfl) ?_
                refine lv_iload_n hx hb dX6_step_76 rfl (lv_at hl 0 rfl) ?_
                refine lv_icmp_eq (tgt := 88) hx hb dX6_step_77 (by decide) (fun c9 => ?_) (fun c9 => ?_)
                · have hc6551 : v5923.toInt = v837.toInt := (fi_eq rfl rfl).mp c9
                  refine lv_aload_n hx hb dX6_step_88 rfl (lv_at hl 2 rfl) ?_
                  refine va_get (ci := 6) (v := .ref b2) (C := RX6) (T := TX6) (N := 11) hx hb htl inX6 hown hK.1 (tk_one hat) 0 rfl rfl 1 (by decide) (htl _ mw_133) (fun _ h9 => h9) rfl dX6_step_89 ?_
                  refine lv_iload_n hx hb dX6_step_92 rfl (lv_at hl 1 rfl) ?_
                  refine tk_iald hx hb hK hG ht_b2 (by decide) (fun _ h => h) (tk_out (tk_ne ht_b2 ht_a0 (Or.inl (by decide)))) rfl (by omega) (by omega) dX6_step_93 (fun v6552 _ _ => ?_)
                  have hr_v6552 := tk_rng v6552
                  refine tk_Si (As := [.int v6552]) (rest := []) ⟨hx, hb, hml, hown, hts⟩ hK hG hZ hS (k_X6_kindOf l D cy ld t _ v6552) trivial ⟨callB_of 1 hts (wl_in mw_499) rfl rfl rfl (htl _ mw_36) (htl _ mw_497) hd_yX6_kindOf ⟨(Nat.le_of_ble_eq_true rfl), (Nat.le_of_ble_eq_true rfl)⟩, htl _ mw_498⟩ (tk_w.pick [] rfl) rfl hl.1 rfl (Nat.le_of_ble_eq_true rfl) dX6_step_94 ⟨(Nat.le_of_ble_eq_true rfl), (Nat.le_of_ble_eq_true rfl)⟩ (fun v6553 H locs hpo hG hS hq9 => ?_)
                  have hat := hat.kept (hq9 _ hat.lt tk_w.nil)
                  obtain ⟨hpo6555, hpo6556⟩ := hpo
                  refine lv_aload_n hx hb dX6_step_97 rfl (lv_at hl 2 rfl) ?_
                  refine va_get (ci := 6) (v := .int v5819) (C := RX6) (T := TX6) (N := 11) hx hb htl inX6 hown hK.1 (tk_one hat) 0 rfl rfl 6 (by decide) (htl _ mw_482) (fun _ h9 => h9) rfl dX6_step_98 ?_
                  refine lv_icmp_ne (tgt := 149) hx hb dX6_step_101 (by decide) (fun c9 => ?_) (fun c9 => ?_)
                  · have hc6557 : ¬ (v6553.toInt = v5819.toInt) := fun h9 => c9 ((fi_eq rfl rfl).mpr h9)
                    exact hj6542 _ _ hat hG hS _ (lv_sub hl [1, 2] rfl)
                  · have hc6557 : v6553.toInt = v5819.toInt := (fi_eq rfl rfl).mp c9
                    refine lv_aload_n hx hb dX6_step_104 rfl (lv_at hl 2 rfl) ?_
                    refine lv_aload_n hx hb dX6_step_105 rfl (lv_at hl 2 rfl) ?_
                    refine va_get (ci := 6) (v := .int v5819) (C := RX6) (T := TX6) (N := 11) hx hb htl inX6 hown hK.1 (tk_one hat) 0 rfl rfl 6 (by decide) (htl _ mw_482) (fun _ h9 => h9) rfl dX6_step_106 ?_
                    refine lv_iconst (v := 2) hx hb dX6_step_109 (by decide) ?_
                    have hj6566 : ∀ (v6565 : Int32), v6565.toInt ≤ 1001 → ∀ ls : Array Slot, lv_has ls 3 [(2, .int v837), (1, .int v5923), (0, .ref a0)] → W p l e ({ frames := 4, cells := 0, slots := 0, locals := 210 }) s m args below meth c H locs 0 0 (MQ below (tv D cy ld t [] (fun H => tk_f D H a0 6 9 (.int g9)) (tk_w t [(7, 0, 0)])) args s 0 0 (tk_w t [(7, 0, 0)])) (F0 m 140 ls [.int v6565, .ref a0]) := by
                      intro v6565 hq0_j6566 ls hl
                      refine tk_put0 (ci := 6) (v := .int v6565) (ty := .int) (C := RX6) (T := TX6) (N := 11) hx hb htl inX6 tyX6 tyX6_ok nmX6 hown hK hat rfl 7 (by decide) (htl _ mw_496) (fun _ h9 => h9) rfl (tyX6_ok 7 (by decide)) rfl rfl (Nat.le_of_ble_eq_true rfl) dX6_step_140 (fun H j9 hat z9 hq9 => ?_)
                      have hS := hS.put (k := j9) z9 hq9 (tk_w.of ht_a0 (by decide) (List.mem_of_getElem? (i := 0) rfl) (Nat.le_refl _) (Nat.le_refl _))
                      have hG := hG.ajar (List.mem_singleton.mpr rfl) hq9
                      have hat : va_at D vwCl (a0, .inr (6, [.ref b1, .ref b2, .int v3, .int v4, .int v837, .int v6, .int v5819, .int v6565, .int v9, .int g9, .int v11])) H := hat
                      generalize locs ++ [_] = locs at hS ⊢
                      obtain ⟨v6568, h_v6568, e_v6568⟩ := tk_inc v5923 1 (by decide) (by omega) (by omega)
                      refine lv_iinc (v := v6568) (lv' := [(1, .int v6568), (2, .int v837), (0, .ref a0)]) hx hb dX6_step_143 hl (k := 1) rfl e_v6568 (by decide) rfl (fun ls hl => ?_)
                      refine lv_goto (tgt := 67) hx hb dX6_step_146 (by decide) ?_
                      exact ih_l6492 v6568 v6565 _ _ (by omega) (by omega) (by omega) (by omega) hat hG hS _ (lv_sub hl [1, 0, 2] rfl)
                    refine lv_icmp_ne (tgt := 139) hx hb dX6_step_110 (by decide) (fun c9 => ?_) (fun c9 => ?_)
                    · have hc6558 : ¬ (v5819.toInt = 2) := fun h9 => c9 ((fi_eq rfl (show (2 : Int32).toInt = 2 by decide)).mpr h9)
                      refine lv_iconst (v := 0) hx hb dX6_step_139 (by decide) ?_
                      have hk_0 : (0 : Int32).toInt = 0 := by decide
                      exact hj6566 0 (by omega) _ (lv_sub hl [0, 1, 2] rfl)
                    · have hc6558 : v5819.toInt = 2 := (fi_eq rfl (show (2 : Int32).toInt = 2 by decide)).mp c9
                      refine lv_aload_n hx hb dX6_step_113 rfl (lv_at hl 2 rfl) ?_
                      refine va_get (ci := 6) (v := .int v5924) (C := RX6) (T := TX6) (N := 11) hx hb htl inX6 hown hK.1 (tk_one hat) 0 rfl rfl 7 (by decide) (htl _ mw_496) (fun _ h9 => h9) rfl dX6_step_114 ?_
                      refine lv_bipush (v := 10) hx hb dX6_step_117 (by decide) ?_
                      refine lv_imul hx hb dX6_step_119 ?_
                      obtain ⟨v6569, hm_v6569⟩ : ∃ z : Int32, v5924 * 10 = z := ⟨_, rfl⟩
                      refine fx_ti hm_v6569 ?_
                      refine lv_aload_n hx hb dX6_step_120 rfl (lv_at hl 2 rfl) ?_
                      refine va_get (ci := 6) (v := .ref b2) (C := RX6) (T := TX6) (N := 11) hx hb htl inX6 hown hK.1 (tk_one hat) 0 rfl rfl 1 (by decide) (htl _ mw_133) (fun _ h9 => h9) rfl dX6_step_121 ?_
                      refine lv_iload_n hx hb dX6_step_124 rfl (lv_at hl 1 rfl) ?_
                      refine tk_iald hx hb hK hG ht_b2 (by decide) (fun _ h => h) (tk_out (tk_ne ht_b2 ht_a0 (Or.inl (by decide)))) rfl (by omega) (by omega) dX6_step_125 (fun v6570 _ _ => ?_)
                      have hr_v6570 := tk_rng v6570
                      refine lv_iadd hx hb dX6_step_126 ?_
                      obtain ⟨v6571, hm_v6571⟩ : ∃ z : Int32, v6569 + v6570 = z := ⟨_, rfl⟩
                      refine fx_ti hm_v6571 ?_
                      refine lv_bipush (v := 48) hx hb dX6_step_127 (by decide) ?_
                      refine lv_isub hx hb dX6_step_129 ?_
                      obtain ⟨v6572, hm_v6572⟩ : ∃ z : Int32, v6571 - 48 = z := ⟨_, rfl⟩
                      refine fx_ti hm_v6572 ?_
                      refine lv_sipush (v := 1001) hx hb dX6_step_130 (by decide) ?_
                      refine va_mmin hx hb (by rw [hml]; exact hl.1.symm) hown (htl _ mw_472) (htl _ mw_473) (htl _ mw_474) (htl _ mw_475) (Nat.le_of_ble_eq_true rfl) (Nat.le_of_ble_eq_true rfl) (Nat.le_of_ble_eq_true rfl) (Nat.le_of_ble_eq_true rfl) dX6_step_133 ?_
                      refine tk_say (P := fun z => z.toInt ≤ v6572.toInt ∧ z.toInt ≤ 1001 ∧ (z.toInt = v6572.toInt ∨ z.toInt = 1001)) (tk_min rfl (show (1001 : Int32).toInt = 1001 by decide)) (fun v6573 h_v6573 => ?_)
                      refine lv_goto (tgt := 140) hx hb dX6_step_136 (by decide) ?_
                      exact hj6566 v6573 (by omega) _ (lv_sub hl [0, 1, 2] rfl)
                · have hc6551 : ¬ (v5923.toInt = v837.toInt) := fun h9 => c9 ((fi_eq rfl rfl).mpr h9)
                  refine lv_aload_n hx hb dX6_step_80 rfl (lv_at hl 2 rfl) ?_
                  refine va_get (ci := 6) (v := .int v5819) (C := RX6) (T := TX6) (N := 11) hx hb htl inX6 hown hK.1 (tk_one hat) 0 rfl rfl 6 (by decide) (htl _ mw_482) (fun _ h9 => h9) rfl dX6_step_81 ?_
                  refine lv_iconst (v := 3) hx hb dX6_step_84 (by decide) ?_
                  refine lv_icmp_eq (tgt := 149) hx hb dX6_step_85 (by decide) (fun c9 => ?_) (fun c9 => ?_)
                  · have hc6574 : v5819.toInt = 3 := (fi_eq rfl (show (3 : Int32).toInt = 3 by decide)).mp c9
                    exact hj6542 _ _ hat hG hS _ (lv_sub hl [1, 2] rfl)
                  · have hc6574 : ¬ (v5819.toInt = 3) := fun h9 => c9 ((fi_eq rfl (show (3 : Int32).toInt = 3 by decide)).mpr h9)
                    refine lv_aload_n hx hb dX6_step_88 rfl (lv_at hl 2 rfl) ?_
                    refine va_get (ci := 6) (v := .ref b2) (C := RX6) (T := TX6) (N := 11) hx hb htl inX6 hown hK.1 (tk_one hat) 0 rfl rfl 1 (by decide) (htl _ mw_133) (fun _ h9 => h9) rfl dX6_step_89 ?_
                    refine lv_iload_n hx hb dX6_step_92 rfl (lv_at hl 1 rfl) ?_
                    refine tk_iald hx hb hK hG ht_b2 (by decide) (fun _ h => h) (tk_out (tk_ne ht_b2 ht_a0 (Or.inl (by decide)))) rfl (by omega) (by omega) dX6_step_93 (fun v6575 _ _ => ?_)
                    have hr_v6575 := tk_rng v6575
                    refine tk_Si (As := [.int v6575]) (rest := []) ⟨hx, hb, hml, hown, hts⟩ hK hG hZ hS (k_X6_kindOf l D cy ld t _ v6575) trivial ⟨callB_of 1 hts (wl_in mw_499) rfl rfl rfl (htl _ mw_36) (htl _ mw_497) hd_yX6_kindOf ⟨(Nat.le_of_ble_eq_true rfl), (Nat.le_of_ble_eq_true rfl)⟩, htl _ mw_498⟩ (tk_w.pick [] rfl) rfl hl.1 rfl (Nat.le_of_ble_eq_true rfl) dX6_step_94 ⟨(Nat.le_of_ble_eq_true rfl), (Nat.le_of_ble_eq_true rfl)⟩ (fun v6576 H locs hpo hG hS hq9 => ?_)
                    have hat := hat.kept (hq9 _ hat.lt tk_w.nil)
                    obtain ⟨hpo6578, hpo6579⟩ := hpo
                    refine lv_aload_n hx hb dX6_step_97 rfl (lv_at hl 2 rfl) ?_
                    refine va_get (ci := 6) (v := .int v5819) (C := RX6) (T := TX6) (N := 11) hx hb htl inX6 hown hK.1 (tk_one hat) 0 rfl rfl 6 (by decide) (htl _ mw_482) (fun _ h9 => h9) rfl dX6_step_98 ?_
                    refine lv_icmp_ne (tgt := 149) hx hb dX6_step_101 (by decide) (fun c9 => ?_) (fun c9 => ?_)
                    · have hc6580 : ¬ (v6576.toInt = v5819.toInt) := fun h9 => c9 ((fi_eq rfl rfl).mpr h9)
                      exact hj6542 _ _ hat hG hS _ (lv_sub hl [1, 2] rfl)
                    · have hc6580 : v6576.toInt = v5819.toInt := (fi_eq rfl rfl).mp c9
                      refine lv_aload_n hx hb dX6_step_104 rfl (lv_at hl 2 rfl) ?_
                      refine lv_aload_n hx hb dX6_step_105 rfl (lv_at hl 2 rfl) ?_
                      refine va_get (ci := 6) (v := .int v5819) (C := RX6) (T := TX6) (N := 11) hx hb htl inX6 hown hK.1 (tk_one hat) 0 rfl rfl 6 (by decide) (htl _ mw_482) (fun _ h9 => h9) rfl dX6_step_106 ?_
                      refine lv_iconst (v := 2) hx hb dX6_step_109 (by decide) ?_
                      have hj6589 : ∀ (v6588 : Int32), v6588.toInt ≤ 1001 → ∀ ls : Array Slot, lv_has ls 3 [(2, .int v837), (1, .int v5923), (0, .ref a0)] → W p l e ({ frames := 4, cells := 0, slots := 0, locals := 210 }) s m args below meth c H locs 0 0 (MQ below (tv D cy ld t [] (fun H => tk_f D H a0 6 9 (.int g9)) (tk_w t [(7, 0, 0)])) args s 0 0 (tk_w t [(7, 0, 0)])) (F0 m 140 ls [.int v6588, .ref a0]) := by
                        intro v6588 hq0_j6589 ls hl
                        refine tk_put0 (ci := 6) (v := .int v6588) (ty := .int) (C := RX6) (T := TX6) (N := 11) hx hb htl inX6 tyX6 tyX6_ok nmX6 hown hK hat rfl 7 (by decide) (htl _ mw_496) (fun _ h9 => h9) rfl (tyX6_ok 7 (by decide)) rfl rfl (Nat.le_of_ble_eq_true rfl) dX6_step_140 (fun H j9 hat z9 hq9 => ?_)
                        have hS := hS.put (k := j9) z9 hq9 (tk_w.of ht_a0 (by decide) (List.mem_of_getElem? (i := 0) rfl) (Nat.le_refl _) (Nat.le_refl _))
                        have hG := hG.ajar (List.mem_singleton.mpr rfl) hq9
                        have hat : va_at D vwCl (a0, .inr (6, [.ref b1, .ref b2, .int v3, .int v4, .int v837, .int v6, .int v5819, .int v6588, .int v9, .int g9, .int v11])) H := hat
                        generalize locs ++ [_] = locs at hS ⊢
                        obtain ⟨v6591, h_v6591, e_v6591⟩ := tk_inc v5923 1 (by decide) (by omega) (by omega)
                        refine lv_iinc (v := v6591) (lv' := [(1, .int v6591), (2, .int v837), (0, .ref a0)]) hx hb dX6_step_143 hl (k := 1) rfl e_v6591 (by decide) rfl (fun ls hl => ?_)
                        refine lv_goto (tgt := 67) hx hb dX6_step_146 (by decide) ?_
                        exact ih_l6492 v6591 v6588 _ _ (by omega) (by omega) (by omega) (by omega) hat hG hS _ (lv_sub hl [1, 0, 2] rfl)
                      refine lv_icmp_ne (tgt := 139) hx hb dX6_step_110 (by decide) (fun c9 => ?_) (fun c9 => ?_)
                      · have hc6581 : ¬ (v5819.toInt = 2) := fun h9 => c9 ((fi_eq rfl (show (2 : Int32).toInt = 2 by decide)).mpr h9)
                        refine lv_iconst (v := 0) hx hb dX6_step_139 (by decide) ?_
                        have hk_0 : (0 : Int32).toInt = 0 := by decide
                        exact hj6589 0 (by omega) _ (lv_sub hl [0, 1, 2] rfl)
                      · have hc6581 : v5819.toInt = 2 := (fi_eq rfl (show (2 : Int32).toInt = 2 by decide)).mp c9
                        refine lv_aload_n hx hb dX6_step_113 rfl (lv_at hl 2 rfl) ?_
                        refine va_get (ci := 6) (v := .int v5924) (C := RX6) (T := TX6) (N := 11) hx hb htl inX6 hown hK.1 (tk_one hat) 0 rfl rfl 7 (by decide) (htl _ mw_496) (fun _ h9 => h9) rfl dX6_step_114 ?_
                        refine lv_bipush (v := 10) hx hb dX6_step_117 (by decide) ?_
                        refine lv_imul hx hb dX6_step_119 ?_
                        obtain ⟨v6592, hm_v6592⟩ : ∃ z : Int32, v5924 * 10 = z := ⟨_, rfl⟩
                        refine fx_ti hm_v6592 ?_
                        refine lv_aload_n hx hb dX6_step_120 rfl (lv_at hl 2 rfl) ?_
                        refine va_get (ci := 6) (v := .ref b2) (C := RX6) (T := TX6) (N := 11) hx hb htl inX6 hown hK.1 (tk_one hat) 0 rfl rfl 1 (by decide) (htl _ mw_133) (fun _ h9 => h9) rfl dX6_step_121 ?_
                        refine lv_iload_n hx hb dX6_step_124 rfl (lv_at hl 1 rfl) ?_
                        refine tk_iald hx hb hK hG ht_b2 (by decide) (fun _ h => h) (tk_out (tk_ne ht_b2 ht_a0 (Or.inl (by decide)))) rfl (by omega) (by omega) dX6_step_125 (fun v6593 _ _ => ?_)
                        have hr_v6593 := tk_rng v6593
                        refine lv_iadd hx hb dX6_step_126 ?_
                        obtain ⟨v6594, hm_v6594⟩ : ∃ z : Int32, v6592 + v6593 = z := ⟨_, rfl⟩
                        refine fx_ti hm_v6594 ?_
                        refine lv_bipush (v := 48) hx hb dX6_step_127 (by decide) ?_
                        refine lv_isub hx hb dX6_step_129 ?_
                        obtain ⟨v6595, hm_v6595⟩ : ∃ z : Int32, v6594 - 48 = z := ⟨_, rfl⟩
                        refine fx_ti hm_v6595 ?_
                        refine lv_sipush (v := 1001) hx hb dX6_step_130 (by decide) ?_
                        refine va_mmin hx hb (by rw [hml]; exact hl.1.symm) hown (htl _ mw_472) (htl _ mw_473) (htl _ mw_474) (htl _ mw_475) (Nat.le_of_ble_eq_true rfl) (Nat.le_of_ble_eq_true rfl) (Nat.le_of_ble_eq_true rfl) (Nat.le_of_ble_eq_true rfl) dX6_step_133 ?_
                        refine tk_say (P := fun z => z.toInt ≤ v6595.toInt ∧ z.toInt ≤ 1001 ∧ (z.toInt = v6595.toInt ∨ z.toInt = 1001)) (tk_min rfl (show (1001 : Int32).toInt = 1001 by decide)) (fun v6596 h_v6596 => ?_)
                        refine lv_goto (tgt := 140) hx hb dX6_step_136 (by decide) ?_
                        exact hj6589 v6596 (by omega) _ (lv_sub hl [0, 1, 2] rfl)
          have hk_0 : (0 : Int32).toInt = 0 := by decide
          exact hl6492 401 v837 0 _ _ (by omega) (by omega) (by omega) (by omega) hat hG hS _ (lv_sub hl [0, 1, 2] rfl)
      refine lv_icmp_ge (tgt := 30) hx hb dX6_step_10 (by decide) (fun c9 => ?_) (fun c9 => ?_)
      · have hc5777 : v3.toInt ≤ v837.toInt := (fi_le rfl rfl).mp c9
        exact hj5781 () _ (lv_sub hl [0, 1] rfl)
      · have hc5777 : ¬ (v3.toInt ≤ v837.toInt) := fun h9 => c9 ((fi_le rfl rfl).mpr h9)
        refine lv_aload_n hx hb dX6_step_13 rfl (lv_at hl 1 rfl) ?_
        refine va_get (ci := 6) (v := .ref b2) (C := RX6) (T := TX6) (N := 11) hx hb htl inX6 hown hK.1 (tk_one hat) 0 rfl rfl 1 (by decide) (htl _ mw_133) (fun _ h9 => h9) rfl dX6_step_14 ?_
        refine lv_iload_n hx hb dX6_step_17 rfl (lv_at hl 0 rfl) ?_
        refine tk_iald hx hb hK hG ht_b2 (by decide) (fun _ h => h) (tk_out (tk_ne ht_b2 ht_a0 (Or.inl (by decide)))) rfl (by omega) (by omega) dX6_step_18 (fun v6597 _ _ => ?_)
        have hr_v6597 := tk_rng v6597
        refine lv_bipush (v := 32) hx hb dX6_step_19 (by decide) ?_
        refine lv_icmp_ne (tgt := 30) hx hb dX6_step_21 (by decide) (fun c9 => ?_) (fun c9 => ?_)
        · have hc6598 : ¬ (v6597.toInt = 32) := fun h9 => c9 ((fi_eq rfl (show (32 : Int32).toInt = 32 by decide)).mpr h9)
          exact hj5781 () _ (lv_sub hl [0, 1] rfl)
        · have hc6598 : v6597.toInt = 32 := (fi_eq rfl (show (32 : Int32).toInt = 32 by decide)).mp c9
          obtain ⟨v6599, h_v6599, e_v6599⟩ := tk_inc v837 1 (by decide) (by omega) (by omega)
          refine lv_iinc (v := v6599) (lv' := [(1, .int v6599), (0, .ref a0)]) hx hb dX6_step_24 hl (k := 0) rfl e_v6599 (by decide) rfl (fun ls hl => ?_)
          refine lv_goto (tgt := 5) hx hb dX6_step_27 (by decide) ?_
          exact ih_l5776 v6599 (by omega) (by omega) (by omega) _ (lv_sub hl [0, 1] rfl)
  exact hl5776 401 v6 (by omega) (by omega) (by omega) _ (lv_sub hl [0, 1] rfl)
theorem dX6_goDeeper_0 : decode cX6_goDeeper 0 = .ok (.aload_n 0, 1) := by decide +kernel
theorem dX6_goDeeper_1 : decode cX6_goDeeper 1 = .ok (.getfield 47, 3) := by decide +kernel
theorem dX6_goDeeper_4 : decode cX6_goDeeper 4 = .ok (.bipush 8, 2) := by decide +kernel
theorem dX6_goDeeper_6 : decode cX6_goDeeper 6 = .ok (.if_icmp .lt 9, 3) := by decide +kernel
theorem dX6_goDeeper_15 : decode cX6_goDeeper 15 = .ok (.aload_n 0, 1) := by decide +kernel
theorem dX6_goDeeper_16 : decode cX6_goDeeper 16 = .ok (.dup, 1) := by decide +kernel
theorem dX6_goDeeper_17 : decode cX6_goDeeper 17 = .ok (.getfield 47, 3) := by decide +kernel
theorem dX6_goDeeper_20 : decode cX6_goDeeper 20 = .ok (.iconst 1, 1) := by decide +kernel
theorem dX6_goDeeper_21 : decode cX6_goDeeper 21 = .ok (.iadd, 1) := by decide +kernel
theorem dX6_goDeeper_22 : decode cX6_goDeeper 22 = .ok (.putfield 47, 3) := by decide +kernel
theorem dX6_goDeeper_25 : decode cX6_goDeeper 25 = .ok (.aload_n 0, 1) := by decide +kernel
theorem dX6_goDeeper_26 : decode cX6_goDeeper 26 = .ok (.invokevirtual 53, 3) := by decide +kernel
theorem dX6_goDeeper_29 : decode cX6_goDeeper 29 = .ok (.iconst 1, 1) := by decide +kernel
theorem dX6_goDeeper_30 : decode cX6_goDeeper 30 = .ok (.ireturn, 1) := by decide +kernel
set_option maxHeartbeats 4000000 in
set_option maxRecDepth 100000 in
theorem k_X6_goDeeper_0 (l : Launch) (D : va_G) (cy : Nat → ClassId) (ld : Nat → Nat) (t : tk_T) (a0 : Nat) (ht_a0 : t a0 = (7, 0, 0)) : Met l yX6_goDeeper (wl yX6_goDeeper cX6_goDeeper 1 (some .boolean)) ({ frames := 5, cells := 0, slots := 0, locals := 280 }) (tp D cy ld t [] [.ref a0] (fun H => tk_f D H a0 6 9 (.int 0))) (ti D cy ld t [] (fun r H => r.toInt + (-1) = 0 ∧ 0 ≤ r.toInt ∧ r.toInt ≤ 1 ∧ tk_f D H a0 6 9 (.int 1)) (tk_w t [(7, 0, 0)])) 0 0 (tk_w t [(7, 0, 0)]) := by
  refine tk_met (y := yX6_goDeeper) (cc := cX6_goDeeper) (maxL := 1) (ret := (some .boolean)) (av := [.ref a0]) _ _ (by decide) (Nat.le_of_ble_eq_true rfl) ?_
  intro p e s m args below meth c hx hb hr hml hts htl hown hlocks hK H locs hH hG hS hB hZ ls hl
  have hown : s.vm.findClass RX6 = some m.cls := hown
  have hl : lv_has ls 1 [(0, .ref a0)] := hl
  have hg_0 := hB
  refine lv_aload_n hx hb dX6_goDeeper_0 rfl (lv_at hl 0 rfl) ?_
  refine tk_getk (ci := 6) (C := RX6) (T := TX6) (N := 11) (sp := (0, 0, 8, 0)) hx hb htl inX6 hown hK hG ht_a0 (by decide) tk_no rfl 9 (by decide) (htl _ mw_480) (fun _ h9 => h9) rfl hg_0 dX6_goDeeper_1 ?_
  refine lv_bipush (v := 8) hx hb dX6_goDeeper_4 (by decide) ?_
  refine lv_icmp_lt (tgt := 15) hx hb dX6_goDeeper_6 (by decide) (fun _ => ?_) (fun c9 => absurd (by decide) c9)
  refine lv_aload_n hx hb dX6_goDeeper_15 rfl (lv_at hl 0 rfl) ?_
  refine lv_dup hx hb dX6_goDeeper_16 rfl ?_
  refine tk_getk (ci := 6) (C := RX6) (T := TX6) (N := 11) (sp := (0, 0, 8, 0)) hx hb htl inX6 hown hK hG ht_a0 (by decide) tk_no rfl 9 (by decide) (htl _ mw_480) (fun _ h9 => h9) rfl hg_0 dX6_goDeeper_17 ?_
  refine lv_iconst (v := 1) hx hb dX6_goDeeper_20 (by decide) ?_
  refine lv_iadd hx hb dX6_goDeeper_21 ?_
  refine fx_ti (v := 1) (by decide) ?_
  refine tk_put (ci := 6) (v := .int 1) (ty := .int) (C := RX6) (T := TX6) (N := 11) (sp := (0, 0, 8, 0)) hx hb htl inX6 tyX6 tyX6_ok nmX6 hown hK hG hS ht_a0 (by decide) tk_no rfl 9 (by decide) (htl _ mw_480) (fun _ h9 => h9) rfl (tyX6_ok 9 (by decide)) rfl rfl rfl (tk_V0 (by decide) (by decide)) (fun _ h => tk_X7 h (by decide) (by decide)) (tk_w.of ht_a0 (by decide) (List.mem_of_getElem? (i := 0) rfl) (Nat.le_refl _) (Nat.le_refl _)) dX6_goDeeper_22 (fun H locs hG hS hf1 hq9 hj9 => ?_)
  refine lv_aload_n hx hb dX6_goDeeper_25 rfl (lv_at hl 0 rfl) ?_
  have hk_1 : (1 : Int32).toInt = 1 := by decide
  refine tk_Vv (As := []) (rest := []) (ci := 6) ⟨hx, hb, hml, hown, hts⟩ hK hG hZ hS (k_X6_step l D cy ld t a0 1 ht_a0 (by omega) (by omega)) hf1 ⟨callB_of 0 hts (wl_in mw_494) rfl rfl rfl (htl _ mw_36) (htl _ mw_491) hd_yX6_step ⟨(Nat.le_of_ble_eq_true rfl), (Nat.le_of_ble_eq_true rfl)⟩, htl _ mw_492, htl _ mw_493⟩ ht_a0 (by decide) tk_no rfl (tk_w.pick [0] rfl) rfl hl.1 rfl (Nat.le_of_ble_eq_true rfl) dX6_goDeeper_26 ⟨(Nat.le_of_ble_eq_true rfl), (Nat.le_of_ble_eq_true rfl)⟩ (fun H locs hpo hG hS hq9 => ?_)
  have hf4 := hpo
  refine lv_iconst (v := 1) hx hb dX6_goDeeper_29 (by decide) ?_
  have hk_1 : (1 : Int32).toInt = 1 := by decide
  exact tk_iret (v := 1) hx hb hr rfl hlocks (show (1 : Int32).toInt + (-1) = 0 ∧ 0 ≤ (1 : Int32).toInt ∧ (1 : Int32).toInt ≤ 1 ∧ tk_f D H a0 6 9 (.int 1) from ⟨(by omega), (by omega), (by omega), hf4⟩) hG hS dX6_goDeeper_30
theorem dX6_isSign_0 : decode cX6_isSign 0 = .ok (.aload_n 0, 1) := by decide +kernel
theorem dX6_isSign_1 : decode cX6_isSign 1 = .ok (.invokevirtual 56, 3) := by decide +kernel
theorem dX6_isSign_4 : decode cX6_isSign 4 = .ok (.ifCond .eq 28, 3) := by decide +kernel
theorem dX6_isSign_32 : decode cX6_isSign 32 = .ok (.iconst 0, 1) := by decide +kernel
theorem dX6_isSign_33 : decode cX6_isSign 33 = .ok (.ireturn, 1) := by decide +kernel
theorem dX6_isSign_7 : decode cX6_isSign 7 = .ok (.aload_n 0, 1) := by decide +kernel
theorem dX6_isSign_8 : decode cX6_isSign 8 = .ok (.getfield 67, 3) := by decide +kernel
theorem dX6_isSign_11 : decode cX6_isSign 11 = .ok (.iconst 3, 1) := by decide +kernel
theorem dX6_isSign_12 : decode cX6_isSign 12 = .ok (.if_icmp .ne 20, 3) := by decide +kernel
theorem dX6_isSign_15 : decode cX6_isSign 15 = .ok (.aload_n 0, 1) := by decide +kernel
theorem dX6_isSign_16 : decode cX6_isSign 16 = .ok (.getfield 20, 3) := by decide +kernel
theorem dX6_isSign_19 : decode cX6_isSign 19 = .ok (.aload_n 0, 1) := by decide +kernel
theorem dX6_isSign_20 : decode cX6_isSign 20 = .ok (.getfield 73, 3) := by decide +kernel
theorem dX6_isSign_23 : decode cX6_isSign 23 = .ok (.iaload, 1) := by decide +kernel
theorem dX6_isSign_24 : decode cX6_isSign 24 = .ok (.iload_n 1, 1) := by decide +kernel
theorem dX6_isSign_25 : decode cX6_isSign 25 = .ok (.if_icmp .ne 7, 3) := by decide +kernel
theorem dX6_isSign_28 : decode cX6_isSign 28 = .ok (.iconst 1, 1) := by decide +kernel
theorem dX6_isSign_29 : decode cX6_isSign 29 = .ok (.goto 4, 3) := by decide +kernel
set_option maxHeartbeats 4000000 in
set_option maxRecDepth 100000 in
theorem k_X6_isSign (l : Launch) (D : va_G) (cy : Nat → ClassId) (ld : Nat → Nat) (t : tk_T) (a0 : Nat) (p1 : Int32) (ht_a0 : t a0 = (7, 0, 0)) : Met l yX6_isSign (wl yX6_isSign cX6_isSign 2 (some .boolean)) ({ frames := 4, cells := 0, slots := 0, locals := 210 }) (tp D cy ld t [] [.ref a0, .int p1] (fun H => True)) (ti D cy ld t [] (fun r H => 0 ≤ r.toInt ∧ r.toInt ≤ 1 ∧ 0 ≤ r.toInt ∧ r.toInt ≤ 1) (tk_w t [])) 0 0 (tk_w t []) := by
  refine tk_met (y := yX6_isSign) (cc := cX6_isSign) (maxL := 2) (ret := (some .boolean)) (av := [.ref a0, .int p1]) _ _ (by decide) (Nat.le_of_ble_eq_true rfl) ?_
  intro p e s m args below meth c hx hb hr hml hts htl hown hlocks hK H locs hH hG hS hB hZ ls hl
  have hown : s.vm.findClass RX6 = some m.cls := hown
  have hl : lv_has ls 2 [(0, .ref a0), (1, .int p1)] := hl
  have hr_p1 := tk_rng p1
  refine lv_aload_n hx hb dX6_isSign_0 rfl (lv_at hl 0 rfl) ?_
  refine tk_Vi (As := []) (rest := []) (ci := 6) ⟨hx, hb, hml, hown, hts⟩ hK hG hZ hS (k_X6_isGood l D cy ld t a0 ht_a0) trivial ⟨callB_of 0 hts (wl_in mw_503) rfl rfl rfl (htl _ mw_36) (htl _ mw_500) hd_yX6_isGood ⟨(Nat.le_of_ble_eq_true rfl), (Nat.le_of_ble_eq_true rfl)⟩, htl _ mw_501, htl _ mw_502⟩ ht_a0 (by decide) tk_no rfl (tk_w.pick [] rfl) rfl hl.1 rfl (Nat.le_of_ble_eq_true rfl) dX6_isSign_1 ⟨(Nat.le_of_ble_eq_true rfl), (Nat.le_of_ble_eq_true rfl)⟩ (fun v1 H locs hpo hG hS hq9 => ?_)
  obtain ⟨hpo3, hpo4, hpo5, hpo6⟩ := hpo
  refine lv_if_eq (tgt := 32) hx hb dX6_isSign_4 (by decide) (fun c9 => ?_) (fun c9 => ?_)
  · have hc7 : v1.toInt = 0 := (fi_eq rfl (show (0 : Int32).toInt = 0 by decide)).mp c9
    refine lv_iconst (v := 0) hx hb dX6_isSign_32 (by decide) ?_
    have hk_0 : (0 : Int32).toInt = 0 := by decide
    exact tk_iret (v := 0) hx hb hr rfl hlocks (show 0 ≤ (0 : Int32).toInt ∧ (0 : Int32).toInt ≤ 1 ∧ 0 ≤ (0 : Int32).toInt ∧ (0 : Int32).toInt ≤ 1 from ⟨(by omega), (by omega), (by omega), (by omega)⟩) hG hS dX6_isSign_33
  · have hc7 : ¬ (v1.toInt = 0) := fun h9 => c9 ((fi_eq rfl (show (0 : Int32).toInt = 0 by decide)).mpr h9)
    refine lv_aload_n hx hb dX6_isSign_7 rfl (lv_at hl 0 rfl) ?_
    refine tk_get (ci := 6) (C := RX6) (T := TX6) (N := 11) (sp := (0, (-2147483648), 2147483647, 0)) hx hb htl inX6 hown hK hG ht_a0 (by decide) tk_no rfl 6 (by decide) (htl _ mw_482) (fun _ h9 => h9) rfl dX6_isSign_8 (fun v9 hf8 hV9 => ?_)
    obtain ⟨v9, rfl, (ha_v9 : (-2147483648) ≤ v9.toInt), (hb_v9 : v9.toInt ≤ 2147483647)⟩ := hV9
    refine lv_iconst (v := 3) hx hb dX6_isSign_11 (by decide) ?_
    refine lv_icmp_ne (tgt := 32) hx hb dX6_isSign_12 (by decide) (fun c9 => ?_) (fun c9 => ?_)
    · have hc10 : ¬ (v9.toInt = 3) := fun h9 => c9 ((fi_eq rfl (show (3 : Int32).toInt = 3 by decide)).mpr h9)
      refine lv_iconst (v := 0) hx hb dX6_isSign_32 (by decide) ?_
      have hk_0 : (0 : Int32).toInt = 0 := by decide
      exact tk_iret (v := 0) hx hb hr rfl hlocks (show 0 ≤ (0 : Int32).toInt ∧ (0 : Int32).toInt ≤ 1 ∧ 0 ≤ (0 : Int32).toInt ∧ (0 : Int32).toInt ≤ 1 from ⟨(by omega), (by omega), (by omega), (by omega)⟩) hG hS dX6_isSign_33
    · have hc10 : v9.toInt = 3 := (fi_eq rfl (show (3 : Int32).toInt = 3 by decide)).mp c9
      refine lv_aload_n hx hb dX6_isSign_15 rfl (lv_at hl 0 rfl) ?_
      refine tk_get (ci := 6) (C := RX6) (T := TX6) (N := 11) (sp := (6, 20, 400, 9)) hx hb htl inX6 hown hK hG ht_a0 (by decide) tk_no rfl 1 (by decide) (htl _ mw_133) (fun _ h9 => h9) rfl dX6_isSign_16 (fun v9 hf11 hV9 => ?_)
      obtain ⟨b12, rfl, ht_b12⟩ := hV9
      have ht_b12 : t b12 = (20, 400, 9) := ht_b12
      refine lv_aload_n hx hb dX6_isSign_19 rfl (lv_at hl 0 rfl) ?_
      refine tk_get (ci := 6) (C := RX6) (T := TX6) (N := 11) (sp := (0, 0, 400, 0)) hx hb htl inX6 hown hK hG ht_a0 (by decide) tk_no rfl 4 (by decide) (htl _ mw_495) (fun _ h9 => h9) rfl dX6_isSign_20 (fun v9 hf13 hV9 => ?_)
      obtain ⟨v14, rfl, (ha_v14 : 0 ≤ v14.toInt), (hb_v14 : v14.toInt ≤ 400)⟩ := hV9
      have hs_v14 := tk_plc hG ht_a0 tk_no hf13 hf8
      refine tk_iald hx hb hK hG ht_b12 (by decide) (fun _ h => h) tk_no rfl (by omega) (by omega) dX6_isSign_23 (fun v15 _ _ => ?_)
      have hr_v15 := tk_rng v15
      refine lv_iload_n hx hb dX6_isSign_24 rfl (lv_at hl 1 rfl) ?_
      refine lv_icmp_ne (tgt := 32) hx hb dX6_isSign_25 (by decide) (fun c9 => ?_) (fun c9 => ?_)
      · have hc16 : ¬ (v15.toInt = p1.toInt) := fun h9 => c9 ((fi_eq rfl rfl).mpr h9)
        refine lv_iconst (v := 0) hx hb dX6_isSign_32 (by decide) ?_
        have hk_0 : (0 : Int32).toInt = 0 := by decide
        exact tk_iret (v := 0) hx hb hr rfl hlocks (show 0 ≤ (0 : Int32).toInt ∧ (0 : Int32).toInt ≤ 1 ∧ 0 ≤ (0 : Int32).toInt ∧ (0 : Int32).toInt ≤ 1 from ⟨(by omega), (by omega), (by omega), (by omega)⟩) hG hS dX6_isSign_33
      · have hc16 : v15.toInt = p1.toInt := (fi_eq rfl rfl).mp c9
        refine lv_iconst (v := 1) hx hb dX6_isSign_28 (by decide) ?_
        refine lv_goto (tgt := 33) hx hb dX6_isSign_29 (by decide) ?_
        have hk_1 : (1 : Int32).toInt = 1 := by decide
        exact tk_iret (v := 1) hx hb hr rfl hlocks (show 0 ≤ (1 : Int32).toInt ∧ (1 : Int32).toInt ≤ 1 ∧ 0 ≤ (1 : Int32).toInt ∧ (1 : Int32).toInt ≤ 1 from ⟨(by omega), (by omega), (by omega), (by omega)⟩) hG hS dX6_isSign_33
set_option maxHeartbeats 4000000 in
set_option maxRecDepth 100000 in
theorem k_J0_isLatin1_aae02_8 (l : Launch) (D : va_G) (cy : Nat → ClassId) (ld : Nat → Nat) (t : tk_T) : Met l yJ0_isLatin1_aae02 (wl yJ0_isLatin1_aae02 cJ0_isLatin1_aae02 1 (some .boolean)) ({ frames := 3, cells := 0, slots := 0, locals := 140 }) (tp D cy ld t [] [.ref (ld 8)] (fun H => True)) (ti D cy ld t [] (fun r H => r.toInt + (-1) = 0 ∧ 0 ≤ r.toInt ∧ r.toInt ≤ 1) (tk_w t [])) 0 0 (tk_w t []) := by
  refine tk_met (y := yJ0_isLatin1_aae02) (cc := cJ0_isLatin1_aae02) (maxL := 1) (ret := (some .boolean)) (av := [.ref (ld 8)]) _ _ (by decide) (Nat.le_of_ble_eq_true rfl) ?_
  intro p e s m args below meth c hx hb hr hml hts htl hown hlocks hK H locs hH hG hS hB hZ ls hl
  have hown : s.vm.findClass RJ0 = some m.cls := hown
  have hl : lv_has ls 1 [(0, .ref (ld 8))] := hl
  refine va_gets hx hb (hZ.2.1.narrow (fun _ h => h.1)) hS hown (htl _ mw_528) (fun _ h9 => h9) dJ0_isLatin1_aae02_0 ?_
  refine lv_if_eq (tgt := 17) hx hb dJ0_isLatin1_aae02_3 (by decide) (fun c9 => absurd c9 (by decide)) (fun _ => ?_)
  refine lv_aload_n hx hb dJ0_isLatin1_aae02_6 rfl (lv_at hl 0 rfl) ?_
  refine vk_getf hx hb ((hZ.1.1 8 (by decide)).2.1.narrow (fun _ h => h.1)) hS hown (htl _ mw_529) (fun _ h9 => h9) dJ0_isLatin1_aae02_7 ?_
  refine lv_if_ne (tgt := 17) hx hb dJ0_isLatin1_aae02_10 (by decide) (fun c9 => absurd (by decide) c9) (fun _ => ?_)
  refine lv_iconst (v := 1) hx hb dJ0_isLatin1_aae02_13 (by decide) ?_
  refine lv_goto (tgt := 18) hx hb dJ0_isLatin1_aae02_14 (by decide) ?_
  have hk_1 : (1 : Int32).toInt = 1 := by decide
  exact tk_iret (v := 1) hx hb hr rfl hlocks (show (1 : Int32).toInt + (-1) = 0 ∧ 0 ≤ (1 : Int32).toInt ∧ (1 : Int32).toInt ≤ 1 from ⟨(by omega), (by omega), (by omega)⟩) hG hS dJ0_isLatin1_aae02_18
set_option maxHeartbeats 4000000 in
set_option maxRecDepth 100000 in
theorem k_J1_charAt_3b067_8 (l : Launch) (D : va_G) (cy : Nat → ClassId) (ld : Nat → Nat) (t : tk_T) (p1 : Int32) (hp_0 : 0 ≤ p1.toInt) (hp_1 : p1.toInt ≤ 2) : Met l yJ1_charAt_3b067 (wl yJ1_charAt_3b067 cJ1_charAt_3b067 2 (some .char)) ({ frames := 5, cells := 0, slots := 0, locals := 280 }) (tp D cy ld t [] [.ref (ld 58), .int p1] (fun H => True)) (ti D cy ld t [] (fun r H => 0 ≤ r.toInt ∧ r.toInt ≤ 255) (tk_w t [])) 0 0 (tk_w t []) := by
  refine tk_met (y := yJ1_charAt_3b067) (cc := cJ1_charAt_3b067) (maxL := 2) (ret := (some .char)) (av := [.ref (ld 58), .int p1]) _ _ (by decide) (Nat.le_of_ble_eq_true rfl) ?_
  intro p e s m args below meth c hx hb hr hml hts htl hown hlocks hK H locs hH hG hS hB hZ ls hl
  have hown : s.vm.findClass RJ1 = some m.cls := hown
  have hl : lv_has ls 2 [(0, .ref (ld 58)), (1, .int p1)] := hl
  have hr_p1 := tk_rng p1
  refine lv_iload_n hx hb dJ1_charAt_3b067_0 rfl (lv_at hl 1 rfl) ?_
  refine lv_aload_n hx hb dJ1_charAt_3b067_1 rfl (lv_at hl 0 rfl) ?_
  refine va_tlen (v := 3) hx hb ((hZ.1.1 8 (by decide)).2.2.2.narrow (fun _ h => h.1)) hS rfl dJ1_charAt_3b067_2 ?_
  have hk_3 : (3 : Int32).toInt = 3 := by decide
  refine tk_Sv (As := [.int p1, .int 3]) (rest := []) ⟨hx, hb, hml, hown, hts⟩ hK hG hZ hS (k_J0_checkIndex_df160 l D cy ld t p1 3 (by omega) (by omega) (by omega) (by omega) (by omega)) trivial ⟨callB_of 2 hts (wl_in mw_544) rfl rfl rfl (htl _ mw_521) (htl _ mw_542) hd_yJ0_checkIndex_df160 ⟨(Nat.le_of_ble_eq_true rfl), (Nat.le_of_ble_eq_true rfl)⟩, htl _ mw_543⟩ (tk_w.pick [] rfl) rfl hl.1 rfl (Nat.le_of_ble_eq_true rfl) dJ1_charAt_3b067_3 ⟨(Nat.le_of_ble_eq_true rfl), (Nat.le_of_ble_eq_true rfl)⟩ (fun H locs hpo hG hS hq9 => ?_)
  refine lv_aload_n hx hb dJ1_charAt_3b067_6 rfl (lv_at hl 0 rfl) ?_
  refine lv_iload_n hx hb dJ1_charAt_3b067_7 rfl (lv_at hl 1 rfl) ?_
  refine va_tb hx hb ((hZ.1.1 8 (by decide)).2.2.2.narrow (fun _ h => h.1)) hS (vp_in_iff.mpr ⟨by omega, show _ < ((3 : Nat) : Int) by omega⟩) rfl dJ1_charAt_3b067_8 ?_
  refine tk_any (fun v2 => ?_)
  refine lv_sipush (v := 255) hx hb dJ1_charAt_3b067_9 (by decide) ?_
  refine lv_iand hx hb dJ1_charAt_3b067_12 ?_
  refine tk_say (P := fun z => 0 ≤ z.toInt ∧ z.toInt ≤ 255) (tk_and v2 8 (by decide) (by decide)) (fun v3 h_v3 => ?_)
  obtain ⟨v4, e_v4, h_v4⟩ := tk_i2c (x := v3) (by omega) (by omega)
  refine lv_i2c (v := v4) hx hb dJ1_charAt_3b067_13 e_v4 ?_
  exact tk_iret (v := v4) hx hb hr (tk_nc (by omega) (by omega)) hlocks (show 0 ≤ v4.toInt ∧ v4.toInt ≤ 255 from ⟨(by omega), (by omega)⟩) hG hS dJ1_charAt_3b067_14
set_option maxHeartbeats 4000000 in
set_option maxRecDepth 100000 in
theorem k_J0_charAt_5068e_8 (l : Launch) (D : va_G) (cy : Nat → ClassId) (ld : Nat → Nat) (t : tk_T) (p1 : Int32) (hp_0 : 0 ≤ p1.toInt) (hp_1 : p1.toInt ≤ 2) : Met l yJ0_charAt_5068e (wl yJ0_charAt_5068e cJ0_charAt_5068e 2 (some .char)) ({ frames := 6, cells := 0, slots := 0, locals := 350 }) (tp D cy ld t [] [.ref (ld 8), .int p1] (fun H => True)) (ti D cy ld t [] (fun r H => 0 ≤ r.toInt ∧ r.toInt ≤ 255) (tk_w t [])) 0 0 (tk_w t []) := by
  refine tk_met (y := yJ0_charAt_5068e) (cc := cJ0_charAt_5068e) (maxL := 2) (ret := (some .char)) (av := [.ref (ld 8), .int p1]) _ _ (by decide) (Nat.le_of_ble_eq_true rfl) ?_
  intro p e s m args below meth c hx hb hr hml hts htl hown hlocks hK H locs hH hG hS hB hZ ls hl
  have hown : s.vm.findClass RJ0 = some m.cls := hown
  have hl : lv_has ls 2 [(0, .ref (ld 8)), (1, .int p1)] := hl
  have hr_p1 := tk_rng p1
  refine lv_aload_n hx hb dJ0_charAt_5068e_0 rfl (lv_at hl 0 rfl) ?_
  refine tk_Ti (As := []) (rest := []) (j := 8) ⟨hx, hb, hml, hown, hts⟩ hK hG hZ hS (k_J0_isLatin1_aae02_8 l D cy ld t) trivial ⟨callB_of 0 hts (wl_in mw_537) rfl rfl rfl (htl _ mw_521) (htl _ mw_534) hd_yJ0_isLatin1_aae02 ⟨(Nat.le_of_ble_eq_true rfl), (Nat.le_of_ble_eq_true rfl)⟩, htl _ mw_535, htl _ mw_536⟩ (by decide) (tk_w.pick [] rfl) rfl hl.1 rfl (Nat.le_of_ble_eq_true rfl) dJ0_charAt_5068e_1 ⟨(Nat.le_of_ble_eq_true rfl), (Nat.le_of_ble_eq_true rfl)⟩ (fun v1 H locs hpo hG hS hq9 => ?_)
  obtain ⟨hpo3, hpo4, hpo5⟩ := hpo
  obtain rfl : v1 = 1 := (fi_eq (show v1.toInt = 1 by omega) (by decide)).mpr rfl
  refine lv_if_eq (tgt := 16) hx hb dJ0_charAt_5068e_4 (by decide) (fun c9 => absurd c9 (by decide)) (fun _ => ?_)
  refine lv_aload_n hx hb dJ0_charAt_5068e_7 rfl (lv_at hl 0 rfl) ?_
  refine vk_getf hx hb ((hZ.1.1 8 (by decide)).2.2.1.narrow (fun _ h => h.1)) hS hown (htl _ mw_523) (fun _ h9 => h9) dJ0_charAt_5068e_8 ?_
  refine lv_iload_n hx hb dJ0_charAt_5068e_11 rfl (lv_at hl 1 rfl) ?_
  refine tk_Si (As := [.ref (ld 58), .int p1]) (rest := []) ⟨hx, hb, hml, hown, hts⟩ hK hG hZ hS (k_J1_charAt_3b067_8 l D cy ld t p1 (by omega) (by omega)) trivial ⟨callB_of 2 hts (wl_in mw_541) rfl rfl rfl (htl _ mw_540) (htl _ mw_538) hd_yJ1_charAt_3b067 ⟨(Nat.le_of_ble_eq_true rfl), (Nat.le_of_ble_eq_true rfl)⟩, htl _ mw_539⟩ (tk_w.pick [] rfl) rfl hl.1 rfl (Nat.le_of_ble_eq_true rfl) dJ0_charAt_5068e_12 ⟨(Nat.le_of_ble_eq_true rfl), (Nat.le_of_ble_eq_true rfl)⟩ (fun v6 H locs hpo hG hS hq9 => ?_)
  obtain ⟨hpo8, hpo9⟩ := hpo
  exact tk_iret (v := v6) hx hb hr (tk_nc (by omega) (by omega)) hlocks (show 0 ≤ v6.toInt ∧ v6.toInt ≤ 255 from ⟨(by omega), (by omega)⟩) hG hS dJ0_charAt_5068e_15
set_option maxHeartbeats 4000000 in
set_option maxRecDepth 100000 in
theorem k_J0_coder_7d493_8 (l : Launch) (D : va_G) (cy : Nat → ClassId) (ld : Nat → Nat) (t : tk_T) : Met l yJ0_coder_7d493 (wl yJ0_coder_7d493 cJ0_coder_7d493 1 (some .byte)) ({ frames := 3, cells := 0, slots := 0, locals := 140 }) (tp D cy ld t [] [.ref (ld 8)] (fun H => True)) (ti D cy ld t [] (fun r H => r.toInt = 0) (tk_w t [])) 0 0 (tk_w t []) := by
  refine tk_met (y := yJ0_coder_7d493) (cc := cJ0_coder_7d493) (maxL := 1) (ret := (some .byte)) (av := [.ref (ld 8)]) _ _ (by decide) (Nat.le_of_ble_eq_true rfl) ?_
  intro p e s m args below meth c hx hb hr hml hts htl hown hlocks hK H locs hH hG hS hB hZ ls hl
  have hown : s.vm.findClass RJ0 = some m.cls := hown
  have hl : lv_has ls 1 [(0, .ref (ld 8))] := hl
  refine va_gets hx hb (hZ.2.1.narrow (fun _ h => h.1)) hS hown (htl _ mw_528) (fun _ h9 => h9) dJ0_coder_7d493_0 ?_
  refine lv_if_eq (tgt := 13) hx hb dJ0_coder_7d493_3 (by decide) (fun c9 => absurd c9 (by decide)) (fun _ => ?_)
  refine lv_aload_n hx hb dJ0_coder_7d493_6 rfl (lv_at hl 0 rfl) ?_
  refine vk_getf hx hb ((hZ.1.1 8 (by decide)).2.1.narrow (fun _ h => h.1)) hS hown (htl _ mw_529) (fun _ h9 => h9) dJ0_coder_7d493_7 ?_
  refine lv_goto (tgt := 14) hx hb dJ0_coder_7d493_10 (by decide) ?_
  have hk_0 : (0 : Int32).toInt = 0 := by decide
  exact tk_iret (v := 0) hx hb hr rfl hlocks (show (0 : Int32).toInt = 0 from (by omega)) hG hS dJ0_coder_7d493_14
set_option maxHeartbeats 4000000 in
set_option maxRecDepth 100000 in
theorem k_J0_length_8abf5_8 (l : Launch) (D : va_G) (cy : Nat → ClassId) (ld : Nat → Nat) (t : tk_T) : Met l yJ0_length_8abf5 (wl yJ0_length_8abf5 cJ0_length_8abf5 1 (some .int)) ({ frames := 4, cells := 0, slots := 0, locals := 210 }) (tp D cy ld t [] [.ref (ld 8)] (fun H => True)) (ti D cy ld t [] (fun r H => r.toInt + (-3) = 0) (tk_w t [])) 0 0 (tk_w t []) := by
  refine tk_met (y := yJ0_length_8abf5) (cc := cJ0_length_8abf5) (maxL := 1) (ret := (some .int)) (av := [.ref (ld 8)]) _ _ (by decide) (Nat.le_of_ble_eq_true rfl) ?_
  intro p e s m args below meth c hx hb hr hml hts htl hown hlocks hK H locs hH hG hS hB hZ ls hl
  have hown : s.vm.findClass RJ0 = some m.cls := hown
  have hl : lv_has ls 1 [(0, .ref (ld 8))] := hl
  refine lv_aload_n hx hb dJ0_length_8abf5_0 rfl (lv_at hl 0 rfl) ?_
  refine vk_getf hx hb ((hZ.1.1 8 (by decide)).2.2.1.narrow (fun _ h => h.1)) hS hown (htl _ mw_523) (fun _ h9 => h9) dJ0_length_8abf5_1 ?_
  refine va_tlen (v := 3) hx hb ((hZ.1.1 8 (by decide)).2.2.2.narrow (fun _ h => h.1)) hS rfl dJ0_length_8abf5_4 ?_
  refine lv_aload_n hx hb dJ0_length_8abf5_5 rfl (lv_at hl 0 rfl) ?_
  refine tk_Ti (As := []) (rest := [.int 3]) (j := 8) ⟨hx, hb, hml, hown, hts⟩ hK hG hZ hS (k_J0_coder_7d493_8 l D cy ld t) trivial ⟨callB_of 0 hts (wl_in mw_527) rfl rfl rfl (htl _ mw_521) (htl _ mw_524) hd_yJ0_coder_7d493 ⟨(Nat.le_of_ble_eq_true rfl), (Nat.le_of_ble_eq_true rfl)⟩, htl _ mw_525, htl _ mw_526⟩ (by decide) (tk_w.pick [] rfl) rfl hl.1 rfl (Nat.le_of_ble_eq_true rfl) dJ0_length_8abf5_6 ⟨(Nat.le_of_ble_eq_true rfl), (Nat.le_of_ble_eq_true rfl)⟩ (fun v1 H locs hpo hG hS hq9 => ?_)
  have hpo3 := hpo
  obtain rfl : v1 = 0 := (fi_eq (show v1.toInt = 0 by omega) (by decide)).mpr rfl
  refine lv_ishr hx hb dJ0_length_8abf5_9 ?_
  refine fx_ti (v := 3) (by decide) ?_
  have hk_3 : (3 : Int32).toInt = 3 := by decide
  exact tk_iret (v := 3) hx hb hr rfl hlocks (show (3 : Int32).toInt + (-3) = 0 from (by omega)) hG hS dJ0_length_8abf5_10
set_option maxHeartbeats 4000000 in
set_option maxRecDepth 100000 in
theorem k_X6_isToken_8 (l : Launch) (D : va_G) (cy : Nat → ClassId) (ld : Nat → Nat) (t : tk_T) (a0 : Nat) (p2 : Int32) (p3 : Int32) (ht_a0 : t a0 = (7, 0, 0)) (hp_0 : 0 ≤ p2.toInt) (hp_1 : p2.toInt ≤ 3) (hp_2 : 0 ≤ p3.toInt) (hp_3 : p3.toInt ≤ 3) : Met l yX6_isToken (wl yX6_isToken cX6_isToken 5 (some .boolean)) ({ frames := 7, cells := 0, slots := 0, locals := 420 }) (tp D cy ld t [] [.ref a0, .ref (ld 8), .int p2, .int p3] (fun H => True)) (ti D cy ld t [] (fun r H => 0 ≤ r.toInt ∧ r.toInt ≤ 1 ∧ 0 ≤ r.toInt ∧ r.toInt ≤ 1) (tk_w t [])) 0 0 (tk_w t []) := by
  refine tk_met (y := yX6_isToken) (cc := cX6_isToken) (maxL := 5) (ret := (some .boolean)) (av := [.ref a0, .ref (ld 8), .int p2, .int p3]) _ _ (by decide) (Nat.le_of_ble_eq_true rfl) ?_
  intro p e s m args below meth c hx hb hr hml hts htl hown hlocks hK H locs hH hG hS hB hZ ls hl
  have hown : s.vm.findClass RX6 = some m.cls := hown
  have hl : lv_has ls 5 [(0, .ref a0), (1, .ref (ld 8)), (2, .int p2), (3, .int p3)] := hl
  have hr_p2 := tk_rng p2
  have hr_p3 := tk_rng p3
  refine lv_iload_n hx hb dX6_isToken_0 rfl (lv_at hl 3 rfl) ?_
  refine lv_iload_n hx hb dX6_isToken_1 rfl (lv_at hl 2 rfl) ?_
  refine lv_isub hx hb dX6_isToken_2 ?_
  refine tk_sub rfl rfl (by omega) (by omega) (fun v1 h_v1 => ?_)
  refine lv_aload_n hx hb dX6_isToken_3 rfl (lv_at hl 0 rfl) ?_
  refine tk_get (ci := 6) (C := RX6) (T := TX6) (N := 11) (sp := (0, 0, 400, 0)) hx hb htl inX6 hown hK hG ht_a0 (by decide) tk_no rfl 5 (by decide) (htl _ mw_478) (fun _ h9 => h9) rfl dX6_isToken_4 (fun v9 hf2 hV9 => ?_)
  obtain ⟨v3, rfl, (ha_v3 : 0 ≤ v3.toInt), (hb_v3 : v3.toInt ≤ 400)⟩ := hV9
  refine lv_aload_n hx hb dX6_isToken_7 rfl (lv_at hl 0 rfl) ?_
  refine tk_get (ci := 6) (C := RX6) (T := TX6) (N := 11) (sp := (0, 0, 400, 0)) hx hb htl inX6 hown hK hG ht_a0 (by decide) tk_no rfl 4 (by decide) (htl _ mw_495) (fun _ h9 => h9) rfl dX6_isToken_8 (fun v9 hf4 hV9 => ?_)
  obtain ⟨v5, rfl, (ha_v5 : 0 ≤ v5.toInt), (hb_v5 : v5.toInt ≤ 400)⟩ := hV9
  refine lv_isub hx hb dX6_isToken_11 ?_
  refine tk_sub rfl rfl (by omega) (by omega) (fun v6 h_v6 => ?_)
  refine lv_icmp_eq (tgt := 17) hx hb dX6_isToken_12 (by decide) (fun c9 => ?_) (fun c9 => ?_)
  · have hc7 : v1.toInt = v6.toInt := (fi_eq rfl rfl).mp c9
    refine lv_iload_n hx hb dX6_isToken_17 rfl (lv_at hl 2 rfl) ?_
    refine lv_istore (lv' := [(4, .int p2), (0, .ref a0), (1, .ref (ld 8)), (2, .int p2), (3, .int p3)]) hx hb dX6_isToken_18 hl (by decide) rfl (fun ls hl => ?_)
    have hl82 : ∀ (N_l82 : Nat) (v8 : Int32) (H : Heap) (locs : List Loc), v8.toInt ≤ 3 → 0 ≤ (-1) * p2.toInt + v8.toInt → (-1) * v8.toInt + 3 < (N_l82 : Int) → tk_G D cy ld t [] H → va_S (tk_w t []) s.heap H locs → tk_f D H a0 6 5 (.int v3) → tk_f D H a0 6 4 (.int v5) → ∀ ls : Array Slot, lv_has ls 5 [(4, .int v8), (0, .ref a0), (1, .ref (ld 8)), (2, .int p2), (3, .int p3)] → W p l e ({ frames := 7, cells := 0, slots := 0, locals := 420 }) s m args below meth c H locs 0 0 (MQ below (ti D cy ld t [] (fun r H => 0 ≤ r.toInt ∧ r.toInt ≤ 1 ∧ 0 ≤ r.toInt ∧ r.toInt ≤ 1) (tk_w t [])) args s 0 0 (tk_w t [])) (F0 m 20 ls []) := by
      intro N_l82
      induction N_l82 with
      | zero => intro v8 H locs hq0_l82 hq1_l82 hm_l82 hG hS hf2 hf4 ls hl; exfalso; omega
      | succ N_l82 ih_l82 =>
        intro v8 H locs hq0_l82 hq1_l82 hm_l82 hG hS hf2 hf4 ls hl
        refine lv_iload hx hb dX6_isToken_20 (lv_at hl 0 rfl) ?_
        refine lv_iload_n hx hb dX6_isToken_22 rfl (lv_at hl 4 rfl) ?_
        refine lv_icmp_ge (tgt := 57) hx hb dX6_isToken_23 (by decide) (fun c9 => ?_) (fun c9 => ?_)
        · have hc83 : p3.toInt ≤ v8.toInt := (fi_le rfl rfl).mp c9
          refine lv_iconst (v := 1) hx hb dX6_isToken_57 (by decide) ?_
          have hk_1 : (1 : Int32).toInt = 1 := by decide
          exact tk_iret (v := 1) hx hb hr rfl hlocks (show 0 ≤ (1 : Int32).toInt ∧ (1 : Int32).toInt ≤ 1 ∧ 0 ≤ (1 : Int32).toInt ∧ (1 : Int32).toInt ≤ 1 from ⟨(by omega), (by omega), (by omega), (by omega)⟩) hG hS dX6_isToken_58
        · have hc83 : ¬ (p3.toInt ≤ v8.toInt) := fun h9 => c9 ((fi_le rfl rfl).mpr h9)
          refine lv_aload_n hx hb dX6_isToken_26 rfl (lv_at hl 2 rfl) ?_
          refine lv_iload hx hb dX6_isToken_27 (lv_at hl 0 rfl) ?_
          refine tk_Ti (As := [.int v8]) (rest := []) (j := 8) ⟨hx, hb, hml, hown, hts⟩ hK hG hZ hS (k_J0_charAt_5068e_8 l D cy ld t v8 (by omega) (by omega)) trivial ⟨callB_of 1 hts (wl_in mw_533) rfl rfl rfl (htl _ mw_521) (htl _ mw_530) hd_yJ0_charAt_5068e ⟨(Nat.le_of_ble_eq_true rfl), (Nat.le_of_ble_eq_true rfl)⟩, htl _ mw_531, htl _ mw_532⟩ (by decide) (tk_w.pick [] rfl) rfl hl.1 rfl (Nat.le_of_ble_eq_true rfl) dX6_isToken_29 ⟨(Nat.le_of_ble_eq_true rfl), (Nat.le_of_ble_eq_true rfl)⟩ (fun v84 H locs hpo hG hS hq9 => ?_)
          have hf2 := hf2.call hq9 tk_w.nil
          have hf4 := hf4.call hq9 tk_w.nil
          obtain ⟨hpo86, hpo87⟩ := hpo
          refine lv_aload_n hx hb dX6_isToken_32 rfl (lv_at hl 1 rfl) ?_
          refine tk_get (ci := 6) (C := RX6) (T := TX6) (N := 11) (sp := (6, 20, 400, 9)) hx hb htl inX6 hown hK hG ht_a0 (by decide) tk_no rfl 1 (by decide) (htl _ mw_133) (fun _ h9 => h9) rfl dX6_isToken_33 (fun v9 hf88 hV9 => ?_)
          obtain ⟨b89, rfl, ht_b89⟩ := hV9
          have ht_b89 : t b89 = (20, 400, 9) := ht_b89
          refine lv_aload_n hx hb dX6_isToken_36 rfl (lv_at hl 1 rfl) ?_
          refine tk_getk (ci := 6) (C := RX6) (T := TX6) (N := 11) (sp := (0, 0, 400, 0)) hx hb htl inX6 hown hK hG ht_a0 (by decide) tk_no rfl 4 (by decide) (htl _ mw_495) (fun _ h9 => h9) rfl hf4 dX6_isToken_37 ?_
          refine lv_iload hx hb dX6_isToken_40 (lv_at hl 0 rfl) ?_
          refine lv_iadd hx hb dX6_isToken_42 ?_
          refine tk_add rfl rfl (by omega) (by omega) (fun v90 h_v90 => ?_)
          refine lv_iload_n hx hb dX6_isToken_43 rfl (lv_at hl 3 rfl) ?_
          refine lv_isub hx hb dX6_isToken_44 ?_
          refine tk_sub rfl rfl (by omega) (by omega) (fun v91 h_v91 => ?_)
          refine tk_iald hx hb hK hG ht_b89 (by decide) (fun _ h => h) tk_no rfl (by omega) (by omega) dX6_isToken_45 (fun v92 _ _ => ?_)
          have hr_v92 := tk_rng v92
          refine lv_icmp_eq (tgt := 51) hx hb dX6_isToken_46 (by decide) (fun c9 => ?_) (fun c9 => ?_)
          · have hc93 : v84.toInt = v92.toInt := (fi_eq rfl rfl).mp c9
            obtain ⟨v94, h_v94, e_v94⟩ := tk_inc v8 1 (by decide) (by omega) (by omega)
            refine lv_iinc (v := v94) (lv' := [(4, .int v94), (0, .ref a0), (1, .ref (ld 8)), (2, .int p2), (3, .int p3)]) hx hb dX6_isToken_51 hl (k := 0) rfl e_v94 (by decide) rfl (fun ls hl => ?_)
            refine lv_goto (tgt := 20) hx hb dX6_isToken_54 (by decide) ?_
            exact ih_l82 v94 _ _ (by omega) (by omega) (by omega) hG hS hf2 hf4 _ (lv_sub hl [0, 1, 2, 3, 4] rfl)
          · have hc93 : ¬ (v84.toInt = v92.toInt) := fun h9 => c9 ((fi_eq rfl rfl).mpr h9)
            refine lv_iconst (v := 0) hx hb dX6_isToken_49 (by decide) ?_
            have hk_0 : (0 : Int32).toInt = 0 := by decide
            exact tk_iret (v := 0) hx hb hr rfl hlocks (show 0 ≤ (0 : Int32).toInt ∧ (0 : Int32).toInt ≤ 1 ∧ 0 ≤ (0 : Int32).toInt ∧ (0 : Int32).toInt ≤ 1 from ⟨(by omega), (by omega), (by omega), (by omega)⟩) hG hS dX6_isToken_50
    exact hl82 4 p2 _ _ (by omega) (by omega) (by omega) hG hS hf2 hf4 _ (lv_sub hl [0, 1, 2, 3, 4] rfl)
  · have hc7 : ¬ (v1.toInt = v6.toInt) := fun h9 => c9 ((fi_eq rfl rfl).mpr h9)
    refine lv_iconst (v := 0) hx hb dX6_isToken_15 (by decide) ?_
    have hk_0 : (0 : Int32).toInt = 0 := by decide
    exact tk_iret (v := 0) hx hb hr rfl hlocks (show 0 ≤ (0 : Int32).toInt ∧ (0 : Int32).toInt ≤ 1 ∧ 0 ≤ (0 : Int32).toInt ∧ (0 : Int32).toInt ≤ 1 from ⟨(by omega), (by omega), (by omega), (by omega)⟩) hG hS dX6_isToken_16
set_option maxHeartbeats 4000000 in
set_option maxRecDepth 100000 in
theorem k_X6_wordAmong_8 (l : Launch) (D : va_G) (cy : Nat → ClassId) (ld : Nat → Nat) (t : tk_T) (a0 : Nat) (ht_a0 : t a0 = (7, 0, 0)) : Met l yX6_wordAmong (wl yX6_wordAmong cX6_wordAmong 5 (some .int)) ({ frames := 8, cells := 0, slots := 0, locals := 490 }) (tp D cy ld t [] [.ref a0, .ref (ld 8)] (fun H => True)) (ti D cy ld t [] (fun r H => (-1) ≤ r.toInt ∧ r.toInt ≤ 3) (tk_w t [])) 0 0 (tk_w t []) := by
  refine tk_met (y := yX6_wordAmong) (cc := cX6_wordAmong) (maxL := 5) (ret := (some .int)) (av := [.ref a0, .ref (ld 8)]) _ _ (by decide) (Nat.le_of_ble_eq_true rfl) ?_
  intro p e s m args below meth c hx hb hr hml hts htl hown hlocks hK H locs hH hG hS hB hZ ls hl
  have hown : s.vm.findClass RX6 = some m.cls := hown
  have hl : lv_has ls 5 [(0, .ref a0), (1, .ref (ld 8))] := hl
  refine lv_aload_n hx hb dX6_wordAmong_0 rfl (lv_at hl 0 rfl) ?_
  refine tk_Vi (As := []) (rest := []) (ci := 6) ⟨hx, hb, hml, hown, hts⟩ hK hG hZ hS (k_X6_isGood l D cy ld t a0 ht_a0) trivial ⟨callB_of 0 hts (wl_in mw_503) rfl rfl rfl (htl _ mw_36) (htl _ mw_500) hd_yX6_isGood ⟨(Nat.le_of_ble_eq_true rfl), (Nat.le_of_ble_eq_true rfl)⟩, htl _ mw_501, htl _ mw_502⟩ ht_a0 (by decide) tk_no rfl (tk_w.pick [] rfl) rfl hl.1 rfl (Nat.le_of_ble_eq_true rfl) dX6_wordAmong_1 ⟨(Nat.le_of_ble_eq_true rfl), (Nat.le_of_ble_eq_true rfl)⟩ (fun v1 H locs hpo hG hS hq9 => ?_)
  obtain ⟨hpo3, hpo4, hpo5, hpo6⟩ := hpo
  refine lv_if_eq (tgt := 15) hx hb dX6_wordAmong_4 (by decide) (fun c9 => ?_) (fun c9 => ?_)
  · have hc7 : v1.toInt = 0 := (fi_eq rfl (show (0 : Int32).toInt = 0 by decide)).mp c9
    refine lv_iconst (v := (-1)) hx hb dX6_wordAmong_15 (by decide) ?_
    have hk_m1 : ((-1) : Int32).toInt = (-1) := by decide
    exact tk_iret (v := (-1)) hx hb hr rfl hlocks (show (-1) ≤ ((-1) : Int32).toInt ∧ ((-1) : Int32).toInt ≤ 3 from ⟨(by omega), (by omega)⟩) hG hS dX6_wordAmong_16
  · have hc7 : ¬ (v1.toInt = 0) := fun h9 => c9 ((fi_eq rfl (show (0 : Int32).toInt = 0 by decide)).mpr h9)
    refine lv_aload_n hx hb dX6_wordAmong_7 rfl (lv_at hl 0 rfl) ?_
    refine tk_get (ci := 6) (C := RX6) (T := TX6) (N := 11) (sp := (0, (-2147483648), 2147483647, 0)) hx hb htl inX6 hown hK hG ht_a0 (by decide) tk_no rfl 6 (by decide) (htl _ mw_482) (fun _ h9 => h9) rfl dX6_wordAmong_8 (fun v9 hf8 hV9 => ?_)
    obtain ⟨v9, rfl, (ha_v9 : (-2147483648) ≤ v9.toInt), (hb_v9 : v9.toInt ≤ 2147483647)⟩ := hV9
    refine lv_iconst (v := 1) hx hb dX6_wordAmong_11 (by decide) ?_
    refine lv_icmp_eq (tgt := 17) hx hb dX6_wordAmong_12 (by decide) (fun c9 => ?_) (fun c9 => ?_)
    · have hc10 : v9.toInt = 1 := (fi_eq rfl (show (1 : Int32).toInt = 1 by decide)).mp c9
      refine lv_iconst (v := 0) hx hb dX6_wordAmong_17 (by decide) ?_
      refine lv_istore_n (lv' := [(2, .int 0), (0, .ref a0), (1, .ref (ld 8))]) hx hb dX6_wordAmong_18 rfl hl (by decide) rfl (fun ls hl => ?_)
      refine lv_iconst (v := 0) hx hb dX6_wordAmong_19 (by decide) ?_
      refine lv_istore_n (lv' := [(3, .int 0), (2, .int 0), (0, .ref a0), (1, .ref (ld 8))]) hx hb dX6_wordAmong_20 rfl hl (by decide) rfl (fun ls hl => ?_)
      refine lv_iconst (v := 0) hx hb dX6_wordAmong_21 (by decide) ?_
      refine lv_istore (lv' := [(4, .int 0), (3, .int 0), (2, .int 0), (0, .ref a0), (1, .ref (ld 8))]) hx hb dX6_wordAmong_22 hl (by decide) rfl (fun ls hl => ?_)
      have hl275 : ∀ (N_l275 : Nat) (v11 : Int32) (v12 : Int32) (v13 : Int32) (H : Heap) (locs : List Loc), v11.toInt ≤ 4 → 0 ≤ v13.toInt → 0 ≤ v11.toInt + (-1) * v12.toInt → 0 ≤ v12.toInt + (-1) * v13.toInt → (-1) * v11.toInt + 4 < (N_l275 : Int) → tk_G D cy ld t [] H → va_S (tk_w t []) s.heap H locs → tk_f D H a0 6 6 (.int v9) → ∀ ls : Array Slot, lv_has ls 5 [(4, .int v11), (3, .int v12), (2, .int v13), (0, .ref a0), (1, .ref (ld 8))] → W p l e ({ frames := 8, cells := 0, slots := 0, locals := 490 }) s m args below meth c H locs 0 0 (MQ below (ti D cy ld t [] (fun r H => (-1) ≤ r.toInt ∧ r.toInt ≤ 3) (tk_w t [])) args s 0 0 (tk_w t [])) (F0 m 24 ls []) := by
        intro N_l275
        induction N_l275 with
        | zero => intro v11 v12 v13 H locs hq0_l275 hq1_l275 hq2_l275 hq3_l275 hm_l275 hG hS hf8 ls hl; exfalso; omega
        | succ N_l275 ih_l275 =>
          intro v11 v12 v13 H locs hq0_l275 hq1_l275 hq2_l275 hq3_l275 hm_l275 hG hS hf8 ls hl
          refine lv_iload hx hb dX6_wordAmong_24 (lv_at hl 0 rfl) ?_
          refine lv_aload_n hx hb dX6_wordAmong_26 rfl (lv_at hl 4 rfl) ?_
          refine tk_Ti (As := []) (rest := [.int v11]) (j := 8) ⟨hx, hb, hml, hown, hts⟩ hK hG hZ hS (k_J0_length_8abf5_8 l D cy ld t) trivial ⟨callB_of 0 hts (wl_in mw_522) rfl rfl rfl (htl _ mw_521) (htl _ mw_518) hd_yJ0_length_8abf5 ⟨(Nat.le_of_ble_eq_true rfl), (Nat.le_of_ble_eq_true rfl)⟩, htl _ mw_519, htl _ mw_520⟩ (by decide) (tk_w.pick [] rfl) rfl hl.1 rfl (Nat.le_of_ble_eq_true rfl) dX6_wordAmong_27 ⟨(Nat.le_of_ble_eq_true rfl), (Nat.le_of_ble_eq_true rfl)⟩ (fun v276 H locs hpo hG hS hq9 => ?_)
          have hf8 := hf8.call hq9 tk_w.nil
          have hpo278 := hpo
          obtain rfl : v276 = 3 := (fi_eq (show v276.toInt = 3 by omega) (by decide)).mpr rfl
          refine lv_icmp_gt (tgt := 80) hx hb dX6_wordAmong_30 (by decide) (fun c9 => ?_) (fun c9 => ?_)
          · have hc279 : 3 < v11.toInt := (fi_lt (show (3 : Int32).toInt = 3 by decide) rfl).mp c9
            refine lv_iconst (v := (-1)) hx hb dX6_wordAmong_80 (by decide) ?_
            have hk_m1 : ((-1) : Int32).toInt = (-1) := by decide
            exact tk_iret (v := (-1)) hx hb hr rfl hlocks (show (-1) ≤ ((-1) : Int32).toInt ∧ ((-1) : Int32).toInt ≤ 3 from ⟨(by omega), (by omega)⟩) hG hS dX6_wordAmong_81
          · have hc279 : ¬ (3 < v11.toInt) := fun h9 => c9 ((fi_lt (show (3 : Int32).toInt = 3 by decide) rfl).mpr h9)
            refine lv_iload hx hb dX6_wordAmong_33 (lv_at hl 0 rfl) ?_
            refine lv_aload_n hx hb dX6_wordAmong_35 rfl (lv_at hl 4 rfl) ?_
            refine tk_Ti (As := []) (rest := [.int v11]) (j := 8) ⟨hx, hb, hml, hown, hts⟩ hK hG hZ hS (k_J0_length_8abf5_8 l D cy ld t) trivial ⟨callB_of 0 hts (wl_in mw_522) rfl rfl rfl (htl _ mw_521) (htl _ mw_518) hd_yJ0_length_8abf5 ⟨(Nat.le_of_ble_eq_true rfl), (Nat.le_of_ble_eq_true rfl)⟩, htl _ mw_519, htl _ mw_520⟩ (by decide) (tk_w.pick [] rfl) rfl hl.1 rfl (Nat.le_of_ble_eq_true rfl) dX6_wordAmong_36 ⟨(Nat.le_of_ble_eq_true rfl), (Nat.le_of_ble_eq_true rfl)⟩ (fun v280 H locs hpo hG hS hq9 => ?_)
            have hf8 := hf8.call hq9 tk_w.nil
            have hpo282 := hpo
            obtain rfl : v280 = 3 := (fi_eq (show v280.toInt = 3 by omega) (by decide)).mpr rfl
            refine lv_icmp_eq (tgt := 53) hx hb dX6_wordAmong_39 (by decide) (fun c9 => ?_) (fun c9 => ?_)
            · have hc283 : v11.toInt = 3 := (fi_eq rfl (show (3 : Int32).toInt = 3 by decide)).mp c9
              refine lv_aload_n hx hb dX6_wordAmong_53 rfl (lv_at hl 3 rfl) ?_
              refine lv_aload_n hx hb dX6_wordAmong_54 rfl (lv_at hl 4 rfl) ?_
              refine lv_iload_n hx hb dX6_wordAmong_55 rfl (lv_at hl 1 rfl) ?_
              refine lv_iload hx hb dX6_wordAmong_56 (lv_at hl 0 rfl) ?_
              refine tk_Vi (As := [.ref (ld 8), .int v12, .int v11]) (rest := []) (ci := 6) ⟨hx, hb, hml, hown, hts⟩ hK hG hZ hS (k_X6_isToken_8 l D cy ld t a0 v12 v11 ht_a0 (by omega) (by omega) (by omega) (by omega)) trivial ⟨callB_of 3 hts (wl_in mw_570) rfl rfl rfl (htl _ mw_36) (htl _ mw_567) hd_yX6_isToken ⟨(Nat.le_of_ble_eq_true rfl), (Nat.le_of_ble_eq_true rfl)⟩, htl _ mw_568, htl _ mw_569⟩ ht_a0 (by decide) tk_no rfl (tk_w.pick [] rfl) rfl hl.1 rfl (Nat.le_of_ble_eq_true rfl) dX6_wordAmong_58 ⟨(Nat.le_of_ble_eq_true rfl), (Nat.le_of_ble_eq_true rfl)⟩ (fun v284 H locs hpo hG hS hq9 => ?_)
              have hf8 := hf8.call hq9 tk_w.nil
              obtain ⟨hpo286, hpo287, hpo288, hpo289⟩ := hpo
              refine lv_if_eq (tgt := 66) hx hb dX6_wordAmong_61 (by decide) (fun c9 => ?_) (fun c9 => ?_)
              · have hc290 : v284.toInt = 0 := (fi_eq rfl (show (0 : Int32).toInt = 0 by decide)).mp c9
                obtain ⟨v291, h_v291, e_v291⟩ := tk_inc v13 1 (by decide) (by omega) (by omega)
                refine lv_iinc (v := v291) (lv' := [(2, .int v291), (4, .int v11), (3, .int v12), (0, .ref a0), (1, .ref (ld 8))]) hx hb dX6_wordAmong_66 hl (k := 2) rfl e_v291 (by decide) rfl (fun ls hl => ?_)
                refine lv_iload hx hb dX6_wordAmong_69 (lv_at hl 1 rfl) ?_
                refine lv_iconst (v := 1) hx hb dX6_wordAmong_71 (by decide) ?_
                refine lv_iadd hx hb dX6_wordAmong_72 ?_
                refine tk_add rfl (show (1 : Int32).toInt = 1 by decide) (by omega) (by omega) (fun v292 h_v292 => ?_)
                refine lv_istore_n (lv' := [(3, .int v292), (2, .int v291), (4, .int v11), (0, .ref a0), (1, .ref (ld 8))]) hx hb dX6_wordAmong_73 rfl hl (by decide) rfl (fun ls hl => ?_)
                obtain ⟨v293, h_v293, e_v293⟩ := tk_inc v11 1 (by decide) (by omega) (by omega)
                refine lv_iinc (v := v293) (lv' := [(4, .int v293), (3, .int v292), (2, .int v291), (0, .ref a0), (1, .ref (ld 8))]) hx hb dX6_wordAmong_74 hl (k := 2) rfl e_v293 (by decide) rfl (fun ls hl => ?_)
                refine lv_goto (tgt := 24) hx hb dX6_wordAmong_77 (by decide) ?_
                exact ih_l275 v293 v292 v291 _ _ (by omega) (by omega) (by omega) (by omega) (by omega) hG hS hf8 _ (lv_sub hl [0, 1, 2, 3, 4] rfl)
              · have hc290 : ¬ (v284.toInt = 0) := fun h9 => c9 ((fi_eq rfl (show (0 : Int32).toInt = 0 by decide)).mpr h9)
                refine lv_iload_n hx hb dX6_wordAmong_64 rfl (lv_at hl 2 rfl) ?_
                exact tk_iret (v := v13) hx hb hr rfl hlocks (show (-1) ≤ v13.toInt ∧ v13.toInt ≤ 3 from ⟨(by omega), (by omega)⟩) hG hS dX6_wordAmong_65
            · have hc283 : ¬ (v11.toInt = 3) := fun h9 => c9 ((fi_eq rfl (show (3 : Int32).toInt = 3 by decide)).mpr h9)
              refine lv_aload_n hx hb dX6_wordAmong_42 rfl (lv_at hl 4 rfl) ?_
              refine lv_iload hx hb dX6_wordAmong_43 (lv_at hl 0 rfl) ?_
              refine tk_Ti (As := [.int v11]) (rest := []) (j := 8) ⟨hx, hb, hml, hown, hts⟩ hK hG hZ hS (k_J0_charAt_5068e_8 l D cy ld t v11 (by omega) (by omega)) trivial ⟨callB_of 1 hts (wl_in mw_533) rfl rfl rfl (htl _ mw_521) (htl _ mw_530) hd_yJ0_charAt_5068e ⟨(Nat.le_of_ble_eq_true rfl), (Nat.le_of_ble_eq_true rfl)⟩, htl _ mw_531, htl _ mw_532⟩ (by decide) (tk_w.pick [] rfl) rfl hl.1 rfl (Nat.le_of_ble_eq_true rfl) dX6_wordAmong_45 ⟨(Nat.le_of_ble_eq_true rfl), (Nat.le_of_ble_eq_true rfl)⟩ (fun v294 H locs hpo hG hS hq9 => ?_)
              have hf8 := hf8.call hq9 tk_w.nil
              obtain ⟨hpo296, hpo297⟩ := hpo
              refine lv_bipush (v := 32) hx hb dX6_wordAmong_48 (by decide) ?_
              refine lv_icmp_ne (tgt := 74) hx hb dX6_wordAmong_50 (by decide) (fun c9 => ?_) (fun c9 => ?_)
              · have hc298 : ¬ (v294.toInt = 32) := fun h9 => c9 ((fi_eq rfl (show (32 : Int32).toInt = 32 by decide)).mpr h9)
                obtain ⟨v299, h_v299, e_v299⟩ := tk_inc v11 1 (by decide) (by omega) (by omega)
                refine lv_iinc (v := v299) (lv' := [(4, .int v299), (3, .int v12), (2, .int v13), (0, .ref a0), (1, .ref (ld 8))]) hx hb dX6_wordAmong_74 hl (k := 0) rfl e_v299 (by decide) rfl (fun ls hl => ?_)
                refine lv_goto (tgt := 24) hx hb dX6_wordAmong_77 (by decide) ?_
                exact ih_l275 v299 v12 v13 _ _ (by omega) (by omega) (by omega) (by omega) (by omega) hG hS hf8 _ (lv_sub hl [0, 1, 2, 3, 4] rfl)
              · have hc298 : v294.toInt = 32 := (fi_eq rfl (show (32 : Int32).toInt = 32 by decide)).mp c9
                refine lv_aload_n hx hb dX6_wordAmong_53 rfl (lv_at hl 3 rfl) ?_
                refine lv_aload_n hx hb dX6_wordAmong_54 rfl (lv_at hl 4 rfl) ?_
                refine lv_iload_n hx hb dX6_wordAmong_55 rfl (lv_at hl 1 rfl) ?_
                refine lv_iload hx hb dX6_wordAmong_56 (lv_at hl 0 rfl) ?_
                refine tk_Vi (As := [.ref (ld 8), .int v12, .int v11]) (rest := []) (ci := 6) ⟨hx, hb, hml, hown, hts⟩ hK hG hZ hS (k_X6_isToken_8 l D cy ld t a0 v12 v11 ht_a0 (by omega) (by omega) (by omega) (by omega)) trivial ⟨callB_of 3 hts (wl_in mw_570) rfl rfl rfl (htl _ mw_36) (htl _ mw_567) hd_yX6_isToken ⟨(Nat.le_of_ble_eq_true rfl), (Nat.le_of_ble_eq_true rfl)⟩, htl _ mw_568, htl _ mw_569⟩ ht_a0 (by decide) tk_no rfl (tk_w.pick [] rfl) rfl hl.1 rfl (Nat.le_of_ble_eq_true rfl) dX6_wordAmong_58 ⟨(Nat.le_of_ble_eq_true rfl), (Nat.le_of_ble_eq_true rfl)⟩ (fun v300 H locs hpo hG hS hq9 => ?_)
                have hf8 := hf8.call hq9 tk_w.nil
                obtain ⟨hpo302, hpo303, hpo304, hpo305⟩ := hpo
                refine lv_if_eq (tgt := 66) hx hb dX6_wordAmong_61 (by decide) (fun c9 => ?_) (fun c9 => ?_)
                · have hc306 : v300.toInt = 0 := (fi_eq rfl (show (0 : Int32).toInt = 0 by decide)).mp c9
                  obtain ⟨v307, h_v307, e_v307⟩ := tk_inc v13 1 (by decide) (by omega) (by omega)
                  refine lv_iinc (v := v307) (lv' := [(2, .int v307), (4, .int v11), (3, .int v12), (0, .ref a0), (1, .ref (ld 8))]) hx hb dX6_wordAmong_66 hl (k := 2) rfl e_v307 (by decide) rfl (fun ls hl => ?_)
                  refine lv_iload hx hb dX6_wordAmong_69 (lv_at hl 1 rfl) ?_
                  refine lv_iconst (v := 1) hx hb dX6_wordAmong_71 (by decide) ?_
                  refine lv_iadd hx hb dX6_wordAmong_72 ?_
                  refine tk_add rfl (show (1 : Int32).toInt = 1 by decide) (by omega) (by omega) (fun v308 h_v308 => ?_)
                  refine lv_istore_n (lv' := [(3, .int v308), (2, .int v307), (4, .int v11), (0, .ref a0), (1, .ref (ld 8))]) hx hb dX6_wordAmong_73 rfl hl (by decide) rfl (fun ls hl => ?_)
                  obtain ⟨v309, h_v309, e_v309⟩ := tk_inc v11 1 (by decide) (by omega) (by omega)
                  refine lv_iinc (v := v309) (lv' := [(4, .int v309), (3, .int v308), (2, .int v307), (0, .ref a0), (1, .ref (ld 8))]) hx hb dX6_wordAmong_74 hl (k := 2) rfl e_v309 (by decide) rfl (fun ls hl => ?_)
                  refine lv_goto (tgt := 24) hx hb dX6_wordAmong_77 (by decide) ?_
                  exact ih_l275 v309 v308 v307 _ _ (by omega) (by omega) (by omega) (by omega) (by omega) hG hS hf8 _ (lv_sub hl [0, 1, 2, 3, 4] rfl)
                · have hc306 : ¬ (v300.toInt = 0) := fun h9 => c9 ((fi_eq rfl (show (0 : Int32).toInt = 0 by decide)).mpr h9)
                  refine lv_iload_n hx hb dX6_wordAmong_64 rfl (lv_at hl 2 rfl) ?_
                  exact tk_iret (v := v13) hx hb hr rfl hlocks (show (-1) ≤ v13.toInt ∧ v13.toInt ≤ 3 from ⟨(by omega), (by omega)⟩) hG hS dX6_wordAmong_65
      have hk_0 : (0 : Int32).toInt = 0 := by decide
      have hk_0 : (0 : Int32).toInt = 0 := by decide
      have hk_0 : (0 : Int32).toInt = 0 := by decide
      exact hl275 5 0 0 0 _ _ (by omega) (by omega) (by omega) (by omega) (by omega) hG hS hf8 _ (lv_sub hl [0, 1, 2, 3, 4] rfl)
    · have hc10 : ¬ (v9.toInt = 1) := fun h9 => c9 ((fi_eq rfl (show (1 : Int32).toInt = 1 by decide)).mpr h9)
      refine lv_iconst (v := (-1)) hx hb dX6_wordAmong_15 (by decide) ?_
      have hk_m1 : ((-1) : Int32).toInt = (-1) := by decide
      exact tk_iret (v := (-1)) hx hb hr rfl hlocks (show (-1) ≤ ((-1) : Int32).toInt ∧ ((-1) : Int32).toInt ≤ 3 from ⟨(by omega), (by omega)⟩) hG hS dX6_wordAmong_16
set_option maxHeartbeats 4000000 in
set_option maxRecDepth 100000 in
theorem k_X6_isWord_8 (l : Launch) (D : va_G) (cy : Nat → ClassId) (ld : Nat → Nat) (t : tk_T) (a0 : Nat) (ht_a0 : t a0 = (7, 0, 0)) : Met l yX6_isWord (wl yX6_isWord cX6_isWord 2 (some .boolean)) ({ frames := 9, cells := 0, slots := 0, locals := 560 }) (tp D cy ld t [] [.ref a0, .ref (ld 8)] (fun H => True)) (ti D cy ld t [] (fun r H => 0 ≤ r.toInt ∧ r.toInt ≤ 1 ∧ 0 ≤ r.toInt ∧ r.toInt ≤ 1) (tk_w t [])) 0 0 (tk_w t []) := by
  refine tk_met (y := yX6_isWord) (cc := cX6_isWord) (maxL := 2) (ret := (some .boolean)) (av := [.ref a0, .ref (ld 8)]) _ _ (by decide) (Nat.le_of_ble_eq_true rfl) ?_
  intro p e s m args below meth c hx hb hr hml hts htl hown hlocks hK H locs hH hG hS hB hZ ls hl
  have hown : s.vm.findClass RX6 = some m.cls := hown
  have hl : lv_has ls 2 [(0, .ref a0), (1, .ref (ld 8))] := hl
  refine lv_aload_n hx hb dX6_isWord_0 rfl (lv_at hl 0 rfl) ?_
  refine lv_aload_n hx hb dX6_isWord_1 rfl (lv_at hl 1 rfl) ?_
  refine tk_Vi (As := [.ref (ld 8)]) (rest := []) (ci := 6) ⟨hx, hb, hml, hown, hts⟩ hK hG hZ hS (k_X6_wordAmong_8 l D cy ld t a0 ht_a0) trivial ⟨callB_of 1 hts (wl_in mw_517) rfl rfl rfl (htl _ mw_36) (htl _ mw_514) hd_yX6_wordAmong ⟨(Nat.le_of_ble_eq_true rfl), (Nat.le_of_ble_eq_true rfl)⟩, htl _ mw_515, htl _ mw_516⟩ ht_a0 (by decide) tk_no rfl (tk_w.pick [] rfl) rfl hl.1 rfl (Nat.le_of_ble_eq_true rfl) dX6_isWord_2 ⟨(Nat.le_of_ble_eq_true rfl), (Nat.le_of_ble_eq_true rfl)⟩ (fun v1 H locs hpo hG hS hq9 => ?_)
  obtain ⟨hpo3, hpo4⟩ := hpo
  refine lv_if_ne (tgt := 12) hx hb dX6_isWord_5 (by decide) (fun c9 => ?_) (fun c9 => ?_)
  · have hc5 : ¬ (v1.toInt = 0) := fun h9 => c9 ((fi_eq rfl (show (0 : Int32).toInt = 0 by decide)).mpr h9)
    refine lv_iconst (v := 0) hx hb dX6_isWord_12 (by decide) ?_
    have hk_0 : (0 : Int32).toInt = 0 := by decide
    exact tk_iret (v := 0) hx hb hr rfl hlocks (show 0 ≤ (0 : Int32).toInt ∧ (0 : Int32).toInt ≤ 1 ∧ 0 ≤ (0 : Int32).toInt ∧ (0 : Int32).toInt ≤ 1 from ⟨(by omega), (by omega), (by omega), (by omega)⟩) hG hS dX6_isWord_13
  · have hc5 : v1.toInt = 0 := (fi_eq rfl (show (0 : Int32).toInt = 0 by decide)).mp c9
    refine lv_iconst (v := 1) hx hb dX6_isWord_8 (by decide) ?_
    refine lv_goto (tgt := 13) hx hb dX6_isWord_9 (by decide) ?_
    have hk_1 : (1 : Int32).toInt = 1 := by decide
    exact tk_iret (v := 1) hx hb hr rfl hlocks (show 0 ≤ (1 : Int32).toInt ∧ (1 : Int32).toInt ≤ 1 ∧ 0 ≤ (1 : Int32).toInt ∧ (1 : Int32).toInt ≤ 1 from ⟨(by omega), (by omega), (by omega), (by omega)⟩) hG hS dX6_isWord_13
