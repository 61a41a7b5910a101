theorem dX9_whoHears_0 : decode cX9_whoHears 0 = .ok (.aload_n 0, 1) := by decide +kernel
theorem dX9_whoHears_1 : decode cX9_whoHears 1 = .ok (.getfield 49, 3) := by decide +kernel
theorem dX9_whoHears_4 : decode cX9_whoHears 4 = .ok (.ifCond .eq 10, 3) := by decide +kernel
theorem dX9_whoHears_14 : decode cX9_whoHears 14 = .ok (.aload_n 0, 1) := by decide +kernel
theorem dX9_whoHears_15 : decode cX9_whoHears 15 = .ok (.getfield 28, 3) := by decide +kernel
theorem dX9_whoHears_18 : decode cX9_whoHears 18 = .ok (.ireturn, 1) := by decide +kernel
theorem dX9_whoHears_7 : decode cX9_whoHears 7 = .ok (.aload_n 0, 1) := by decide +kernel
theorem dX9_whoHears_8 : decode cX9_whoHears 8 = .ok (.getfield 24, 3) := by decide +kernel
theorem dX9_whoHears_11 : decode cX9_whoHears 11 = .ok (.goto 7, 3) := by decide +kernel
set_option maxHeartbeats 4000000 in
set_option maxRecDepth 100000 in
theorem k_X9_whoHears (l : Launch) (D : va_G) (cy : Nat → ClassId) (ld : Nat → Nat) (t : tk_T) (rg0 : Nat) (a0 : Nat) (g0 : Int32) (ht_a0 : t a0 = (10, 0, rg0)) (hp_0 : (-1) ≤ g0.toInt) (hp_1 : g0.toInt ≤ 7) : Met l yX9_whoHears (wl yX9_whoHears cX9_whoHears 1 (some .int)) ({ frames := 3, cells := 0, slots := 0, locals := 140 }) (tp D cy ld t [] [.ref a0] (fun H => tk_f D H a0 9 5 (.int g0))) (ti D cy ld t [] (fun r H => (-1) ≤ r.toInt ∧ r.toInt ≤ 7 ∧ (0 ≤ g0.toInt → 0 ≤ r.toInt)) (tk_w t [])) 0 0 (tk_w t []) := by
  refine tk_met (y := yX9_whoHears) (cc := cX9_whoHears) (maxL := 1) (ret := (some .int)) (av := [.ref a0]) _ _ (by decide) (Nat.le_of_ble_eq_true rfl) ?_
  intro p e s m args below meth c hx hb hr hml hts htl hown hlocks hK H locs hH hG hS hB hZ ls hl
  have hown : s.vm.findClass RX9 = some m.cls := hown
  have hl : lv_has ls 1 [(0, .ref a0)] := hl
  have hg_0 := hB
  refine lv_aload_n hx hb dX9_whoHears_0 rfl (lv_at hl 0 rfl) ?_
  refine tk_get (ci := 9) (C := RX9) (T := TX9) (N := 11) (sp := (0, 0, 1, 0)) hx hb htl inX9 hown hK hG ht_a0 (by decide) tk_no rfl 9 (by decide) (htl _ mw_826) (fun _ h9 => h9) rfl dX9_whoHears_1 (fun v9 hf1 hV9 => ?_)
  obtain ⟨v2, rfl, (ha_v2 : 0 ≤ v2.toInt), (hb_v2 : v2.toInt ≤ 1)⟩ := hV9
  refine lv_if_eq (tgt := 14) hx hb dX9_whoHears_4 (by decide) (fun c9 => ?_) (fun c9 => ?_)
  · have hc3 : v2.toInt = 0 := (fi_eq rfl (show (0 : Int32).toInt = 0 by decide)).mp c9
    refine lv_aload_n hx hb dX9_whoHears_14 rfl (lv_at hl 0 rfl) ?_
    refine tk_get (ci := 9) (C := RX9) (T := TX9) (N := 11) (sp := (0, (-1), 7, 0)) hx hb htl inX9 hown hK hG ht_a0 (by decide) tk_no rfl 6 (by decide) (htl _ mw_87) (fun _ h9 => h9) rfl dX9_whoHears_15 (fun v9 hf4 hV9 => ?_)
    obtain ⟨v5, rfl, (ha_v5 : (-1) ≤ v5.toInt), (hb_v5 : v5.toInt ≤ 7)⟩ := hV9
    have hs_v5 := tk_snd hG ht_a0 tk_no hg_0 hf4
    exact tk_iret (v := v5) hx hb hr rfl hlocks (show (-1) ≤ v5.toInt ∧ v5.toInt ≤ 7 ∧ (0 ≤ g0.toInt → 0 ≤ v5.toInt) from ⟨(by omega), (by omega), (fun _ => by omega)⟩) hG hS dX9_whoHears_18
  · have hc3 : ¬ (v2.toInt = 0) := fun h9 => c9 ((fi_eq rfl (show (0 : Int32).toInt = 0 by decide)).mpr h9)
    refine lv_aload_n hx hb dX9_whoHears_7 rfl (lv_at hl 0 rfl) ?_
    refine tk_getk (ci := 9) (C := RX9) (T := TX9) (N := 11) (sp := (0, (-1), 7, 0)) hx hb htl inX9 hown hK hG ht_a0 (by decide) tk_no rfl 5 (by decide) (htl _ mw_86) (fun _ h9 => h9) rfl hg_0 dX9_whoHears_8 ?_
    refine lv_goto (tgt := 18) hx hb dX9_whoHears_11 (by decide) ?_
    exact tk_iret (v := g0) hx hb hr rfl hlocks (show (-1) ≤ g0.toInt ∧ g0.toInt ≤ 7 ∧ (0 ≤ g0.toInt → 0 ≤ g0.toInt) from ⟨(by omega), (by omega), (fun _ => by omega)⟩) hG hS dX9_whoHears_18
theorem dX9_whoSings_0 : decode cX9_whoSings 0 = .ok (.aload_n 0, 1) := by decide +kernel
theorem dX9_whoSings_1 : decode cX9_whoSings 1 = .ok (.getfield 49, 3) := by decide +kernel
theorem dX9_whoSings_4 : decode cX9_whoSings 4 = .ok (.ifCond .eq 10, 3) := by decide +kernel
theorem dX9_whoSings_14 : decode cX9_whoSings 14 = .ok (.aload_n 0, 1) := by decide +kernel
theorem dX9_whoSings_15 : decode cX9_whoSings 15 = .ok (.getfield 24, 3) := by decide +kernel
theorem dX9_whoSings_18 : decode cX9_whoSings 18 = .ok (.ireturn, 1) := by decide +kernel
theorem dX9_whoSings_7 : decode cX9_whoSings 7 = .ok (.aload_n 0, 1) := by decide +kernel
theorem dX9_whoSings_8 : decode cX9_whoSings 8 = .ok (.getfield 28, 3) := by decide +kernel
theorem dX9_whoSings_11 : decode cX9_whoSings 11 = .ok (.goto 7, 3) := by decide +kernel
set_option maxHeartbeats 4000000 in
set_option maxRecDepth 100000 in
theorem k_X9_whoSings (l : Launch) (D : va_G) (cy : Nat → ClassId) (ld : Nat → Nat) (t : tk_T) (rg0 : Nat) (a0 : Nat) (g0 : Int32) (ht_a0 : t a0 = (10, 0, rg0)) (hp_0 : (-1) ≤ g0.toInt) (hp_1 : g0.toInt ≤ 7) : Met l yX9_whoSings (wl yX9_whoSings cX9_whoSings 1 (some .int)) ({ frames := 3, cells := 0, slots := 0, locals := 140 }) (tp D cy ld t [] [.ref a0] (fun H => tk_f D H a0 9 5 (.int g0))) (ti D cy ld t [] (fun r H => (-1) ≤ r.toInt ∧ r.toInt ≤ 7 ∧ (0 ≤ g0.toInt → 0 ≤ r.toInt)) (tk_w t [])) 0 0 (tk_w t []) := by
  refine tk_met (y := yX9_whoSings) (cc := cX9_whoSings) (maxL := 1) (ret := (some .int)) (av := [.ref a0]) _ _ (by decide) (Nat.le_of_ble_eq_true rfl) ?_
  intro p e s m args below meth c hx hb hr hml hts htl hown hlocks hK H locs hH hG hS hB hZ ls hl
  have hown : s.vm.findClass RX9 = some m.cls := hown
  have hl : lv_has ls 1 [(0, .ref a0)] := hl
  have hg_0 := hB
  refine lv_aload_n hx hb dX9_whoSings_0 rfl (lv_at hl 0 rfl) ?_
  refine tk_get (ci := 9) (C := RX9) (T := TX9) (N := 11) (sp := (0, 0, 1, 0)) hx hb htl inX9 hown hK hG ht_a0 (by decide) tk_no rfl 9 (by decide) (htl _ mw_826) (fun _ h9 => h9) rfl dX9_whoSings_1 (fun v9 hf1 hV9 => ?_)
  obtain ⟨v2, rfl, (ha_v2 : 0 ≤ v2.toInt), (hb_v2 : v2.toInt ≤ 1)⟩ := hV9
  refine lv_if_eq (tgt := 14) hx hb dX9_whoSings_4 (by decide) (fun c9 => ?_) (fun c9 => ?_)
  · have hc3 : v2.toInt = 0 := (fi_eq rfl (show (0 : Int32).toInt = 0 by decide)).mp c9
    refine lv_aload_n hx hb dX9_whoSings_14 rfl (lv_at hl 0 rfl) ?_
    refine tk_getk (ci := 9) (C := RX9) (T := TX9) (N := 11) (sp := (0, (-1), 7, 0)) hx hb htl inX9 hown hK hG ht_a0 (by decide) tk_no rfl 5 (by decide) (htl _ mw_86) (fun _ h9 => h9) rfl hg_0 dX9_whoSings_15 ?_
    exact tk_iret (v := g0) hx hb hr rfl hlocks (show (-1) ≤ g0.toInt ∧ g0.toInt ≤ 7 ∧ (0 ≤ g0.toInt → 0 ≤ g0.toInt) from ⟨(by omega), (by omega), (fun _ => by omega)⟩) hG hS dX9_whoSings_18
  · have hc3 : ¬ (v2.toInt = 0) := fun h9 => c9 ((fi_eq rfl (show (0 : Int32).toInt = 0 by decide)).mpr h9)
    refine lv_aload_n hx hb dX9_whoSings_7 rfl (lv_at hl 0 rfl) ?_
    refine tk_get (ci := 9) (C := RX9) (T := TX9) (N := 11) (sp := (0, (-1), 7, 0)) hx hb htl inX9 hown hK hG ht_a0 (by decide) tk_no rfl 6 (by decide) (htl _ mw_87) (fun _ h9 => h9) rfl dX9_whoSings_8 (fun v9 hf4 hV9 => ?_)
    obtain ⟨v5, rfl, (ha_v5 : (-1) ≤ v5.toInt), (hb_v5 : v5.toInt ≤ 7)⟩ := hV9
    have hs_v5 := tk_snd hG ht_a0 tk_no hg_0 hf4
    refine lv_goto (tgt := 18) hx hb dX9_whoSings_11 (by decide) ?_
    exact tk_iret (v := v5) hx hb hr rfl hlocks (show (-1) ≤ v5.toInt ∧ v5.toInt ≤ 7 ∧ (0 ≤ g0.toInt → 0 ≤ v5.toInt) from ⟨(by omega), (by omega), (fun _ => by omega)⟩) hG hS dX9_whoSings_18
theorem dX8_setWords_0 : decode cX8_setWords 0 = .ok (.aload_n 1, 1) := by decide +kernel
theorem dX8_setWords_1 : decode cX8_setWords 1 = .ok (.invokevirtual 89, 3) := by decide +kernel
theorem dX8_setWords_4 : decode cX8_setWords 4 = .ok (.istore_n 3, 1) := by decide +kernel
theorem dX8_setWords_5 : decode cX8_setWords 5 = .ok (.aload_n 0, 1) := by decide +kernel
theorem dX8_setWords_6 : decode cX8_setWords 6 = .ok (.iload_n 2, 1) := by decide +kernel
theorem dX8_setWords_7 : decode cX8_setWords 7 = .ok (.aload_n 1, 1) := by decide +kernel
theorem dX8_setWords_8 : decode cX8_setWords 8 = .ok (.invokevirtual 86, 3) := by decide +kernel
theorem dX8_setWords_11 : decode cX8_setWords 11 = .ok (.aload_n 1, 1) := by decide +kernel
theorem dX8_setWords_12 : decode cX8_setWords 12 = .ok (.getfield 135, 3) := by decide +kernel
theorem dX8_setWords_15 : decode cX8_setWords 15 = .ok (.aload_n 0, 1) := by decide +kernel
theorem dX8_setWords_16 : decode cX8_setWords 16 = .ok (.getfield 18, 3) := by decide +kernel
theorem dX8_setWords_19 : decode cX8_setWords 19 = .ok (.getfield 103, 3) := by decide +kernel
theorem dX8_setWords_22 : decode cX8_setWords 22 = .ok (.iload_n 2, 1) := by decide +kernel
theorem dX8_setWords_23 : decode cX8_setWords 23 = .ok (.iaload, 1) := by decide +kernel
theorem dX8_setWords_24 : decode cX8_setWords 24 = .ok (.aload_n 1, 1) := by decide +kernel
theorem dX8_setWords_25 : decode cX8_setWords 25 = .ok (.getfield 106, 3) := by decide +kernel
theorem dX8_setWords_36 : decode cX8_setWords 36 = .ok (.invokevirtual 74, 3) := by decide +kernel
theorem dX8_setWords_39 : decode cX8_setWords 39 = .ok (.aload_n 0, 1) := by decide +kernel
theorem dX8_setWords_40 : decode cX8_setWords 40 = .ok (.getfield 12, 3) := by decide +kernel
theorem dX8_setWords_43 : decode cX8_setWords 43 = .ok (.getfield 48, 3) := by decide +kernel
theorem dX8_setWords_46 : decode cX8_setWords 46 = .ok (.iconst 5, 1) := by decide +kernel
theorem dX8_setWords_47 : decode cX8_setWords 47 = .ok (.aload_n 1, 1) := by decide +kernel
theorem dX8_setWords_48 : decode cX8_setWords 48 = .ok (.getfield 55, 3) := by decide +kernel
theorem dX8_setWords_51 : decode cX8_setWords 51 = .ok (.iload_n 3, 1) := by decide +kernel
theorem dX8_setWords_52 : decode cX8_setWords 52 = .ok (.iaload, 1) := by decide +kernel
theorem dX8_setWords_53 : decode cX8_setWords 53 = .ok (.iastore, 1) := by decide +kernel
theorem dX8_setWords_54 : decode cX8_setWords 54 = .ok (.aload_n 0, 1) := by decide +kernel
theorem dX8_setWords_55 : decode cX8_setWords 55 = .ok (.getfield 12, 3) := by decide +kernel
theorem dX8_setWords_58 : decode cX8_setWords 58 = .ok (.getfield 48, 3) := by decide +kernel
theorem dX8_setWords_61 : decode cX8_setWords 61 = .ok (.bipush 6, 2) := by decide +kernel
theorem dX8_setWords_63 : decode cX8_setWords 63 = .ok (.aload_n 0, 1) := by decide +kernel
theorem dX8_setWords_64 : decode cX8_setWords 64 = .ok (.getfield 18, 3) := by decide +kernel
theorem dX8_setWords_67 : decode cX8_setWords 67 = .ok (.getfield 52, 3) := by decide +kernel
theorem dX8_setWords_70 : decode cX8_setWords 70 = .ok (.iload_n 3, 1) := by decide +kernel
theorem dX8_setWords_71 : decode cX8_setWords 71 = .ok (.iaload, 1) := by decide +kernel
theorem dX8_setWords_72 : decode cX8_setWords 72 = .ok (.iastore, 1) := by decide +kernel
theorem dX8_setWords_73 : decode cX8_setWords 73 = .ok (.aload_n 0, 1) := by decide +kernel
theorem dX8_setWords_74 : decode cX8_setWords 74 = .ok (.getfield 12, 3) := by decide +kernel
theorem dX8_setWords_77 : decode cX8_setWords 77 = .ok (.getfield 48, 3) := by decide +kernel
theorem dX8_setWords_80 : decode cX8_setWords 80 = .ok (.bipush 7, 2) := by decide +kernel
theorem dX8_setWords_82 : decode cX8_setWords 82 = .ok (.aload_n 1, 1) := by decide +kernel
theorem dX8_setWords_83 : decode cX8_setWords 83 = .ok (.getfield 60, 3) := by decide +kernel
theorem dX8_setWords_86 : decode cX8_setWords 86 = .ok (.iastore, 1) := by decide +kernel
theorem dX8_setWords_87 : decode cX8_setWords 87 = .ok (.return_, 1) := by decide +kernel
theorem dX8_setWords_28 : decode cX8_setWords 28 = .ok (.if_icmp .ne 7, 3) := by decide +kernel
theorem dX8_setWords_35 : decode cX8_setWords 35 = .ok (.iconst 0, 1) := by decide +kernel
theorem dX8_setWords_31 : decode cX8_setWords 31 = .ok (.iconst 1, 1) := by decide +kernel
theorem dX8_setWords_32 : decode cX8_setWords 32 = .ok (.goto 4, 3) := by decide +kernel
set_option maxHeartbeats 4000000 in
set_option maxRecDepth 100000 in
theorem k_X8_setWords (l : Launch) (D : va_G) (cy : Nat → ClassId) (ld : Nat → Nat) (t : tk_T) (rg1 : Nat) (a0 : Nat) (a1 : Nat) (p2 : Int32) (g0 : Int32) (ht_a0 : t a0 = (9, 0, 0)) (ht_a1 : t a1 = (10, 0, rg1)) (hp_0 : 0 ≤ p2.toInt) (hp_1 : p2.toInt ≤ 9) (hp_2 : 0 ≤ g0.toInt) (hp_3 : g0.toInt ≤ 7) : Met l yX8_setWords (wl yX8_setWords cX8_setWords 4 none) ({ frames := 4, cells := 0, slots := 0, locals := 210 }) (tp D cy ld t [] [.ref a0, .ref a1, .int p2] (fun H => tk_f D H a1 9 5 (.int g0))) (tv D cy ld t [] (fun H => True) (tk_w t [(20, 0, 0)])) 0 0 (tk_w t [(20, 0, 0)]) := by
  refine tk_met (y := yX8_setWords) (cc := cX8_setWords) (maxL := 4) (ret := none) (av := [.ref a0, .ref a1, .int p2]) _ _ (by decide) (Nat.le_of_ble_eq_true rfl) ?_
  intro p e s m args below meth c hx hb hr hml hts htl hown hlocks hK H locs hH hG hS hB hZ ls hl
  have hown : s.vm.findClass RX8 = some m.cls := hown
  have hl : lv_has ls 4 [(0, .ref a0), (1, .ref a1), (2, .int p2)] := hl
  have hg_0 := hB
  have hr_p2 := tk_rng p2
  refine lv_aload_n hx hb dX8_setWords_0 rfl (lv_at hl 1 rfl) ?_
  refine tk_Vi (As := []) (rest := []) (ci := 9) ⟨hx, hb, hml, hown, hts⟩ hK hG hZ hS (k_X9_whoHears l D cy ld t rg1 a1 g0 ht_a1 (by omega) (by omega)) hg_0 ⟨callB_of 0 hts (wl_in mw_924) rfl rfl rfl (htl _ mw_76) (htl _ mw_921) hd_yX9_whoHears ⟨(Nat.le_of_ble_eq_true rfl), (Nat.le_of_ble_eq_true rfl)⟩, htl _ mw_922, htl _ mw_923⟩ ht_a1 (by decide) tk_no rfl (tk_w.pick [] rfl) rfl hl.1 rfl (Nat.le_of_ble_eq_true rfl) dX8_setWords_1 ⟨(Nat.le_of_ble_eq_true rfl), (Nat.le_of_ble_eq_true rfl)⟩ (fun v1 H locs hpo hG hS hq9 => ?_)
  have hg_0 := hg_0.call hq9 tk_w.nil
  obtain ⟨hpo3, hpo4, hpo5⟩ := hpo
  refine lv_istore_n (lv' := [(3, .int v1), (0, .ref a0), (1, .ref a1), (2, .int p2)]) hx hb dX8_setWords_4 rfl hl (by decide) rfl (fun ls hl => ?_)
  refine lv_aload_n hx hb dX8_setWords_5 rfl (lv_at hl 1 rfl) ?_
  refine lv_iload_n hx hb dX8_setWords_6 rfl (lv_at hl 3 rfl) ?_
  refine lv_aload_n hx hb dX8_setWords_7 rfl (lv_at hl 2 rfl) ?_
  refine tk_Vi (As := []) (rest := [.int p2, .ref a0]) (ci := 9) ⟨hx, hb, hml, hown, hts⟩ hK hG hZ hS (k_X9_whoSings l D cy ld t rg1 a1 g0 ht_a1 (by omega) (by omega)) hg_0 ⟨callB_of 0 hts (wl_in mw_844) rfl rfl rfl (htl _ mw_76) (htl _ mw_925) hd_yX9_whoSings ⟨(Nat.le_of_ble_eq_true rfl), (Nat.le_of_ble_eq_true rfl)⟩, htl _ mw_842, htl _ mw_843⟩ ht_a1 (by decide) tk_no rfl (tk_w.pick [] rfl) rfl hl.1 rfl (Nat.le_of_ble_eq_true rfl) dX8_setWords_8 ⟨(Nat.le_of_ble_eq_true rfl), (Nat.le_of_ble_eq_true rfl)⟩ (fun v6 H locs hpo hG hS hq9 => ?_)
  have hg_0 := hg_0.call hq9 tk_w.nil
  obtain ⟨hpo8, hpo9, hpo10⟩ := hpo
  refine lv_aload_n hx hb dX8_setWords_11 rfl (lv_at hl 2 rfl) ?_
  refine tk_get (ci := 9) (C := RX9) (T := TX9) (N := 11) (sp := (0, (-2147483648), 2147483647, 0)) hx hb htl inX9 hown hK hG ht_a1 (by decide) tk_no rfl 8 (by decide) (htl _ mw_914) (fun _ h9 => h9) rfl dX8_setWords_12 (fun v9 hf11 hV9 => ?_)
  obtain ⟨v12, rfl, (ha_v12 : (-2147483648) ≤ v12.toInt), (hb_v12 : v12.toInt ≤ 2147483647)⟩ := hV9
  refine lv_aload_n hx hb dX8_setWords_15 rfl (lv_at hl 1 rfl) ?_
  refine tk_get (ci := 8) (C := RX8) (T := TX8) (N := 3) (sp := (8, 20, 3, 0)) hx hb htl inX8 hown hK hG ht_a0 (by decide) tk_no rfl 1 (by decide) (htl _ mw_97) (fun _ h9 => h9) rfl dX8_setWords_16 (fun v9 hf13 hV9 => ?_)
  obtain ⟨rfl, ht_ld20⟩ := hV9
  have ht_ld20 : t (ld 20) = (3, 0, 0) := ht_ld20
  refine fx_top (v := .ref (ld 20)) rfl ?_
  refine tk_get (ci := 2) (C := RX2) (T := TX2) (N := 20) (sp := (11, 90, 34, 10)) hx hb htl inX2 hown hK hG ht_ld20 (by decide) tk_no rfl 6 (by decide) (htl _ mw_915) (fun _ h9 => h9) rfl dX8_setWords_19 (fun v9 hf14 hV9 => ?_)
  obtain ⟨rfl, ht_ld90⟩ := hV9
  have ht_ld90 : t (ld 90) = (34, 10, 0) := ht_ld90
  refine fx_top (v := .ref (ld 90)) rfl ?_
  refine lv_iload_n hx hb dX8_setWords_22 rfl (lv_at hl 3 rfl) ?_
  refine tk_iald hx hb hK hG ht_ld90 (by decide) (fun _ h => h) tk_no rfl (by omega) (by omega) dX8_setWords_23 (fun v15 _ _ => ?_)
  have hr_v15 := tk_rng v15
  refine lv_aload_n hx hb dX8_setWords_24 rfl (lv_at hl 2 rfl) ?_
  refine tk_get (ci := 9) (C := RX9) (T := TX9) (N := 11) (sp := (0, (-2147483648), 2147483647, 0)) hx hb htl inX9 hown hK hG ht_a1 (by decide) tk_no rfl 10 (by decide) (htl _ mw_916) (fun _ h9 => h9) rfl dX8_setWords_25 (fun v9 hf16 hV9 => ?_)
  obtain ⟨v17, rfl, (ha_v17 : (-2147483648) ≤ v17.toInt), (hb_v17 : v17.toInt ≤ 2147483647)⟩ := hV9
  have hj21 : ∀ (v20 : Int32), 0 ≤ v20.toInt → v20.toInt ≤ 1 → ∀ ls : Array Slot, lv_has ls 4 [(3, .int v1), (0, .ref a0), (1, .ref a1)] → W p l e ({ frames := 4, cells := 0, slots := 0, locals := 210 }) s m args below meth c H locs 0 0 (MQ below (tv D cy ld t [] (fun H => True) (tk_w t [(20, 0, 0)])) args s 0 0 (tk_w t [(20, 0, 0)])) (F0 m 36 ls [.int v20, .int v12, .int v6, .int p2, .ref a0]) := by
    intro v20 hq0_j21 hq1_j21 ls hl
    refine tk_Vv (As := [.int p2, .int v6, .int v12, .int v20]) (rest := []) (ci := 8) ⟨hx, hb, hml, hown, hts⟩ hK hG hZ hS (k_X8_setVerse l D cy ld t a0 p2 v6 v12 v20 ht_a0 (by omega) (by omega) (by omega) (by omega)) trivial ⟨callB_of 4 hts (wl_in mw_929) rfl rfl rfl (htl _ mw_21) (htl _ mw_926) hd_yX8_setVerse ⟨(Nat.le_of_ble_eq_true rfl), (Nat.le_of_ble_eq_true rfl)⟩, htl _ mw_927, htl _ mw_928⟩ ht_a0 (by decide) tk_no rfl (tk_w.pick [0] rfl) rfl hl.1 rfl (Nat.le_of_ble_eq_true rfl) dX8_setWords_36 ⟨(Nat.le_of_ble_eq_true rfl), (Nat.le_of_ble_eq_true rfl)⟩ (fun H locs hpo hG hS hq9 => ?_)
    have hg_0 := hg_0.call hq9 (tk_w.no ht_a1 (by intro q hq h1 h2 h3; simp only [List.mem_cons, List.not_mem_nil, or_false] at hq; rcases hq with rfl <;> (dsimp only at h1 h2 h3; omega)))
    refine lv_aload_n hx hb dX8_setWords_39 rfl (lv_at hl 1 rfl) ?_
    refine tk_get (ci := 8) (C := RX8) (T := TX8) (N := 3) (sp := (6, 12, 0, 0)) hx hb htl inX8 hown hK hG ht_a0 (by decide) tk_no rfl 0 (by decide) (htl _ mw_96) (fun _ h9 => h9) rfl dX8_setWords_40 (fun v9 hf23 hV9 => ?_)
    obtain ⟨b24, rfl, ht_b24⟩ := hV9
    have ht_b24 : t b24 = (12, 0, 0) := ht_b24
    refine tk_get (ci := 11) (C := RX11) (T := TX11) (N := 3) (sp := (6, 20, 15, 0)) hx hb htl inX11 hown hK hG ht_b24 (by decide) tk_no rfl 0 (by decide) (htl _ mw_917) (fun _ h9 => h9) rfl dX8_setWords_43 (fun v9 hf25 hV9 => ?_)
    obtain ⟨b26, rfl, ht_b26⟩ := hV9
    have ht_b26 : t b26 = (20, 15, 0) := ht_b26
    refine lv_iconst (v := 5) hx hb dX8_setWords_46 (by decide) ?_
    refine lv_aload_n hx hb dX8_setWords_47 rfl (lv_at hl 2 rfl) ?_
    refine tk_get (ci := 9) (C := RX9) (T := TX9) (N := 11) (sp := (1, 20, 8, 0)) hx hb htl inX9 hown hK hG ht_a1 (by decide) tk_no rfl 0 (by decide) (htl _ mw_918) (fun _ h9 => h9) rfl dX8_setWords_48 (fun v9 hf27 hV9 => ?_)
    obtain ⟨b28, rfl, ht_b28⟩ := hV9
    have ht_b28 : t b28 = (20, 8, rg1) := ht_b28
    refine lv_iload_n hx hb dX8_setWords_51 rfl (lv_at hl 0 rfl) ?_
    refine tk_iald hx hb hK hG ht_b28 (by decide) (fun _ h => h) tk_no rfl (by omega) (by omega) dX8_setWords_52 (fun v29 _ _ => ?_)
    have hr_v29 := tk_rng v29
    refine tk_iast hx hb hK hG hS ht_b26 (by decide) (fun _ => Iff.rfl) tk_no (I := 5) (by decide) (by decide) (by decide) trivial (tk_w.of ht_b26 (by decide) (List.mem_of_getElem? (i := 0) rfl) (Nat.le_refl _) (Nat.le_refl _)) dX8_setWords_53 (fun H locs hG hS hq9 => ?_)
    have hg_0 := hg_0.kept (hq9 _ (tk_ne ht_a1 ht_b26 (Or.inl (by decide))))
    refine lv_aload_n hx hb dX8_setWords_54 rfl (lv_at hl 1 rfl) ?_
    refine tk_get (ci := 8) (C := RX8) (T := TX8) (N := 3) (sp := (6, 12, 0, 0)) hx hb htl inX8 hown hK hG ht_a0 (by decide) tk_no rfl 0 (by decide) (htl _ mw_96) (fun _ h9 => h9) rfl dX8_setWords_55 (fun v9 hf31 hV9 => ?_)
    obtain ⟨b32, rfl, ht_b32⟩ := hV9
    have ht_b32 : t b32 = (12, 0, 0) := ht_b32
    refine tk_get (ci := 11) (C := RX11) (T := TX11) (N := 3) (sp := (6, 20, 15, 0)) hx hb htl inX11 hown hK hG ht_b32 (by decide) tk_no rfl 0 (by decide) (htl _ mw_917) (fun _ h9 => h9) rfl dX8_setWords_58 (fun v9 hf33 hV9 => ?_)
    obtain ⟨b34, rfl, ht_b34⟩ := hV9
    have ht_b34 : t b34 = (20, 15, 0) := ht_b34
    refine lv_bipush (v := 6) hx hb dX8_setWords_61 (by decide) ?_
    refine lv_aload_n hx hb dX8_setWords_63 rfl (lv_at hl 1 rfl) ?_
    refine tk_get (ci := 8) (C := RX8) (T := TX8) (N := 3) (sp := (8, 20, 3, 0)) hx hb htl inX8 hown hK hG ht_a0 (by decide) tk_no rfl 1 (by decide) (htl _ mw_97) (fun _ h9 => h9) rfl dX8_setWords_64 (fun v9 hf35 hV9 => ?_)
    obtain ⟨rfl, ht_ld20⟩ := hV9
    have ht_ld20 : t (ld 20) = (3, 0, 0) := ht_ld20
    refine fx_top (v := .ref (ld 20)) rfl ?_
    refine tk_get (ci := 2) (C := RX2) (T := TX2) (N := 20) (sp := (1, 20, 8, 0)) hx hb htl inX2 hown hK hG ht_ld20 (by decide) tk_no rfl 1 (by decide) (htl _ mw_919) (fun _ h9 => h9) rfl dX8_setWords_67 (fun v9 hf36 hV9 => ?_)
    obtain ⟨b37, rfl, ht_b37⟩ := hV9
    have ht_b37 : t b37 = (20, 8, 0) := ht_b37
    refine lv_iload_n hx hb dX8_setWords_70 rfl (lv_at hl 0 rfl) ?_
    refine tk_iald hx hb hK hG ht_b37 (by decide) (fun _ h => h) tk_no rfl (by omega) (by omega) dX8_setWords_71 (fun v38 _ _ => ?_)
    have hr_v38 := tk_rng v38
    refine tk_iast hx hb hK hG hS ht_b34 (by decide) (fun _ => Iff.rfl) tk_no (I := 6) (by decide) (by decide) (by decide) trivial (tk_w.of ht_b34 (by decide) (List.mem_of_getElem? (i := 0) rfl) (Nat.le_refl _) (Nat.le_refl _)) dX8_setWords_72 (fun H locs hG hS hq9 => ?_)
    have hg_0 := hg_0.kept (hq9 _ (tk_ne ht_a1 ht_b34 (Or.inl (by decide))))
    refine lv_aload_n hx hb dX8_setWords_73 rfl (lv_at hl 1 rfl) ?_
    refine tk_get (ci := 8) (C := RX8) (T := TX8) (N := 3) (sp := (6, 12, 0, 0)) hx hb htl inX8 hown hK hG ht_a0 (by decide) tk_no rfl 0 (by decide) (htl _ mw_96) (fun _ h9 => h9) rfl dX8_setWords_74 (fun v9 hf40 hV9 => ?_)
    obtain ⟨b41, rfl, ht_b41⟩ := hV9
    have ht_b41 : t b41 = (12, 0, 0) := ht_b41
    refine tk_get (ci := 11) (C := RX11) (T := TX11) (N := 3) (sp := (6, 20, 15, 0)) hx hb htl inX11 hown hK hG ht_b41 (by decide) tk_no rfl 0 (by decide) (htl _ mw_917) (fun _ h9 => h9) rfl dX8_setWords_77 (fun v9 hf42 hV9 => ?_)
    obtain ⟨b43, rfl, ht_b43⟩ := hV9
    have ht_b43 : t b43 = (20, 15, 0) := ht_b43
    refine lv_bipush (v := 7) hx hb dX8_setWords_80 (by decide) ?_
    refine lv_aload_n hx hb dX8_setWords_82 rfl (lv_at hl 2 rfl) ?_
    refine tk_get (ci := 9) (C := RX9) (T := TX9) (N := 11) (sp := (0, (-2147483648), 2147483647, 0)) hx hb htl inX9 hown hK hG ht_a1 (by decide) tk_no rfl 4 (by decide) (htl _ mw_920) (fun _ h9 => h9) rfl dX8_setWords_83 (fun v9 hf44 hV9 => ?_)
    obtain ⟨v45, rfl, (ha_v45 : (-2147483648) ≤ v45.toInt), (hb_v45 : v45.toInt ≤ 2147483647)⟩ := hV9
    refine tk_iast hx hb hK hG hS ht_b43 (by decide) (fun _ => Iff.rfl) tk_no (I := 7) (by decide) (by decide) (by decide) trivial (tk_w.of ht_b43 (by decide) (List.mem_of_getElem? (i := 0) rfl) (Nat.le_refl _) (Nat.le_refl _)) dX8_setWords_86 (fun H locs hG hS hq9 => ?_)
    have hg_0 := hg_0.kept (hq9 _ (tk_ne ht_a1 ht_b43 (Or.inl (by decide))))
    exact tk_vret hx hb hr hlocks trivial hG hS dX8_setWords_87
  refine lv_icmp_ne (tgt := 35) hx hb dX8_setWords_28 (by decide) (fun c9 => ?_) (fun c9 => ?_)
  · have hc18 : ¬ (v15.toInt = v17.toInt) := fun h9 => c9 ((fi_eq rfl rfl).mpr h9)
    refine lv_iconst (v := 0) hx hb dX8_setWords_35 (by decide) ?_
    have hk_0 : (0 : Int32).toInt = 0 := by decide
    exact hj21 0 (by omega) (by omega) _ (lv_sub hl [0, 1, 2] rfl)
  · have hc18 : v15.toInt = v17.toInt := (fi_eq rfl rfl).mp c9
    refine lv_iconst (v := 1) hx hb dX8_setWords_31 (by decide) ?_
    refine lv_goto (tgt := 36) hx hb dX8_setWords_32 (by decide) ?_
    have hk_1 : (1 : Int32).toInt = 1 := by decide
    exact hj21 1 (by omega) (by omega) _ (lv_sub hl [0, 1, 2] rfl)
theorem dX8_isBarred_0 : decode cX8_isBarred 0 = .ok (.aload_n 0, 1) := by decide +kernel
theorem dX8_isBarred_1 : decode cX8_isBarred 1 = .ok (.getfield 18, 3) := by decide +kernel
theorem dX8_isBarred_4 : decode cX8_isBarred 4 = .ok (.invokevirtual 33, 3) := by decide +kernel
theorem dX8_isBarred_7 : decode cX8_isBarred 7 = .ok (.astore_n 3, 1) := by decide +kernel
theorem dX8_isBarred_8 : decode cX8_isBarred 8 = .ok (.aload_n 3, 1) := by decide +kernel
theorem dX8_isBarred_9 : decode cX8_isBarred 9 = .ok (.ifnull 11, 3) := by decide +kernel
theorem dX8_isBarred_20 : decode cX8_isBarred 20 = .ok (.iconst 0, 1) := by decide +kernel
theorem dX8_isBarred_21 : decode cX8_isBarred 21 = .ok (.ireturn, 1) := by decide +kernel
theorem dX8_isBarred_12 : decode cX8_isBarred 12 = .ok (.aload_n 3, 1) := by decide +kernel
theorem dX8_isBarred_13 : decode cX8_isBarred 13 = .ok (.iconst 3, 1) := by decide +kernel
theorem dX8_isBarred_14 : decode cX8_isBarred 14 = .ok (.invokevirtual 41, 3) := by decide +kernel
theorem dX8_isBarred_17 : decode cX8_isBarred 17 = .ok (.ifCond .ne 5, 3) := by decide +kernel
theorem dX8_isBarred_22 : decode cX8_isBarred 22 = .ok (.aload_n 0, 1) := by decide +kernel
theorem dX8_isBarred_23 : decode cX8_isBarred 23 = .ok (.aload_n 1, 1) := by decide +kernel
theorem dX8_isBarred_24 : decode cX8_isBarred 24 = .ok (.iload_n 2, 1) := by decide +kernel
theorem dX8_isBarred_25 : decode cX8_isBarred 25 = .ok (.invokevirtual 22, 3) := by decide +kernel
theorem dX8_isBarred_28 : decode cX8_isBarred 28 = .ok (.aload_n 0, 1) := by decide +kernel
theorem dX8_isBarred_29 : decode cX8_isBarred 29 = .ok (.iconst 3, 1) := by decide +kernel
theorem dX8_isBarred_30 : decode cX8_isBarred 30 = .ok (.invokevirtual 45, 3) := by decide +kernel
theorem dX8_isBarred_33 : decode cX8_isBarred 33 = .ok (.ireturn, 1) := by decide +kernel
set_option maxHeartbeats 4000000 in
set_option maxRecDepth 100000 in
theorem k_X8_isBarred (l : Launch) (D : va_G) (cy : Nat → ClassId) (ld : Nat → Nat) (t : tk_T) (rg1 : Nat) (a0 : Nat) (a1 : Nat) (p2 : Int32) (g0 : Int32) (ht_a0 : t a0 = (9, 0, 0)) (ht_a1 : t a1 = (10, 0, rg1)) (hp_0 : 0 ≤ p2.toInt) (hp_1 : p2.toInt ≤ 9) (hp_2 : 0 ≤ g0.toInt) (hp_3 : g0.toInt ≤ 7) : Met l yX8_isBarred (wl yX8_isBarred cX8_isBarred 4 (some .boolean)) ({ frames := 5, cells := 0, slots := 0, locals := 280 }) (tp D cy ld t [] [.ref a0, .ref a1, .int p2] (fun H => tk_f D H a1 9 5 (.int g0))) (ti D cy ld t [] (fun r H => 0 ≤ r.toInt ∧ r.toInt ≤ 1 ∧ 0 ≤ r.toInt ∧ r.toInt ≤ 1) (tk_w t [(20, 0, 0), (12, 0, 0), (9, 0, 0)])) 0 0 (tk_w t [(20, 0, 0), (12, 0, 0), (9, 0, 0)]) := by
  refine tk_met (y := yX8_isBarred) (cc := cX8_isBarred) (maxL := 4) (ret := (some .boolean)) (av := [.ref a0, .ref a1, .int p2]) _ _ (by decide) (Nat.le_of_ble_eq_true rfl) ?_
  intro p e s m args below meth c hx hb hr hml hts htl hown hlocks hK H locs hH hG hS hB hZ ls hl
  have hown : s.vm.findClass RX8 = some m.cls := hown
  have hl : lv_has ls 4 [(0, .ref a0), (1, .ref a1), (2, .int p2)] := hl
  have hg_0 := hB
  have hr_p2 := tk_rng p2
  refine lv_aload_n hx hb dX8_isBarred_0 rfl (lv_at hl 0 rfl) ?_
  refine tk_get (ci := 8) (C := RX8) (T := TX8) (N := 3) (sp := (8, 20, 3, 0)) hx hb htl inX8 hown hK hG ht_a0 (by decide) tk_no rfl 1 (by decide) (htl _ mw_97) (fun _ h9 => h9) rfl dX8_isBarred_1 (fun v9 hf1 hV9 => ?_)
  obtain ⟨rfl, ht_ld20⟩ := hV9
  have ht_ld20 : t (ld 20) = (3, 0, 0) := ht_ld20
  refine fx_top (v := .ref (ld 20)) rfl ?_
  refine tk_Vq (As := []) (rest := []) (ci := 2) ⟨hx, hb, hml, hown, hts⟩ hK hG hZ hS (k_X2_lawInForce l D cy ld t (ld 20) ht_ld20) trivial ⟨callB_of 0 hts (wl_in mw_905) rfl rfl rfl (htl _ mw_14) (htl _ mw_902) hd_yX2_lawInForce ⟨(Nat.le_of_ble_eq_true rfl), (Nat.le_of_ble_eq_true rfl)⟩, htl _ mw_903, htl _ mw_904⟩ ht_ld20 (by decide) tk_no rfl (tk_w.pick [] rfl) rfl hl.1 rfl (Nat.le_of_ble_eq_true rfl) dX8_isBarred_4 ⟨(Nat.le_of_ble_eq_true rfl), (Nat.le_of_ble_eq_true rfl)⟩ (fun o2 H locs hpo hG hS hq9 => ?_)
  have hg_0 := hg_0.call hq9 tk_w.nil
  rcases o2 with _ | b4
  · refine fx_top (v := .null) rfl ?_
    refine lv_astore_nN (lv' := [(3, .null), (0, .ref a0), (1, .ref a1), (2, .int p2)]) hx hb dX8_isBarred_7 rfl hl (by decide) rfl (fun ls hl => ?_)
    refine lv_aload_nN hx hb dX8_isBarred_8 rfl (lv_at hl 0 rfl) ?_
    refine lv_ifnullN (tgt := 20) hx hb dX8_isBarred_9 (by decide) ?_
    refine lv_iconst (v := 0) hx hb dX8_isBarred_20 (by decide) ?_
    have hk_0 : (0 : Int32).toInt = 0 := by decide
    exact tk_iret (v := 0) hx hb hr rfl hlocks (show 0 ≤ (0 : Int32).toInt ∧ (0 : Int32).toInt ≤ 1 ∧ 0 ≤ (0 : Int32).toInt ∧ (0 : Int32).toInt ≤ 1 from ⟨(by omega), (by omega), (by omega), (by omega)⟩) hG hS dX8_isBarred_21
  · obtain ⟨n_b4, r_b4, ht_b4⟩ := hpo b4 rfl
    have hb_b4 := tk_X8 hG ht_b4 tk_no
    refine fx_top (v := .ref b4) rfl ?_
    refine lv_astore_n (lv' := [(3, .ref b4), (0, .ref a0), (1, .ref a1), (2, .int p2)]) hx hb dX8_isBarred_7 rfl hl (by decide) rfl (fun ls hl => ?_)
    refine lv_aload_n hx hb dX8_isBarred_8 rfl (lv_at hl 0 rfl) ?_
    refine lv_ifnull hx hb dX8_isBarred_9 ?_
    refine lv_aload_n hx hb dX8_isBarred_12 rfl (lv_at hl 0 rfl) ?_
    refine lv_iconst (v := 3) hx hb dX8_isBarred_13 (by decide) ?_
    have hk_3 : (3 : Int32).toInt = 3 := by decide
    refine tk_Vi (As := [.int 3]) (rest := []) (ci := 7) ⟨hx, hb, hml, hown, hts⟩ hK hG hZ hS (k_X7_has l D cy ld t n_b4 r_b4 b4 3 ht_b4) trivial ⟨callB_of 1 hts (wl_in mw_909) rfl rfl rfl (htl _ mw_131) (htl _ mw_906) hd_yX7_has ⟨(Nat.le_of_ble_eq_true rfl), (Nat.le_of_ble_eq_true rfl)⟩, htl _ mw_907, htl _ mw_908⟩ ht_b4 (by decide) tk_no rfl (tk_w.pick [] rfl) rfl hl.1 rfl (Nat.le_of_ble_eq_true rfl) dX8_isBarred_14 ⟨(Nat.le_of_ble_eq_true rfl), (Nat.le_of_ble_eq_true rfl)⟩ (fun v5 H locs hpo hG hS hq9 => ?_)
    have hg_0 := hg_0.call hq9 tk_w.nil
    obtain ⟨hpo7, hpo8, hpo9, hpo10⟩ := hpo
    refine lv_if_ne (tgt := 22) hx hb dX8_isBarred_17 (by decide) (fun c9 => ?_) (fun c9 => ?_)
    · have hc11 : ¬ (v5.toInt = 0) := fun h9 => c9 ((fi_eq rfl (show (0 : Int32).toInt = 0 by decide)).mpr h9)
      refine lv_aload_n hx hb dX8_isBarred_22 rfl (lv_at hl 1 rfl) ?_
      refine lv_aload_n hx hb dX8_isBarred_23 rfl (lv_at hl 2 rfl) ?_
      refine lv_iload_n hx hb dX8_isBarred_24 rfl (lv_at hl 3 rfl) ?_
      refine tk_Vv (As := [.ref a1, .int p2]) (rest := []) (ci := 8) ⟨hx, hb, hml, hown, hts⟩ hK hG hZ hS (k_X8_setWords l D cy ld t rg1 a0 a1 p2 g0 ht_a0 ht_a1 (by omega) (by omega) (by omega) (by omega)) hg_0 ⟨callB_of 2 hts (wl_in mw_913) rfl rfl rfl (htl _ mw_21) (htl _ mw_910) hd_yX8_setWords ⟨(Nat.le_of_ble_eq_true rfl), (Nat.le_of_ble_eq_true rfl)⟩, htl _ mw_911, htl _ mw_912⟩ ht_a0 (by decide) tk_no rfl (tk_w.pick [0] rfl) rfl hl.1 rfl (Nat.le_of_ble_eq_true rfl) dX8_isBarred_25 ⟨(Nat.le_of_ble_eq_true rfl), (Nat.le_of_ble_eq_true rfl)⟩ (fun H locs hpo hG hS hq9 => ?_)
      have hg_0 := hg_0.call hq9 (tk_w.no ht_a1 (by intro q hq h1 h2 h3; simp only [List.mem_cons, List.not_mem_nil, or_false] at hq; rcases hq with rfl <;> (dsimp only at h1 h2 h3; omega)))
      refine lv_aload_n hx hb dX8_isBarred_28 rfl (lv_at hl 1 rfl) ?_
      refine lv_iconst (v := 3) hx hb dX8_isBarred_29 (by decide) ?_
      have hk_3 : (3 : Int32).toInt = 3 := by decide
      refine tk_Vi (As := [.int 3]) (rest := []) (ci := 8) ⟨hx, hb, hml, hown, hts⟩ hK hG hZ hS (k_X8_isTold l D cy ld t a0 3 ht_a0) trivial ⟨callB_of 1 hts (wl_in mw_935) rfl rfl rfl (htl _ mw_21) (htl _ mw_932) hd_yX8_isTold ⟨(Nat.le_of_ble_eq_true rfl), (Nat.le_of_ble_eq_true rfl)⟩, htl _ mw_933, htl _ mw_934⟩ ht_a0 (by decide) tk_no rfl (tk_w.pick [1, 0, 2] rfl) rfl hl.1 rfl (Nat.le_of_ble_eq_true rfl) dX8_isBarred_30 ⟨(Nat.le_of_ble_eq_true rfl), (Nat.le_of_ble_eq_true rfl)⟩ (fun v13 H locs hpo hG hS hq9 => ?_)
      have hg_0 := hg_0.call hq9 (tk_w.no ht_a1 (by intro q hq h1 h2 h3; simp only [List.mem_cons, List.not_mem_nil, or_false] at hq; rcases hq with rfl | rfl | rfl <;> (dsimp only at h1 h2 h3; omega)))
      obtain ⟨hpo15, hpo16, hpo17, hpo18⟩ := hpo
      exact tk_iret (v := v13) hx hb hr (tk_nz (by omega) (by omega)) hlocks (show 0 ≤ v13.toInt ∧ v13.toInt ≤ 1 ∧ 0 ≤ v13.toInt ∧ v13.toInt ≤ 1 from ⟨(by omega), (by omega), (by omega), (by omega)⟩) hG hS dX8_isBarred_33
    · have hc11 : v5.toInt = 0 := (fi_eq rfl (show (0 : Int32).toInt = 0 by decide)).mp c9
      refine lv_iconst (v := 0) hx hb dX8_isBarred_20 (by decide) ?_
      have hk_0 : (0 : Int32).toInt = 0 := by decide
      exact tk_iret (v := 0) hx hb hr rfl hlocks (show 0 ≤ (0 : Int32).toInt ∧ (0 : Int32).toInt ≤ 1 ∧ 0 ≤ (0 : Int32).toInt ∧ (0 : Int32).toInt ≤ 1 from ⟨(by omega), (by omega), (by omega), (by omega)⟩) hG hS dX8_isBarred_21
theorem dX0_listOpen_0 : decode cX0_listOpen 0 = .ok (.iconst 0, 1) := by decide +kernel
theorem dX0_listOpen_1 : decode cX0_listOpen 1 = .ok (.istore_n 1, 1) := by decide +kernel
theorem dX0_listOpen_2 : decode cX0_listOpen 2 = .ok (.iconst 0, 1) := by decide +kernel
theorem dX0_listOpen_3 : decode cX0_listOpen 3 = .ok (.istore_n 2, 1) := by decide +kernel
theorem dX0_listOpen_4 : decode cX0_listOpen 4 = .ok (.iload_n 2, 1) := by decide +kernel
theorem dX0_listOpen_5 : decode cX0_listOpen 5 = .ok (.aload_n 0, 1) := by decide +kernel
theorem dX0_listOpen_6 : decode cX0_listOpen 6 = .ok (.getfield 25, 3) := by decide +kernel
theorem dX0_listOpen_9 : decode cX0_listOpen 9 = .ok (.getfield 111, 3) := by decide +kernel
theorem dX0_listOpen_12 : decode cX0_listOpen 12 = .ok (.if_icmp .ge 34, 3) := by decide +kernel
theorem dX0_listOpen_46 : decode cX0_listOpen 46 = .ok (.iload_n 1, 1) := by decide +kernel
theorem dX0_listOpen_47 : decode cX0_listOpen 47 = .ok (.ireturn, 1) := by decide +kernel
theorem dX0_listOpen_15 : decode cX0_listOpen 15 = .ok (.aload_n 0, 1) := by decide +kernel
theorem dX0_listOpen_16 : decode cX0_listOpen 16 = .ok (.getfield 29, 3) := by decide +kernel
theorem dX0_listOpen_19 : decode cX0_listOpen 19 = .ok (.aload_n 0, 1) := by decide +kernel
theorem dX0_listOpen_20 : decode cX0_listOpen 20 = .ok (.getfield 12, 3) := by decide +kernel
theorem dX0_listOpen_23 : decode cX0_listOpen 23 = .ok (.iload_n 2, 1) := by decide +kernel
theorem dX0_listOpen_24 : decode cX0_listOpen 24 = .ok (.invokevirtual 114, 3) := by decide +kernel
theorem dX0_listOpen_40 : decode cX0_listOpen 40 = .ok (.iinc 2 1, 3) := by decide +kernel
theorem dX0_listOpen_43 : decode cX0_listOpen 43 = .ok (.goto (-39), 3) := by decide +kernel
theorem dX0_listOpen_27 : decode cX0_listOpen 27 = .ok (.ifCond .ne 13, 3) := by decide +kernel
theorem dX0_listOpen_30 : decode cX0_listOpen 30 = .ok (.aload_n 0, 1) := by decide +kernel
theorem dX0_listOpen_31 : decode cX0_listOpen 31 = .ok (.getfield 22, 3) := by decide +kernel
theorem dX0_listOpen_34 : decode cX0_listOpen 34 = .ok (.iload_n 1, 1) := by decide +kernel
theorem dX0_listOpen_35 : decode cX0_listOpen 35 = .ok (.iload_n 2, 1) := by decide +kernel
theorem dX0_listOpen_36 : decode cX0_listOpen 36 = .ok (.iastore, 1) := by decide +kernel
theorem dX0_listOpen_37 : decode cX0_listOpen 37 = .ok (.iinc 1 1, 3) := by decide +kernel
set_option maxHeartbeats 4000000 in
set_option maxRecDepth 100000 in
theorem k_X0_listOpen (l : Launch) (D : va_G) (cy : Nat → ClassId) (ld : Nat → Nat) (t : tk_T) (a0 : Nat) (g0 : Int32) (ht_a0 : t a0 = (1, 0, 0)) (ht_ld22 : t (ld 22) = (10, 0, 5)) (hp_0 : 0 ≤ g0.toInt) (hp_1 : g0.toInt ≤ 7) : Met l yX0_listOpen (wl yX0_listOpen cX0_listOpen 3 (some .int)) ({ frames := 6, cells := 0, slots := 0, locals := 350 }) (tp D cy ld t [] [.ref a0] (fun H => tk_f D H (ld 22) 9 5 (.int g0))) (ti D cy ld t [] (fun r H => 0 ≤ r.toInt ∧ r.toInt ≤ 10) (tk_w t [(20, 0, 0), (12, 0, 0), (9, 0, 0), (22, 0, 0)])) 0 0 (tk_w t [(20, 0, 0), (12, 0, 0), (9, 0, 0), (22, 0, 0)]) := by
  refine tk_met (y := yX0_listOpen) (cc := cX0_listOpen) (maxL := 3) (ret := (some .int)) (av := [.ref a0]) _ _ (by decide) (Nat.le_of_ble_eq_true rfl) ?_
  intro p e s m args below meth c hx hb hr hml hts htl hown hlocks hK H locs hH hG hS hB hZ ls hl
  have hown : s.vm.findClass RX0 = some m.cls := hown
  have hl : lv_has ls 3 [(0, .ref a0)] := hl
  have hg_0 := hB
  refine lv_iconst (v := 0) hx hb dX0_listOpen_0 (by decide) ?_
  refine lv_istore_n (lv' := [(1, .int 0), (0, .ref a0)]) hx hb dX0_listOpen_1 rfl hl (by decide) rfl (fun ls hl => ?_)
  refine lv_iconst (v := 0) hx hb dX0_listOpen_2 (by decide) ?_
  refine lv_istore_n (lv' := [(2, .int 0), (1, .int 0), (0, .ref a0)]) hx hb dX0_listOpen_3 rfl hl (by decide) rfl (fun ls hl => ?_)
  have hl368 : ∀ (N_l368 : Nat) (v1 : Int32) (v2 : Int32) (H : Heap) (locs : List Loc), v1.toInt ≤ 10 → 0 ≤ v2.toInt → 0 ≤ v1.toInt + (-1) * v2.toInt → (-1) * v1.toInt + 10 < (N_l368 : Int) → tk_G D cy ld t [] H → va_S (tk_w t [(20, 0, 0), (12, 0, 0), (9, 0, 0), (22, 0, 0)]) s.heap H locs → tk_f D H (ld 22) 9 5 (.int g0) → ∀ ls : Array Slot, lv_has ls 3 [(2, .int v1), (1, .int v2), (0, .ref a0)] → W p l e ({ frames := 6, cells := 0, slots := 0, locals := 350 }) s m args below meth c H locs 0 0 (MQ below (ti D cy ld t [] (fun r H => 0 ≤ r.toInt ∧ r.toInt ≤ 10) (tk_w t [(20, 0, 0), (12, 0, 0), (9, 0, 0), (22, 0, 0)])) args s 0 0 (tk_w t [(20, 0, 0), (12, 0, 0), (9, 0, 0), (22, 0, 0)])) (F0 m 4 ls []) := by
    intro N_l368
    induction N_l368 with
    | zero => intro v1 v2 H locs hq0_l368 hq1_l368 hq2_l368 hm_l368 hG hS hg_0 ls hl; exfalso; omega
    | succ N_l368 ih_l368 =>
      intro v1 v2 H locs hq0_l368 hq1_l368 hq2_l368 hm_l368 hG hS hg_0 ls hl
      refine lv_iload_n hx hb dX0_listOpen_4 rfl (lv_at hl 0 rfl) ?_
      refine lv_aload_n hx hb dX0_listOpen_5 rfl (lv_at hl 2 rfl) ?_
      refine tk_get (ci := 0) (C := RX0) (T := TX0) (N := 7) (sp := (8, 20, 3, 0)) hx hb htl inX0 hown hK hG ht_a0 (by decide) tk_no rfl 3 (by decide) (htl _ mw_166) (fun _ h9 => h9) rfl dX0_listOpen_6 (fun v9 hf369 hV9 => ?_)
      obtain ⟨rfl, ht_ld20⟩ := hV9
      have ht_ld20 : t (ld 20) = (3, 0, 0) := ht_ld20
      refine fx_top (v := .ref (ld 20)) rfl ?_
      refine tk_get (ci := 2) (C := RX2) (T := TX2) (N := 20) (sp := (0, 0, 10, 0)) hx hb htl inX2 hown hK hG ht_ld20 (by decide) tk_no rfl 4 (by decide) (htl _ mw_1676) (fun _ h9 => h9) rfl dX0_listOpen_9 (fun v9 hf370 hV9 => ?_)
      obtain ⟨v371, rfl, (ha_v371 : 0 ≤ v371.toInt), (hb_v371 : v371.toInt ≤ 10)⟩ := hV9
      refine lv_icmp_ge (tgt := 46) hx hb dX0_listOpen_12 (by decide) (fun c9 => ?_) (fun c9 => ?_)
      · have hc372 : v371.toInt ≤ v1.toInt := (fi_le rfl rfl).mp c9
        refine lv_iload_n hx hb dX0_listOpen_46 rfl (lv_at hl 1 rfl) ?_
        exact tk_iret (v := v2) hx hb hr rfl hlocks (show 0 ≤ v2.toInt ∧ v2.toInt ≤ 10 from ⟨(by omega), (by omega)⟩) hG hS dX0_listOpen_47
      · have hc372 : ¬ (v371.toInt ≤ v1.toInt) := fun h9 => c9 ((fi_le rfl rfl).mpr h9)
        refine lv_aload_n hx hb dX0_listOpen_15 rfl (lv_at hl 2 rfl) ?_
        refine tk_get (ci := 0) (C := RX0) (T := TX0) (N := 7) (sp := (6, 9, 0, 0)) hx hb htl inX0 hown hK hG ht_a0 (by decide) tk_no rfl 4 (by decide) (htl _ mw_167) (fun _ h9 => h9) rfl dX0_listOpen_16 (fun v9 hf397 hV9 => ?_)
        obtain ⟨b398, rfl, ht_b398⟩ := hV9
        have ht_b398 : t b398 = (9, 0, 0) := ht_b398
        refine lv_aload_n hx hb dX0_listOpen_19 rfl (lv_at hl 2 rfl) ?_
        refine tk_get (ci := 0) (C := RX0) (T := TX0) (N := 7) (sp := (8, 22, 10, 5)) hx hb htl inX0 hown hK hG ht_a0 (by decide) tk_no rfl 0 (by decide) (htl _ mw_163) (fun _ h9 => h9) rfl dX0_listOpen_20 (fun v9 hf399 hV9 => ?_)
        obtain ⟨rfl, ht_ld22⟩ := hV9
        have ht_ld22 : t (ld 22) = (10, 0, 5) := ht_ld22
        refine fx_top (v := .ref (ld 22)) rfl ?_
        refine lv_iload_n hx hb dX0_listOpen_23 rfl (lv_at hl 0 rfl) ?_
        refine tk_Vi (As := [.ref (ld 22), .int v1]) (rest := []) (ci := 8) ⟨hx, hb, hml, hown, hts⟩ hK hG hZ hS (k_X8_isBarred l D cy ld t 5 b398 (ld 22) v1 g0 ht_b398 ht_ld22 (by omega) (by omega) (by omega) (by omega)) hg_0 ⟨callB_of 2 hts (wl_in mw_901) rfl rfl rfl (htl _ mw_21) (htl _ mw_1677) hd_yX8_isBarred ⟨(Nat.le_of_ble_eq_true rfl), (Nat.le_of_ble_eq_true rfl)⟩, htl _ mw_899, htl _ mw_900⟩ ht_b398 (by decide) tk_no rfl (tk_w.pick [0, 1, 2] rfl) rfl hl.1 rfl (Nat.le_of_ble_eq_true rfl) dX0_listOpen_24 ⟨(Nat.le_of_ble_eq_true rfl), (Nat.le_of_ble_eq_true rfl)⟩ (fun v400 H locs hpo hG hS hq9 => ?_)
        have hg_0 := hg_0.call hq9 (tk_w.no ht_ld22 (by decide))
        have hf370 := hf370.call hq9 (tk_w.no ht_ld20 (by decide))
        obtain ⟨hpo402, hpo403, hpo404, hpo405⟩ := hpo
        have hj415 : ∀ (v413 : Int32) (H : Heap) (locs : List Loc), 0 ≤ v2.toInt + (-1) * v413.toInt + 1 → 0 ≤ (-1) * v2.toInt + v413.toInt → tk_G D cy ld t [] H → va_S (tk_w t [(20, 0, 0), (12, 0, 0), (9, 0, 0), (22, 0, 0)]) s.heap H locs → tk_f D H (ld 22) 9 5 (.int g0) → tk_f D H (ld 20) 2 4 (.int v371) → ∀ ls : Array Slot, lv_has ls 3 [(2, .int v1), (1, .int v413), (0, .ref a0)] → W p l e ({ frames := 6, cells := 0, slots := 0, locals := 350 }) s m args below meth c H locs 0 0 (MQ below (ti D cy ld t [] (fun r H => 0 ≤ r.toInt ∧ r.toInt ≤ 10) (tk_w t [(20, 0, 0), (12, 0, 0), (9, 0, 0), (22, 0, 0)])) args s 0 0 (tk_w t [(20, 0, 0), (12, 0, 0), (9, 0, 0), (22, 0, 0)])) (F0 m 40 ls []) := by
          intro v413 H locs hq0_j415 hq1_j415 hG hS hg_0 hf370 ls hl
          obtain ⟨v416, h_v416, e_v416⟩ := tk_inc v1 1 (by decide) (by omega) (by omega)
          refine lv_iinc (v := v416) (lv' := [(2, .int v416), (1, .int v413), (0, .ref a0)]) hx hb dX0_listOpen_40 hl (k := 0) rfl e_v416 (by decide) rfl (fun ls hl => ?_)
          refine lv_goto (tgt := 4) hx hb dX0_listOpen_43 (by decide) ?_
          exact ih_l368 v416 v413 _ _ (by omega) (by omega) (by omega) (by omega) hG hS hg_0 _ (lv_sub hl [0, 1, 2] rfl)
        refine lv_if_ne (tgt := 40) hx hb dX0_listOpen_27 (by decide) (fun c9 => ?_) (fun c9 => ?_)
        · have hc406 : ¬ (v400.toInt = 0) := fun h9 => c9 ((fi_eq rfl (show (0 : Int32).toInt = 0 by decide)).mpr h9)
          exact hj415 v2 _ _ (by omega) (by omega) hG hS hg_0 hf370 _ (lv_sub hl [0, 1, 2] rfl)
        · have hc406 : v400.toInt = 0 := (fi_eq rfl (show (0 : Int32).toInt = 0 by decide)).mp c9
          refine lv_aload_n hx hb dX0_listOpen_30 rfl (lv_at hl 2 rfl) ?_
          refine tk_get (ci := 0) (C := RX0) (T := TX0) (N := 7) (sp := (6, 22, 10, 0)) hx hb htl inX0 hown hK hG ht_a0 (by decide) tk_no rfl 5 (by decide) (htl _ mw_165) (fun _ h9 => h9) rfl dX0_listOpen_31 (fun v9 hf417 hV9 => ?_)
          obtain ⟨b418, rfl, ht_b418⟩ := hV9
          have ht_b418 : t b418 = (22, 10, 0) := ht_b418
          refine lv_iload_n hx hb dX0_listOpen_34 rfl (lv_at hl 1 rfl) ?_
          refine lv_iload_n hx hb dX0_listOpen_35 rfl (lv_at hl 0 rfl) ?_
          refine tk_iast hx hb hK hG hS ht_b418 (by decide) (fun _ => Iff.rfl) tk_no rfl (by omega) (by omega) (show 0 ≤ (v1 : Int32).toInt ∧ (v1 : Int32).toInt ≤ 9 from ⟨by omega, by omega⟩) (tk_w.of ht_b418 (by decide) (List.mem_of_getElem? (i := 3) rfl) (Nat.le_refl _) (Nat.le_refl _)) dX0_listOpen_36 (fun H locs hG hS hq9 => ?_)
          have hg_0 := hg_0.kept (hq9 _ (tk_ne ht_ld22 ht_b418 (Or.inl (by decide))))
          have hf370 := hf370.kept (hq9 _ (tk_ne ht_ld20 ht_b418 (Or.inl (by decide))))
          obtain ⟨v420, h_v420, e_v420⟩ := tk_inc v2 1 (by decide) (by omega) (by omega)
          refine lv_iinc (v := v420) (lv' := [(1, .int v420), (2, .int v1), (0, .ref a0)]) hx hb dX0_listOpen_37 hl (k := 1) rfl e_v420 (by decide) rfl (fun ls hl => ?_)
          exact hj415 v420 _ _ (by omega) (by omega) hG hS hg_0 hf370 _ (lv_sub hl [1, 0, 2] rfl)
  have hk_0 : (0 : Int32).toInt = 0 := by decide
  have hk_0 : (0 : Int32).toInt = 0 := by decide
  exact hl368 11 0 0 _ _ (by omega) (by omega) (by omega) (by omega) hG hS hg_0 _ (lv_sub hl [0, 1, 2] rfl)
theorem dX0_singerOf_0 : decode cX0_singerOf 0 = .ok (.iload_n 2, 1) := by decide +kernel
theorem dX0_singerOf_1 : decode cX0_singerOf 1 = .ok (.istore_n 3, 1) := by decide +kernel
theorem dX0_singerOf_2 : decode cX0_singerOf 2 = .ok (.iconst 0, 1) := by decide +kernel
theorem dX0_singerOf_3 : decode cX0_singerOf 3 = .ok (.istore 4, 2) := by decide +kernel
theorem dX0_singerOf_5 : decode cX0_singerOf 5 = .ok (.iload 4, 2) := by decide +kernel
theorem dX0_singerOf_7 : decode cX0_singerOf 7 = .ok (.aload_n 0, 1) := by decide +kernel
theorem dX0_singerOf_8 : decode cX0_singerOf 8 = .ok (.getfield 25, 3) := by decide +kernel
theorem dX0_singerOf_11 : decode cX0_singerOf 11 = .ok (.getfield 37, 3) := by decide +kernel
theorem dX0_singerOf_14 : decode cX0_singerOf 14 = .ok (.if_icmp .ge 33, 3) := by decide +kernel
theorem dX0_singerOf_47 : decode cX0_singerOf 47 = .ok (.iconst (-1), 1) := by decide +kernel
theorem dX0_singerOf_48 : decode cX0_singerOf 48 = .ok (.ireturn, 1) := by decide +kernel
theorem dX0_singerOf_17 : decode cX0_singerOf 17 = .ok (.aload_n 0, 1) := by decide +kernel
theorem dX0_singerOf_18 : decode cX0_singerOf 18 = .ok (.getfield 25, 3) := by decide +kernel
theorem dX0_singerOf_21 : decode cX0_singerOf 21 = .ok (.getfield 108, 3) := by decide +kernel
theorem dX0_singerOf_24 : decode cX0_singerOf 24 = .ok (.iload 4, 2) := by decide +kernel
theorem dX0_singerOf_26 : decode cX0_singerOf 26 = .ok (.iaload, 1) := by decide +kernel
theorem dX0_singerOf_27 : decode cX0_singerOf 27 = .ok (.iload_n 1, 1) := by decide +kernel
theorem dX0_singerOf_28 : decode cX0_singerOf 28 = .ok (.if_icmp .ne 13, 3) := by decide +kernel
theorem dX0_singerOf_41 : decode cX0_singerOf 41 = .ok (.iinc 4 1, 3) := by decide +kernel
theorem dX0_singerOf_44 : decode cX0_singerOf 44 = .ok (.goto (-39), 3) := by decide +kernel
theorem dX0_singerOf_31 : decode cX0_singerOf 31 = .ok (.iload_n 3, 1) := by decide +kernel
theorem dX0_singerOf_32 : decode cX0_singerOf 32 = .ok (.ifCond .ne 6, 3) := by decide +kernel
theorem dX0_singerOf_38 : decode cX0_singerOf 38 = .ok (.iinc 3 (-1), 3) := by decide +kernel
theorem dX0_singerOf_35 : decode cX0_singerOf 35 = .ok (.iload 4, 2) := by decide +kernel
theorem dX0_singerOf_37 : decode cX0_singerOf 37 = .ok (.ireturn, 1) := by decide +kernel
set_option maxHeartbeats 4000000 in
set_option maxRecDepth 100000 in
theorem k_X0_singerOf (l : Launch) (D : va_G) (cy : Nat → ClassId) (ld : Nat → Nat) (t : tk_T) (a0 : Nat) (p1 : Int32) (p2 : Int32) (ht_a0 : t a0 = (1, 0, 0)) : Met l yX0_singerOf (wl yX0_singerOf cX0_singerOf 5 (some .int)) ({ frames := 3, cells := 0, slots := 0, locals := 140 }) (tp D cy ld t [] [.ref a0, .int p1, .int p2] (fun H => True)) (ti D cy ld t [] (fun r H => (-1) ≤ r.toInt ∧ r.toInt ≤ 7) (tk_w t [])) 0 0 (tk_w t []) := by
  refine tk_met (y := yX0_singerOf) (cc := cX0_singerOf) (maxL := 5) (ret := (some .int)) (av := [.ref a0, .int p1, .int p2]) _ _ (by decide) (Nat.le_of_ble_eq_true rfl) ?_
  intro p e s m args below meth c hx hb hr hml hts htl hown hlocks hK H locs hH hG hS hB hZ ls hl
  have hown : s.vm.findClass RX0 = some m.cls := hown
  have hl : lv_has ls 5 [(0, .ref a0), (1, .int p1), (2, .int p2)] := hl
  have hr_p1 := tk_rng p1
  have hr_p2 := tk_rng p2
  refine lv_iload_n hx hb dX0_singerOf_0 rfl (lv_at hl 2 rfl) ?_
  refine lv_istore_n (lv' := [(3, .int p2), (0, .ref a0), (1, .int p1), (2, .int p2)]) hx hb dX0_singerOf_1 rfl hl (by decide) rfl (fun ls hl => ?_)
  refine lv_iconst (v := 0) hx hb dX0_singerOf_2 (by decide) ?_
  refine lv_istore (lv' := [(4, .int 0), (3, .int p2), (0, .ref a0), (1, .int p1), (2, .int p2)]) hx hb dX0_singerOf_3 hl (by decide) rfl (fun ls hl => ?_)
  have hl110 : ∀ (N_l110 : Nat) (v17 : Int32) (v18 : Int32), v17.toInt ≤ 8 → 0 ≤ v17.toInt → (-1) * v17.toInt + 8 < (N_l110 : Int) → ∀ ls : Array Slot, lv_has ls 5 [(4, .int v17), (3, .int v18), (0, .ref a0), (1, .int p1)] → W p l e ({ frames := 3, cells := 0, slots := 0, locals := 140 }) s m args below meth c H locs 0 0 (MQ below (ti D cy ld t [] (fun r H => (-1) ≤ r.toInt ∧ r.toInt ≤ 7) (tk_w t [])) args s 0 0 (tk_w t [])) (F0 m 5 ls []) := by
    intro N_l110
    induction N_l110 with
    | zero => intro v17 v18 hq0_l110 hq1_l110 hm_l110 ls hl; exfalso; omega
    | succ N_l110 ih_l110 =>
      intro v17 v18 hq0_l110 hq1_l110 hm_l110 ls hl
      refine lv_iload hx hb dX0_singerOf_5 (lv_at hl 0 rfl) ?_
      refine lv_aload_n hx hb dX0_singerOf_7 rfl (lv_at hl 2 rfl) ?_
      refine tk_get (ci := 0) (C := RX0) (T := TX0) (N := 7) (sp := (8, 20, 3, 0)) hx hb htl inX0 hown hK hG ht_a0 (by decide) tk_no rfl 3 (by decide) (htl _ mw_166) (fun _ h9 => h9) rfl dX0_singerOf_8 (fun v9 hf111 hV9 => ?_)
      obtain ⟨rfl, ht_ld20⟩ := hV9
      have ht_ld20 : t (ld 20) = (3, 0, 0) := ht_ld20
      refine fx_top (v := .ref (ld 20)) rfl ?_
      refine tk_get (ci := 2) (C := RX2) (T := TX2) (N := 20) (sp := (0, 0, 8, 0)) hx hb htl inX2 hown hK hG ht_ld20 (by decide) tk_no rfl 0 (by decide) (htl _ mw_1641) (fun _ h9 => h9) rfl dX0_singerOf_11 (fun v9 hf112 hV9 => ?_)
      obtain ⟨v113, rfl, (ha_v113 : 0 ≤ v113.toInt), (hb_v113 : v113.toInt ≤ 8)⟩ := hV9
      refine lv_icmp_ge (tgt := 47) hx hb dX0_singerOf_14 (by decide) (fun c9 => ?_) (fun c9 => ?_)
      · have hc114 : v113.toInt ≤ v17.toInt := (fi_le rfl rfl).mp c9
        refine lv_iconst (v := (-1)) hx hb dX0_singerOf_47 (by decide) ?_
        have hk_m1 : ((-1) : Int32).toInt = (-1) := by decide
        exact tk_iret (v := (-1)) hx hb hr rfl hlocks (show (-1) ≤ ((-1) : Int32).toInt ∧ ((-1) : Int32).toInt ≤ 7 from ⟨(by omega), (by omega)⟩) hG hS dX0_singerOf_48
      · have hc114 : ¬ (v113.toInt ≤ v17.toInt) := fun h9 => c9 ((fi_le rfl rfl).mpr h9)
        refine lv_aload_n hx hb dX0_singerOf_17 rfl (lv_at hl 2 rfl) ?_
        refine tk_get (ci := 0) (C := RX0) (T := TX0) (N := 7) (sp := (8, 20, 3, 0)) hx hb htl inX0 hown hK hG ht_a0 (by decide) tk_no rfl 3 (by decide) (htl _ mw_166) (fun _ h9 => h9) rfl dX0_singerOf_18 (fun v9 hf115 hV9 => ?_)
        obtain ⟨rfl, ht_ld20⟩ := hV9
        have ht_ld20 : t (ld 20) = (3, 0, 0) := ht_ld20
        refine fx_top (v := .ref (ld 20)) rfl ?_
        refine tk_get (ci := 2) (C := RX2) (T := TX2) (N := 20) (sp := (1, 21, 8, 0)) hx hb htl inX2 hown hK hG ht_ld20 (by decide) tk_no rfl 2 (by decide) (htl _ mw_1668) (fun _ h9 => h9) rfl dX0_singerOf_21 (fun v9 hf116 hV9 => ?_)
        obtain ⟨b117, rfl, ht_b117⟩ := hV9
        have ht_b117 : t b117 = (21, 8, 0) := ht_b117
        refine lv_iload hx hb dX0_singerOf_24 (lv_at hl 0 rfl) ?_
        refine tk_iald hx hb hK hG ht_b117 (by decide) (fun _ h => h) tk_no rfl (by omega) (by omega) dX0_singerOf_26 (fun v118 hE9 _ => ?_)
        have he_v118 : 0 ≤ v118.toInt ∧ v118.toInt ≤ 1 := hE9
        refine lv_iload_n hx hb dX0_singerOf_27 rfl (lv_at hl 3 rfl) ?_
        refine lv_icmp_ne (tgt := 41) hx hb dX0_singerOf_28 (by decide) (fun c9 => ?_) (fun c9 => ?_)
        · have hc119 : ¬ (v118.toInt = p1.toInt) := fun h9 => c9 ((fi_eq rfl rfl).mpr h9)
          obtain ⟨v120, h_v120, e_v120⟩ := tk_inc v17 1 (by decide) (by omega) (by omega)
          refine lv_iinc (v := v120) (lv' := [(4, .int v120), (3, .int v18), (0, .ref a0), (1, .int p1)]) hx hb dX0_singerOf_41 hl (k := 0) rfl e_v120 (by decide) rfl (fun ls hl => ?_)
          refine lv_goto (tgt := 5) hx hb dX0_singerOf_44 (by decide) ?_
          exact ih_l110 v120 v18 (by omega) (by omega) (by omega) _ (lv_sub hl [0, 1, 2, 3] rfl)
        · have hc119 : v118.toInt = p1.toInt := (fi_eq rfl rfl).mp c9
          refine lv_iload_n hx hb dX0_singerOf_31 rfl (lv_at hl 1 rfl) ?_
          refine lv_if_ne (tgt := 38) hx hb dX0_singerOf_32 (by decide) (fun c9 => ?_) (fun c9 => ?_)
          · have hc121 : ¬ (v18.toInt = 0) := fun h9 => c9 ((fi_eq rfl (show (0 : Int32).toInt = 0 by decide)).mpr h9)
            obtain ⟨v122, e_v122⟩ : ∃ z : Int32, v18 + Int32.ofInt (-1) = z := ⟨_, rfl⟩
            refine lv_iinc (v := v122) (lv' := [(3, .int v122), (4, .int v17), (0, .ref a0), (1, .int p1)]) hx hb dX0_singerOf_38 hl (k := 1) rfl e_v122 (by decide) rfl (fun ls hl => ?_)
            obtain ⟨v123, h_v123, e_v123⟩ := tk_inc v17 1 (by decide) (by omega) (by omega)
            refine lv_iinc (v := v123) (lv' := [(4, .int v123), (3, .int v122), (0, .ref a0), (1, .int p1)]) hx hb dX0_singerOf_41 hl (k := 1) rfl e_v123 (by decide) rfl (fun ls hl => ?_)
            refine lv_goto (tgt := 5) hx hb dX0_singerOf_44 (by decide) ?_
            exact ih_l110 v123 v122 (by omega) (by omega) (by omega) _ (lv_sub hl [0, 1, 2, 3] rfl)
          · have hc121 : v18.toInt = 0 := (fi_eq rfl (show (0 : Int32).toInt = 0 by decide)).mp c9
            refine lv_iload hx hb dX0_singerOf_35 (lv_at hl 0 rfl) ?_
            exact tk_iret (v := v17) hx hb hr rfl hlocks (show (-1) ≤ v17.toInt ∧ v17.toInt ≤ 7 from ⟨(by omega), (by omega)⟩) hG hS dX0_singerOf_37
  have hk_0 : (0 : Int32).toInt = 0 := by decide
  exact hl110 9 0 p2 (by omega) (by omega) (by omega) _ (lv_sub hl [0, 1, 2, 3] rfl)
theorem dX2_howManyOf_0 : decode cX2_howManyOf 0 = .ok (.iconst 0, 1) := by decide +kernel
theorem dX2_howManyOf_1 : decode cX2_howManyOf 1 = .ok (.istore_n 2, 1) := by decide +kernel
theorem dX2_howManyOf_2 : decode cX2_howManyOf 2 = .ok (.iconst 0, 1) := by decide +kernel
theorem dX2_howManyOf_3 : decode cX2_howManyOf 3 = .ok (.istore_n 3, 1) := by decide +kernel
theorem dX2_howManyOf_4 : decode cX2_howManyOf 4 = .ok (.iload_n 3, 1) := by decide +kernel
theorem dX2_howManyOf_5 : decode cX2_howManyOf 5 = .ok (.aload_n 0, 1) := by decide +kernel
theorem dX2_howManyOf_6 : decode cX2_howManyOf 6 = .ok (.getfield 62, 3) := by decide +kernel
theorem dX2_howManyOf_9 : decode cX2_howManyOf 9 = .ok (.if_icmp .ge 22, 3) := by decide +kernel
theorem dX2_howManyOf_31 : decode cX2_howManyOf 31 = .ok (.iload_n 2, 1) := by decide +kernel
theorem dX2_howManyOf_32 : decode cX2_howManyOf 32 = .ok (.ireturn, 1) := by decide +kernel
theorem dX2_howManyOf_12 : decode cX2_howManyOf 12 = .ok (.aload_n 0, 1) := by decide +kernel
theorem dX2_howManyOf_13 : decode cX2_howManyOf 13 = .ok (.getfield 15, 3) := by decide +kernel
theorem dX2_howManyOf_16 : decode cX2_howManyOf 16 = .ok (.iload_n 3, 1) := by decide +kernel
theorem dX2_howManyOf_17 : decode cX2_howManyOf 17 = .ok (.iaload, 1) := by decide +kernel
theorem dX2_howManyOf_18 : decode cX2_howManyOf 18 = .ok (.iload_n 1, 1) := by decide +kernel
theorem dX2_howManyOf_25 : decode cX2_howManyOf 25 = .ok (.iinc 3 1, 3) := by decide +kernel
theorem dX2_howManyOf_28 : decode cX2_howManyOf 28 = .ok (.goto (-24), 3) := by decide +kernel
theorem dX2_howManyOf_19 : decode cX2_howManyOf 19 = .ok (.if_icmp .ne 6, 3) := by decide +kernel
theorem dX2_howManyOf_22 : decode cX2_howManyOf 22 = .ok (.iinc 2 1, 3) := by decide +kernel
set_option maxHeartbeats 4000000 in
set_option maxRecDepth 100000 in
theorem k_X2_howManyOf (l : Launch) (D : va_G) (cy : Nat → ClassId) (ld : Nat → Nat) (t : tk_T) (a0 : Nat) (p1 : Int32) (ht_a0 : t a0 = (3, 0, 0)) : Met l yX2_howManyOf (wl yX2_howManyOf cX2_howManyOf 4 (some .int)) ({ frames := 3, cells := 0, slots := 0, locals := 140 }) (tp D cy ld t [] [.ref a0, .int p1] (fun H => True)) (ti D cy ld t [] (fun r H => 0 ≤ r.toInt ∧ r.toInt ≤ 8) (tk_w t [])) 0 0 (tk_w t []) := by
  refine tk_met (y := yX2_howManyOf) (cc := cX2_howManyOf) (maxL := 4) (ret := (some .int)) (av := [.ref a0, .int p1]) _ _ (by decide) (Nat.le_of_ble_eq_true rfl) ?_
  intro p e s m args below meth c hx hb hr hml hts htl hown hlocks hK H locs hH hG hS hB hZ ls hl
  have hown : s.vm.findClass RX2 = some m.cls := hown
  have hl : lv_has ls 4 [(0, .ref a0), (1, .int p1)] := hl
  have hr_p1 := tk_rng p1
  refine lv_iconst (v := 0) hx hb dX2_howManyOf_0 (by decide) ?_
  refine lv_istore_n (lv' := [(2, .int 0), (0, .ref a0), (1, .int p1)]) hx hb dX2_howManyOf_1 rfl hl (by decide) rfl (fun ls hl => ?_)
  refine lv_iconst (v := 0) hx hb dX2_howManyOf_2 (by decide) ?_
  refine lv_istore_n (lv' := [(3, .int 0), (2, .int 0), (0, .ref a0), (1, .int p1)]) hx hb dX2_howManyOf_3 rfl hl (by decide) rfl (fun ls hl => ?_)
  have hl190 : ∀ (N_l190 : Nat) (v27 : Int32) (v28 : Int32), v27.toInt ≤ 8 → 0 ≤ v28.toInt → 0 ≤ v27.toInt + (-1) * v28.toInt → (-1) * v27.toInt + 8 < (N_l190 : Int) → ∀ ls : Array Slot, lv_has ls 4 [(3, .int v27), (2, .int v28), (0, .ref a0), (1, .int p1)] → W p l e ({ frames := 3, cells := 0, slots := 0, locals := 140 }) s m args below meth c H locs 0 0 (MQ below (ti D cy ld t [] (fun r H => 0 ≤ r.toInt ∧ r.toInt ≤ 8) (tk_w t [])) args s 0 0 (tk_w t [])) (F0 m 4 ls []) := by
    intro N_l190
    induction N_l190 with
    | zero => intro v27 v28 hq0_l190 hq1_l190 hq2_l190 hm_l190 ls hl; exfalso; omega
    | succ N_l190 ih_l190 =>
      intro v27 v28 hq0_l190 hq1_l190 hq2_l190 hm_l190 ls hl
      refine lv_iload_n hx hb dX2_howManyOf_4 rfl (lv_at hl 0 rfl) ?_
      refine lv_aload_n hx hb dX2_howManyOf_5 rfl (lv_at hl 2 rfl) ?_
      refine tk_get (ci := 2) (C := RX2) (T := TX2) (N := 20) (sp := (0, 0, 8, 0)) hx hb htl inX2 hown hK hG ht_a0 (by decide) tk_no rfl 0 (by decide) (htl _ mw_257) (fun _ h9 => h9) rfl dX2_howManyOf_6 (fun v9 hf191 hV9 => ?_)
      obtain ⟨v192, rfl, (ha_v192 : 0 ≤ v192.toInt), (hb_v192 : v192.toInt ≤ 8)⟩ := hV9
      refine lv_icmp_ge (tgt := 31) hx hb dX2_howManyOf_9 (by decide) (fun c9 => ?_) (fun c9 => ?_)
      · have hc193 : v192.toInt ≤ v27.toInt := (fi_le rfl rfl).mp c9
        refine lv_iload_n hx hb dX2_howManyOf_31 rfl (lv_at hl 1 rfl) ?_
        exact tk_iret (v := v28) hx hb hr rfl hlocks (show 0 ≤ v28.toInt ∧ v28.toInt ≤ 8 from ⟨(by omega), (by omega)⟩) hG hS dX2_howManyOf_32
      · have hc193 : ¬ (v192.toInt ≤ v27.toInt) := fun h9 => c9 ((fi_le rfl rfl).mpr h9)
        refine lv_aload_n hx hb dX2_howManyOf_12 rfl (lv_at hl 2 rfl) ?_
        refine tk_get (ci := 2) (C := RX2) (T := TX2) (N := 20) (sp := (1, 21, 8, 0)) hx hb htl inX2 hown hK hG ht_a0 (by decide) tk_no rfl 2 (by decide) (htl _ mw_61) (fun _ h9 => h9) rfl dX2_howManyOf_13 (fun v9 hf204 hV9 => ?_)
        obtain ⟨b205, rfl, ht_b205⟩ := hV9
        have ht_b205 : t b205 = (21, 8, 0) := ht_b205
        refine lv_iload_n hx hb dX2_howManyOf_16 rfl (lv_at hl 0 rfl) ?_
        refine tk_iald hx hb hK hG ht_b205 (by decide) (fun _ h => h) tk_no rfl (by omega) (by omega) dX2_howManyOf_17 (fun v206 hE9 _ => ?_)
        have he_v206 : 0 ≤ v206.toInt ∧ v206.toInt ≤ 1 := hE9
        refine lv_iload_n hx hb dX2_howManyOf_18 rfl (lv_at hl 3 rfl) ?_
        have hj211 : ∀ (v210 : Int32), 0 ≤ (-1) * v210.toInt + v28.toInt + 1 → 0 ≤ v210.toInt + (-1) * v28.toInt → ∀ ls : Array Slot, lv_has ls 4 [(3, .int v27), (2, .int v210), (0, .ref a0), (1, .int p1)] → W p l e ({ frames := 3, cells := 0, slots := 0, locals := 140 }) s m args below meth c H locs 0 0 (MQ below (ti D cy ld t [] (fun r H => 0 ≤ r.toInt ∧ r.toInt ≤ 8) (tk_w t [])) args s 0 0 (tk_w t [])) (F0 m 25 ls []) := by
          intro v210 hq0_j211 hq1_j211 ls hl
          obtain ⟨v212, h_v212, e_v212⟩ := tk_inc v27 1 (by decide) (by omega) (by omega)
          refine lv_iinc (v := v212) (lv' := [(3, .int v212), (2, .int v210), (0, .ref a0), (1, .int p1)]) hx hb dX2_howManyOf_25 hl (k := 0) rfl e_v212 (by decide) rfl (fun ls hl => ?_)
          refine lv_goto (tgt := 4) hx hb dX2_howManyOf_28 (by decide) ?_
          exact ih_l190 v212 v210 (by omega) (by omega) (by omega) (by omega) _ (lv_sub hl [0, 1, 2, 3] rfl)
        refine lv_icmp_ne (tgt := 25) hx hb dX2_howManyOf_19 (by decide) (fun c9 => ?_) (fun c9 => ?_)
        · have hc207 : ¬ (v206.toInt = p1.toInt) := fun h9 => c9 ((fi_eq rfl rfl).mpr h9)
          exact hj211 v28 (by omega) (by omega) _ (lv_sub hl [0, 1, 2, 3] rfl)
        · have hc207 : v206.toInt = p1.toInt := (fi_eq rfl rfl).mp c9
          obtain ⟨v213, h_v213, e_v213⟩ := tk_inc v28 1 (by decide) (by omega) (by omega)
          refine lv_iinc (v := v213) (lv' := [(2, .int v213), (3, .int v27), (0, .ref a0), (1, .int p1)]) hx hb dX2_howManyOf_22 hl (k := 1) rfl e_v213 (by decide) rfl (fun ls hl => ?_)
          exact hj211 v213 (by omega) (by omega) _ (lv_sub hl [1, 0, 2, 3] rfl)
  have hk_0 : (0 : Int32).toInt = 0 := by decide
  have hk_0 : (0 : Int32).toInt = 0 := by decide
  exact hl190 9 0 0 (by omega) (by omega) (by omega) (by omega) _ (lv_sub hl [0, 1, 2, 3] rfl)
theorem dX8_nearest_0 : decode cX8_nearest 0 = .ok (.iconst 0, 1) := by decide +kernel
theorem dX8_nearest_1 : decode cX8_nearest 1 = .ok (.iload_n 1, 1) := by decide +kernel
theorem dX8_nearest_2 : decode cX8_nearest 2 = .ok (.iload_n 0, 1) := by decide +kernel
theorem dX8_nearest_3 : decode cX8_nearest 3 = .ok (.invokestatic 132, 3) := by decide +kernel
theorem dX8_nearest_6 : decode cX8_nearest 6 = .ok (.invokestatic 92, 3) := by decide +kernel
theorem dX8_nearest_9 : decode cX8_nearest 9 = .ok (.ireturn, 1) := by decide +kernel
set_option maxHeartbeats 4000000 in
set_option maxRecDepth 100000 in
theorem k_X8_nearest (l : Launch) (D : va_G) (cy : Nat → ClassId) (ld : Nat → Nat) (t : tk_T) (X : List Nat) (p0 : Int32) (p1 : Int32) : Met l yX8_nearest (wl yX8_nearest cX8_nearest 2 (some .int)) ({ frames := 4, cells := 0, slots := 0, locals := 210 }) (tp D cy ld t X [.int p0, .int p1] (fun H => True)) (ti D cy ld t X (fun r H => 0 ≤ r.toInt) (tk_w t [])) 0 0 (tk_w t []) := by
  refine tk_met (y := yX8_nearest) (cc := cX8_nearest) (maxL := 2) (ret := (some .int)) (av := [.int p0, .int p1]) _ _ (by decide) (Nat.le_of_ble_eq_true rfl) ?_
  intro p e s m args below meth c hx hb hr hml hts htl hown hlocks hK H locs hH hG hS hB hZ ls hl
  have hown : s.vm.findClass RX8 = some m.cls := hown
  have hl : lv_has ls 2 [(0, .int p0), (1, .int p1)] := hl
  have hr_p0 := tk_rng p0
  have hr_p1 := tk_rng p1
  refine lv_iconst (v := 0) hx hb dX8_nearest_0 (by decide) ?_
  refine lv_iload_n hx hb dX8_nearest_1 rfl (lv_at hl 1 rfl) ?_
  refine lv_iload_n hx hb dX8_nearest_2 rfl (lv_at hl 0 rfl) ?_
  refine va_mmin hx hb (by rw [hml]; exact hl.1.symm) hown (htl _ mw_961) (htl _ mw_473) (htl _ mw_474) (htl _ mw_475) (Nat.le_of_ble_eq_true rfl) (Nat.le_of_ble_eq_true rfl) (Nat.le_of_ble_eq_true rfl) (Nat.le_of_ble_eq_true rfl) dX8_nearest_3 ?_
  refine tk_say (P := fun z => z.toInt ≤ p1.toInt ∧ z.toInt ≤ p0.toInt ∧ (z.toInt = p1.toInt ∨ z.toInt = p0.toInt)) (tk_min rfl rfl) (fun v1 h_v1 => ?_)
  refine va_mmax hx hb (by rw [hml]; exact hl.1.symm) hown (htl _ mw_947) (htl _ mw_948) (htl _ mw_474) (htl _ mw_949) (Nat.le_of_ble_eq_true rfl) (Nat.le_of_ble_eq_true rfl) (Nat.le_of_ble_eq_true rfl) (Nat.le_of_ble_eq_true rfl) dX8_nearest_6 ?_
  refine tk_say (P := fun z => 0 ≤ z.toInt ∧ v1.toInt ≤ z.toInt ∧ (z.toInt = 0 ∨ z.toInt = v1.toInt)) (tk_max (show (0 : Int32).toInt = 0 by decide) rfl) (fun v2 h_v2 => ?_)
  exact tk_iret (v := v2) hx hb hr rfl hlocks (show 0 ≤ v2.toInt from (by omega)) hG hS dX8_nearest_9
theorem dX8_lullByWords_0 : decode cX8_lullByWords 0 = .ok (.aload_n 0, 1) := by decide +kernel
theorem dX8_lullByWords_1 : decode cX8_lullByWords 1 = .ok (.iconst 0, 1) := by decide +kernel
theorem dX8_lullByWords_2 : decode cX8_lullByWords 2 = .ok (.invokevirtual 45, 3) := by decide +kernel
theorem dX8_lullByWords_5 : decode cX8_lullByWords 5 = .ok (.ifCond .eq 14, 3) := by decide +kernel
theorem dX8_lullByWords_19 : decode cX8_lullByWords 19 = .ok (.aload_n 0, 1) := by decide +kernel
theorem dX8_lullByWords_20 : decode cX8_lullByWords 20 = .ok (.getfield 12, 3) := by decide +kernel
theorem dX8_lullByWords_23 : decode cX8_lullByWords 23 = .ok (.getfield 48, 3) := by decide +kernel
theorem dX8_lullByWords_26 : decode cX8_lullByWords 26 = .ok (.iconst 1, 1) := by decide +kernel
theorem dX8_lullByWords_27 : decode cX8_lullByWords 27 = .ok (.iaload, 1) := by decide +kernel
theorem dX8_lullByWords_28 : decode cX8_lullByWords 28 = .ok (.aload_n 0, 1) := by decide +kernel
theorem dX8_lullByWords_29 : decode cX8_lullByWords 29 = .ok (.getfield 12, 3) := by decide +kernel
theorem dX8_lullByWords_32 : decode cX8_lullByWords 32 = .ok (.getfield 48, 3) := by decide +kernel
theorem dX8_lullByWords_35 : decode cX8_lullByWords 35 = .ok (.iconst 4, 1) := by decide +kernel
theorem dX8_lullByWords_36 : decode cX8_lullByWords 36 = .ok (.iaload, 1) := by decide +kernel
theorem dX8_lullByWords_37 : decode cX8_lullByWords 37 = .ok (.iadd, 1) := by decide +kernel
theorem dX8_lullByWords_38 : decode cX8_lullByWords 38 = .ok (.istore_n 1, 1) := by decide +kernel
theorem dX8_lullByWords_39 : decode cX8_lullByWords 39 = .ok (.aload_n 0, 1) := by decide +kernel
theorem dX8_lullByWords_40 : decode cX8_lullByWords 40 = .ok (.getfield 12, 3) := by decide +kernel
theorem dX8_lullByWords_43 : decode cX8_lullByWords 43 = .ok (.getfield 48, 3) := by decide +kernel
theorem dX8_lullByWords_46 : decode cX8_lullByWords 46 = .ok (.iconst 3, 1) := by decide +kernel
theorem dX8_lullByWords_47 : decode cX8_lullByWords 47 = .ok (.iaload, 1) := by decide +kernel
theorem dX8_lullByWords_48 : decode cX8_lullByWords 48 = .ok (.iconst 1, 1) := by decide +kernel
theorem dX8_lullByWords_49 : decode cX8_lullByWords 49 = .ok (.if_icmp .ne 9, 3) := by decide +kernel
theorem dX8_lullByWords_58 : decode cX8_lullByWords 58 = .ok (.iload_n 1, 1) := by decide +kernel
theorem dX8_lullByWords_59 : decode cX8_lullByWords 59 = .ok (.ireturn, 1) := by decide +kernel
theorem dX8_lullByWords_52 : decode cX8_lullByWords 52 = .ok (.iconst 2, 1) := by decide +kernel
theorem dX8_lullByWords_53 : decode cX8_lullByWords 53 = .ok (.iload_n 1, 1) := by decide +kernel
theorem dX8_lullByWords_54 : decode cX8_lullByWords 54 = .ok (.imul, 1) := by decide +kernel
theorem dX8_lullByWords_55 : decode cX8_lullByWords 55 = .ok (.goto 4, 3) := by decide +kernel
theorem dX8_lullByWords_8 : decode cX8_lullByWords 8 = .ok (.aload_n 0, 1) := by decide +kernel
theorem dX8_lullByWords_9 : decode cX8_lullByWords 9 = .ok (.getfield 67, 3) := by decide +kernel
theorem dX8_lullByWords_12 : decode cX8_lullByWords 12 = .ok (.sipush 999, 3) := by decide +kernel
theorem dX8_lullByWords_15 : decode cX8_lullByWords 15 = .ok (.invokestatic 70, 3) := by decide +kernel
theorem dX8_lullByWords_18 : decode cX8_lullByWords 18 = .ok (.ireturn, 1) := by decide +kernel
set_option maxHeartbeats 4000000 in
set_option maxRecDepth 100000 in
theorem k_X8_lullByWords (l : Launch) (D : va_G) (cy : Nat → ClassId) (ld : Nat → Nat) (t : tk_T) (a0 : Nat) (ht_a0 : t a0 = (9, 0, 0)) : Met l yX8_lullByWords (wl yX8_lullByWords cX8_lullByWords 2 (some .int)) ({ frames := 5, cells := 0, slots := 0, locals := 280 }) (tp D cy ld t [] [.ref a0] (fun H => True)) (ti D cy ld t [] (fun r H => True) (tk_w t [(12, 0, 0), (20, 0, 0), (9, 0, 0)])) 0 0 (tk_w t [(12, 0, 0), (20, 0, 0), (9, 0, 0)]) := by
  refine tk_met (y := yX8_lullByWords) (cc := cX8_lullByWords) (maxL := 2) (ret := (some .int)) (av := [.ref a0]) _ _ (by decide) (Nat.le_of_ble_eq_true rfl) ?_
  intro p e s m args below meth c hx hb hr hml hts htl hown hlocks hK H locs hH hG hS hB hZ ls hl
  have hown : s.vm.findClass RX8 = some m.cls := hown
  have hl : lv_has ls 2 [(0, .ref a0)] := hl
  refine lv_aload_n hx hb dX8_lullByWords_0 rfl (lv_at hl 0 rfl) ?_
  refine lv_iconst (v := 0) hx hb dX8_lullByWords_1 (by decide) ?_
  have hk_0 : (0 : Int32).toInt = 0 := by decide
  refine tk_Vi (As := [.int 0]) (rest := []) (ci := 8) ⟨hx, hb, hml, hown, hts⟩ hK hG hZ hS (k_X8_isTold l D cy ld t a0 0 ht_a0) trivial ⟨callB_of 1 hts (wl_in mw_935) rfl rfl rfl (htl _ mw_21) (htl _ mw_932) hd_yX8_isTold ⟨(Nat.le_of_ble_eq_true rfl), (Nat.le_of_ble_eq_true rfl)⟩, htl _ mw_933, htl _ mw_934⟩ ht_a0 (by decide) tk_no rfl (tk_w.pick [0, 1, 2] rfl) rfl hl.1 rfl (Nat.le_of_ble_eq_true rfl) dX8_lullByWords_2 ⟨(Nat.le_of_ble_eq_true rfl), (Nat.le_of_ble_eq_true rfl)⟩ (fun v1 H locs hpo hG hS hq9 => ?_)
  obtain ⟨hpo3, hpo4, hpo5, hpo6⟩ := hpo
  refine lv_if_eq (tgt := 19) hx hb dX8_lullByWords_5 (by decide) (fun c9 => ?_) (fun c9 => ?_)
  · have hc7 : v1.toInt = 0 := (fi_eq rfl (show (0 : Int32).toInt = 0 by decide)).mp c9
    refine lv_aload_n hx hb dX8_lullByWords_19 rfl (lv_at hl 0 rfl) ?_
    refine tk_get (ci := 8) (C := RX8) (T := TX8) (N := 3) (sp := (6, 12, 0, 0)) hx hb htl inX8 hown hK hG ht_a0 (by decide) tk_no rfl 0 (by decide) (htl _ mw_96) (fun _ h9 => h9) rfl dX8_lullByWords_20 (fun v9 hf8 hV9 => ?_)
    obtain ⟨b9, rfl, ht_b9⟩ := hV9
    have ht_b9 : t b9 = (12, 0, 0) := ht_b9
    refine tk_get (ci := 11) (C := RX11) (T := TX11) (N := 3) (sp := (6, 20, 15, 0)) hx hb htl inX11 hown hK hG ht_b9 (by decide) tk_no rfl 0 (by decide) (htl _ mw_917) (fun _ h9 => h9) rfl dX8_lullByWords_23 (fun v9 hf10 hV9 => ?_)
    obtain ⟨b11, rfl, ht_b11⟩ := hV9
    have ht_b11 : t b11 = (20, 15, 0) := ht_b11
    refine lv_iconst (v := 1) hx hb dX8_lullByWords_26 (by decide) ?_
    refine tk_iald hx hb hK hG ht_b11 (by decide) (fun _ h => h) tk_no (I := 1) (by decide) (by decide) (by decide) dX8_lullByWords_27 (fun v12 _ _ => ?_)
    have hr_v12 := tk_rng v12
    refine lv_aload_n hx hb dX8_lullByWords_28 rfl (lv_at hl 0 rfl) ?_
    refine tk_get (ci := 8) (C := RX8) (T := TX8) (N := 3) (sp := (6, 12, 0, 0)) hx hb htl inX8 hown hK hG ht_a0 (by decide) tk_no rfl 0 (by decide) (htl _ mw_96) (fun _ h9 => h9) rfl dX8_lullByWords_29 (fun v9 hf13 hV9 => ?_)
    obtain ⟨b14, rfl, ht_b14⟩ := hV9
    have ht_b14 : t b14 = (12, 0, 0) := ht_b14
    refine tk_get (ci := 11) (C := RX11) (T := TX11) (N := 3) (sp := (6, 20, 15, 0)) hx hb htl inX11 hown hK hG ht_b14 (by decide) tk_no rfl 0 (by decide) (htl _ mw_917) (fun _ h9 => h9) rfl dX8_lullByWords_32 (fun v9 hf15 hV9 => ?_)
    obtain ⟨b16, rfl, ht_b16⟩ := hV9
    have ht_b16 : t b16 = (20, 15, 0) := ht_b16
    refine lv_iconst (v := 4) hx hb dX8_lullByWords_35 (by decide) ?_
    refine tk_iald hx hb hK hG ht_b16 (by decide) (fun _ h => h) tk_no (I := 4) (by decide) (by decide) (by decide) dX8_lullByWords_36 (fun v17 _ _ => ?_)
    have hr_v17 := tk_rng v17
    refine lv_iadd hx hb dX8_lullByWords_37 ?_
    obtain ⟨v18, hm_v18⟩ : ∃ z : Int32, v12 + v17 = z := ⟨_, rfl⟩
    refine fx_ti hm_v18 ?_
    refine lv_istore_n (lv' := [(1, .int v18), (0, .ref a0)]) hx hb dX8_lullByWords_38 rfl hl (by decide) rfl (fun ls hl => ?_)
    refine lv_aload_n hx hb dX8_lullByWords_39 rfl (lv_at hl 1 rfl) ?_
    refine tk_get (ci := 8) (C := RX8) (T := TX8) (N := 3) (sp := (6, 12, 0, 0)) hx hb htl inX8 hown hK hG ht_a0 (by decide) tk_no rfl 0 (by decide) (htl _ mw_96) (fun _ h9 => h9) rfl dX8_lullByWords_40 (fun v9 hf19 hV9 => ?_)
    obtain ⟨b20, rfl, ht_b20⟩ := hV9
    have ht_b20 : t b20 = (12, 0, 0) := ht_b20
    refine tk_get (ci := 11) (C := RX11) (T := TX11) (N := 3) (sp := (6, 20, 15, 0)) hx hb htl inX11 hown hK hG ht_b20 (by decide) tk_no rfl 0 (by decide) (htl _ mw_917) (fun _ h9 => h9) rfl dX8_lullByWords_43 (fun v9 hf21 hV9 => ?_)
    obtain ⟨b22, rfl, ht_b22⟩ := hV9
    have ht_b22 : t b22 = (20, 15, 0) := ht_b22
    refine lv_iconst (v := 3) hx hb dX8_lullByWords_46 (by decide) ?_
    refine tk_iald hx hb hK hG ht_b22 (by decide) (fun _ h => h) tk_no (I := 3) (by decide) (by decide) (by decide) dX8_lullByWords_47 (fun v23 _ _ => ?_)
    have hr_v23 := tk_rng v23
    refine lv_iconst (v := 1) hx hb dX8_lullByWords_48 (by decide) ?_
    refine lv_icmp_ne (tgt := 58) hx hb dX8_lullByWords_49 (by decide) (fun c9 => ?_) (fun c9 => ?_)
    · have hc24 : ¬ (v23.toInt = 1) := fun h9 => c9 ((fi_eq rfl (show (1 : Int32).toInt = 1 by decide)).mpr h9)
      refine lv_iload_n hx hb dX8_lullByWords_58 rfl (lv_at hl 0 rfl) ?_
      exact tk_iret (v := v18) hx hb hr rfl hlocks trivial hG hS dX8_lullByWords_59
    · have hc24 : v23.toInt = 1 := (fi_eq rfl (show (1 : Int32).toInt = 1 by decide)).mp c9
      refine lv_iconst (v := 2) hx hb dX8_lullByWords_52 (by decide) ?_
      refine lv_iload_n hx hb dX8_lullByWords_53 rfl (lv_at hl 0 rfl) ?_
      refine lv_imul hx hb dX8_lullByWords_54 ?_
      obtain ⟨v25, hm_v25⟩ : ∃ z : Int32, 2 * v18 = z := ⟨_, rfl⟩
      refine fx_ti hm_v25 ?_
      refine lv_goto (tgt := 59) hx hb dX8_lullByWords_55 (by decide) ?_
      exact tk_iret (v := v25) hx hb hr rfl hlocks trivial hG hS dX8_lullByWords_59
  · have hc7 : ¬ (v1.toInt = 0) := fun h9 => c9 ((fi_eq rfl (show (0 : Int32).toInt = 0 by decide)).mpr h9)
    refine lv_aload_n hx hb dX8_lullByWords_8 rfl (lv_at hl 0 rfl) ?_
    refine tk_get (ci := 8) (C := RX8) (T := TX8) (N := 3) (sp := (0, (-2147483648), 2147483647, 0)) hx hb htl inX8 hown hK hG ht_a0 (by decide) tk_no rfl 2 (by decide) (htl _ mw_939) (fun _ h9 => h9) rfl dX8_lullByWords_9 (fun v9 hf26 hV9 => ?_)
    obtain ⟨v27, rfl, (ha_v27 : (-2147483648) ≤ v27.toInt), (hb_v27 : v27.toInt ≤ 2147483647)⟩ := hV9
    refine lv_sipush (v := 999) hx hb dX8_lullByWords_12 (by decide) ?_
    have hk_999 : (999 : Int32).toInt = 999 := by decide
    refine tk_Si (As := [.int v27, .int 999]) (rest := []) ⟨hx, hb, hml, hown, hts⟩ hK hG hZ hS (k_X8_nearest l D cy ld t _ v27 999) trivial ⟨callB_of 2 hts (wl_in mw_960) rfl rfl rfl (htl _ mw_21) (htl _ mw_958) hd_yX8_nearest ⟨(Nat.le_of_ble_eq_true rfl), (Nat.le_of_ble_eq_true rfl)⟩, htl _ mw_959⟩ (tk_w.pick [] rfl) rfl hl.1 rfl (Nat.le_of_ble_eq_true rfl) dX8_lullByWords_15 ⟨(Nat.le_of_ble_eq_true rfl), (Nat.le_of_ble_eq_true rfl)⟩ (fun v28 H locs hpo hG hS hq9 => ?_)
    have hpo30 := hpo
    exact tk_iret (v := v28) hx hb hr rfl hlocks trivial hG hS dX8_lullByWords_18
theorem dX8_tireByWords_0 : decode cX8_tireByWords 0 = .ok (.aload_n 0, 1) := by decide +kernel
theorem dX8_tireByWords_1 : decode cX8_tireByWords 1 = .ok (.iconst 1, 1) := by decide +kernel
theorem dX8_tireByWords_2 : decode cX8_tireByWords 2 = .ok (.invokevirtual 45, 3) := by decide +kernel
theorem dX8_tireByWords_5 : decode cX8_tireByWords 5 = .ok (.ifCond .eq 15, 3) := by decide +kernel
theorem dX8_tireByWords_20 : decode cX8_tireByWords 20 = .ok (.aload_n 0, 1) := by decide +kernel
theorem dX8_tireByWords_21 : decode cX8_tireByWords 21 = .ok (.getfield 12, 3) := by decide +kernel
theorem dX8_tireByWords_24 : decode cX8_tireByWords 24 = .ok (.getfield 48, 3) := by decide +kernel
theorem dX8_tireByWords_27 : decode cX8_tireByWords 27 = .ok (.iconst 1, 1) := by decide +kernel
theorem dX8_tireByWords_28 : decode cX8_tireByWords 28 = .ok (.iaload, 1) := by decide +kernel
theorem dX8_tireByWords_29 : decode cX8_tireByWords 29 = .ok (.iconst 4, 1) := by decide +kernel
theorem dX8_tireByWords_30 : decode cX8_tireByWords 30 = .ok (.idiv, 1) := by decide +kernel
theorem dX8_tireByWords_31 : decode cX8_tireByWords 31 = .ok (.ireturn, 1) := by decide +kernel
theorem dX8_tireByWords_8 : decode cX8_tireByWords 8 = .ok (.aload_n 0, 1) := by decide +kernel
theorem dX8_tireByWords_9 : decode cX8_tireByWords 9 = .ok (.getfield 67, 3) := by decide +kernel
theorem dX8_tireByWords_12 : decode cX8_tireByWords 12 = .ok (.bipush 99, 2) := by decide +kernel
theorem dX8_tireByWords_14 : decode cX8_tireByWords 14 = .ok (.invokestatic 70, 3) := by decide +kernel
theorem dX8_tireByWords_17 : decode cX8_tireByWords 17 = .ok (.goto 14, 3) := by decide +kernel
set_option maxHeartbeats 4000000 in
set_option maxRecDepth 100000 in
theorem k_X8_tireByWords (l : Launch) (D : va_G) (cy : Nat → ClassId) (ld : Nat → Nat) (t : tk_T) (a0 : Nat) (ht_a0 : t a0 = (9, 0, 0)) : Met l yX8_tireByWords (wl yX8_tireByWords cX8_tireByWords 1 (some .int)) ({ frames := 5, cells := 0, slots := 0, locals := 280 }) (tp D cy ld t [] [.ref a0] (fun H => True)) (ti D cy ld t [] (fun r H => True) (tk_w t [(12, 0, 0), (20, 0, 0), (9, 0, 0)])) 0 0 (tk_w t [(12, 0, 0), (20, 0, 0), (9, 0, 0)]) := by
  refine tk_met (y := yX8_tireByWords) (cc := cX8_tireByWords) (maxL := 1) (ret := (some .int)) (av := [.ref a0]) _ _ (by decide) (Nat.le_of_ble_eq_true rfl) ?_
  intro p e s m args below meth c hx hb hr hml hts htl hown hlocks hK H locs hH hG hS hB hZ ls hl
  have hown : s.vm.findClass RX8 = some m.cls := hown
  have hl : lv_has ls 1 [(0, .ref a0)] := hl
  refine lv_aload_n hx hb dX8_tireByWords_0 rfl (lv_at hl 0 rfl) ?_
  refine lv_iconst (v := 1) hx hb dX8_tireByWords_1 (by decide) ?_
  have hk_1 : (1 : Int32).toInt = 1 := by decide
  refine tk_Vi (As := [.int 1]) (rest := []) (ci := 8) ⟨hx, hb, hml, hown, hts⟩ hK hG hZ hS (k_X8_isTold l D cy ld t a0 1 ht_a0) trivial ⟨callB_of 1 hts (wl_in mw_935) rfl rfl rfl (htl _ mw_21) (htl _ mw_932) hd_yX8_isTold ⟨(Nat.le_of_ble_eq_true rfl), (Nat.le_of_ble_eq_true rfl)⟩, htl _ mw_933, htl _ mw_934⟩ ht_a0 (by decide) tk_no rfl (tk_w.pick [0, 1, 2] rfl) rfl hl.1 rfl (Nat.le_of_ble_eq_true rfl) dX8_tireByWords_2 ⟨(Nat.le_of_ble_eq_true rfl), (Nat.le_of_ble_eq_true rfl)⟩ (fun v1 H locs hpo hG hS hq9 => ?_)
  obtain ⟨hpo3, hpo4, hpo5, hpo6⟩ := hpo
  refine lv_if_eq (tgt := 20) hx hb dX8_tireByWords_5 (by decide) (fun c9 => ?_) (fun c9 => ?_)
  · have hc7 : v1.toInt = 0 := (fi_eq rfl (show (0 : Int32).toInt = 0 by decide)).mp c9
    refine lv_aload_n hx hb dX8_tireByWords_20 rfl (lv_at hl 0 rfl) ?_
    refine tk_get (ci := 8) (C := RX8) (T := TX8) (N := 3) (sp := (6, 12, 0, 0)) hx hb htl inX8 hown hK hG ht_a0 (by decide) tk_no rfl 0 (by decide) (htl _ mw_96) (fun _ h9 => h9) rfl dX8_tireByWords_21 (fun v9 hf8 hV9 => ?_)
    obtain ⟨b9, rfl, ht_b9⟩ := hV9
    have ht_b9 : t b9 = (12, 0, 0) := ht_b9
    refine tk_get (ci := 11) (C := RX11) (T := TX11) (N := 3) (sp := (6, 20, 15, 0)) hx hb htl inX11 hown hK hG ht_b9 (by decide) tk_no rfl 0 (by decide) (htl _ mw_917) (fun _ h9 => h9) rfl dX8_tireByWords_24 (fun v9 hf10 hV9 => ?_)
    obtain ⟨b11, rfl, ht_b11⟩ := hV9
    have ht_b11 : t b11 = (20, 15, 0) := ht_b11
    refine lv_iconst (v := 1) hx hb dX8_tireByWords_27 (by decide) ?_
    refine tk_iald hx hb hK hG ht_b11 (by decide) (fun _ h => h) tk_no (I := 1) (by decide) (by decide) (by decide) dX8_tireByWords_28 (fun v12 _ _ => ?_)
    have hr_v12 := tk_rng v12
    refine lv_iconst (v := 4) hx hb dX8_tireByWords_29 (by decide) ?_
    refine lv_idiv hx hb dX8_tireByWords_30 (by decide) ?_
    refine tk_any (fun v13 => ?_)
    exact tk_iret (v := v13) hx hb hr rfl hlocks trivial hG hS dX8_tireByWords_31
  · have hc7 : ¬ (v1.toInt = 0) := fun h9 => c9 ((fi_eq rfl (show (0 : Int32).toInt = 0 by decide)).mpr h9)
    refine lv_aload_n hx hb dX8_tireByWords_8 rfl (lv_at hl 0 rfl) ?_
    refine tk_get (ci := 8) (C := RX8) (T := TX8) (N := 3) (sp := (0, (-2147483648), 2147483647, 0)) hx hb htl inX8 hown hK hG ht_a0 (by decide) tk_no rfl 2 (by decide) (htl _ mw_939) (fun _ h9 => h9) rfl dX8_tireByWords_9 (fun v9 hf14 hV9 => ?_)
    obtain ⟨v15, rfl, (ha_v15 : (-2147483648) ≤ v15.toInt), (hb_v15 : v15.toInt ≤ 2147483647)⟩ := hV9
    refine lv_bipush (v := 99) hx hb dX8_tireByWords_12 (by decide) ?_
    have hk_99 : (99 : Int32).toInt = 99 := by decide
    refine tk_Si (As := [.int v15, .int 99]) (rest := []) ⟨hx, hb, hml, hown, hts⟩ hK hG hZ hS (k_X8_nearest l D cy ld t _ v15 99) trivial ⟨callB_of 2 hts (wl_in mw_960) rfl rfl rfl (htl _ mw_21) (htl _ mw_958) hd_yX8_nearest ⟨(Nat.le_of_ble_eq_true rfl), (Nat.le_of_ble_eq_true rfl)⟩, htl _ mw_959⟩ (tk_w.pick [] rfl) rfl hl.1 rfl (Nat.le_of_ble_eq_true rfl) dX8_tireByWords_14 ⟨(Nat.le_of_ble_eq_true rfl), (Nat.le_of_ble_eq_true rfl)⟩ (fun v16 H locs hpo hG hS hq9 => ?_)
    have hpo18 := hpo
    refine lv_goto (tgt := 31) hx hb dX8_tireByWords_17 (by decide) ?_
    exact tk_iret (v := v16) hx hb hr rfl hlocks trivial hG hS dX8_tireByWords_31
theorem dX9_closeDuel_0 : decode cX9_closeDuel 0 = .ok (.aload_n 0, 1) := by decide +kernel
theorem dX9_closeDuel_1 : decode cX9_closeDuel 1 = .ok (.iconst (-1), 1) := by decide +kernel
theorem dX9_closeDuel_2 : decode cX9_closeDuel 2 = .ok (.putfield 24, 3) := by decide +kernel
theorem dX9_closeDuel_5 : decode cX9_closeDuel 5 = .ok (.aload_n 0, 1) := by decide +kernel
theorem dX9_closeDuel_6 : decode cX9_closeDuel 6 = .ok (.iconst (-1), 1) := by decide +kernel
theorem dX9_closeDuel_7 : decode cX9_closeDuel 7 = .ok (.putfield 28, 3) := by decide +kernel
theorem dX9_closeDuel_10 : decode cX9_closeDuel 10 = .ok (.return_, 1) := by decide +kernel
set_option maxHeartbeats 4000000 in
set_option maxRecDepth 100000 in
theorem k_X9_closeDuel (l : Launch) (D : va_G) (cy : Nat → ClassId) (ld : Nat → Nat) (t : tk_T) (rg0 : Nat) (a0 : Nat) (ht_a0 : t a0 = (10, 0, rg0)) : Met l yX9_closeDuel (wl yX9_closeDuel cX9_closeDuel 1 none) ({ frames := 3, cells := 0, slots := 0, locals := 140 }) (tp D cy ld t [] [.ref a0] (fun H => True)) (tv D cy ld t [] (fun H => tk_f D H a0 9 5 (.int (-1))) (tk_w t [(10, rg0, rg0)])) 0 0 (tk_w t [(10, rg0, rg0)]) := by
  refine tk_met (y := yX9_closeDuel) (cc := cX9_closeDuel) (maxL := 1) (ret := none) (av := [.ref a0]) _ _ (by decide) (Nat.le_of_ble_eq_true rfl) ?_
  intro p e s m args below meth c hx hb hr hml hts htl hown hlocks hK H locs hH hG hS hB hZ ls hl
  have hown : s.vm.findClass RX9 = some m.cls := hown
  have hl : lv_has ls 1 [(0, .ref a0)] := hl
  obtain ⟨b1, b2, b3, b4, v5, v6, v7, v8, v9, v10, v11, hat, ht_b1, ht_b2, ht_b3, ht_b4, ha_v5, hb_v5, ha_v6, hb_v6, ha_v7, hb_v7, ha_v8, hb_v8, ha_v9, hb_v9, ha_v10, hb_v10, ha_v11, hb_v11, hxx9⟩ := tk_op9 hG ht_a0
  have hG := hG.hole (a := a0)
  refine lv_aload_n hx hb dX9_closeDuel_0 rfl (lv_at hl 0 rfl) ?_
  refine lv_iconst (v := (-1)) hx hb dX9_closeDuel_1 (by decide) ?_
  refine tk_put0 (ci := 9) (v := .int (-1)) (ty := .int) (C := RX9) (T := TX9) (N := 11) hx hb htl inX9 tyX9 tyX9_ok nmX9 hown hK hat rfl 5 (by decide) (htl _ mw_86) (fun _ h9 => h9) rfl (tyX9_ok 5 (by decide)) rfl rfl (Nat.le_of_ble_eq_true rfl) dX9_closeDuel_2 (fun H j9 hat z9 hq9 => ?_)
  have hS := hS.put (k := j9) z9 hq9 (tk_w.of ht_a0 (by decide) (List.mem_of_getElem? (i := 0) rfl) (Nat.le_refl _) (Nat.le_refl _))
  have hG := hG.ajar (List.mem_singleton.mpr rfl) hq9
  have hat : va_at D vwCl (a0, .inr (9, [.ref b1, .ref b2, .ref b3, .ref b4, .int v5, .int (-1), .int v7, .int v8, .int v9, .int v10, .int v11])) H := hat
  generalize locs ++ [_] = locs at hS ⊢
  refine lv_aload_n hx hb dX9_closeDuel_5 rfl (lv_at hl 0 rfl) ?_
  refine lv_iconst (v := (-1)) hx hb dX9_closeDuel_6 (by decide) ?_
  refine tk_put0 (ci := 9) (v := .int (-1)) (ty := .int) (C := RX9) (T := TX9) (N := 11) hx hb htl inX9 tyX9 tyX9_ok nmX9 hown hK hat rfl 6 (by decide) (htl _ mw_87) (fun _ h9 => h9) rfl (tyX9_ok 6 (by decide)) rfl rfl (Nat.le_of_ble_eq_true rfl) dX9_closeDuel_7 (fun H j9 hat z9 hq9 => ?_)
  have hS := hS.put (k := j9) z9 hq9 (tk_w.of ht_a0 (by decide) (List.mem_of_getElem? (i := 0) rfl) (Nat.le_refl _) (Nat.le_refl _))
  have hG := hG.ajar (List.mem_singleton.mpr rfl) hq9
  have hat : va_at D vwCl (a0, .inr (9, [.ref b1, .ref b2, .ref b3, .ref b4, .int v5, .int (-1), .int (-1), .int v8, .int v9, .int v10, .int v11])) H := hat
  generalize locs ++ [_] = locs at hS ⊢
  have hk_m1 : ((-1) : Int32).toInt = (-1) := by decide
  have hk_m1 : ((-1) : Int32).toInt = (-1) := by decide
  have hG := tk_cl9 hG ht_a0 hat ht_b1 ht_b2 ht_b3 ht_b4 (tk_rng _).1 (tk_rng _).2 (by omega) (by omega) (by omega) (by omega) (tk_rng _).1 (tk_rng _).2 (tk_rng _).1 (tk_rng _).2 (by omega) (by omega) (tk_rng _).1 (tk_rng _).2 (by omega)
  have hf14 : tk_f D H a0 9 5 (.int (-1)) := tk_f.of hat (C := RX9) (T := TX9) (N := 11) rfl (by decide) rfl
  exact tk_vret hx hb hr hlocks (show tk_f D H a0 9 5 (.int (-1)) from hf14) hG hS dX9_closeDuel_10
theorem dX9_moveCows_0 : decode cX9_moveCows 0 = .ok (.aload_n 0, 1) := by decide +kernel
theorem dX9_moveCows_1 : decode cX9_moveCows 1 = .ok (.getfield 21, 3) := by decide +kernel
theorem dX9_moveCows_4 : decode cX9_moveCows 4 = .ok (.iload_n 1, 1) := by decide +kernel
theorem dX9_moveCows_5 : decode cX9_moveCows 5 = .ok (.sipush 9999, 3) := by decide +kernel
theorem dX9_moveCows_8 : decode cX9_moveCows 8 = .ok (.aload_n 0, 1) := by decide +kernel
theorem dX9_moveCows_9 : decode cX9_moveCows 9 = .ok (.getfield 21, 3) := by decide +kernel
theorem dX9_moveCows_12 : decode cX9_moveCows 12 = .ok (.iload_n 1, 1) := by decide +kernel
theorem dX9_moveCows_13 : decode cX9_moveCows 13 = .ok (.iaload, 1) := by decide +kernel
theorem dX9_moveCows_14 : decode cX9_moveCows 14 = .ok (.aload_n 0, 1) := by decide +kernel
theorem dX9_moveCows_15 : decode cX9_moveCows 15 = .ok (.getfield 43, 3) := by decide +kernel
theorem dX9_moveCows_18 : decode cX9_moveCows 18 = .ok (.iadd, 1) := by decide +kernel
theorem dX9_moveCows_19 : decode cX9_moveCows 19 = .ok (.invokestatic 56, 3) := by decide +kernel
theorem dX9_moveCows_22 : decode cX9_moveCows 22 = .ok (.iastore, 1) := by decide +kernel
theorem dX9_moveCows_23 : decode cX9_moveCows 23 = .ok (.aload_n 0, 1) := by decide +kernel
theorem dX9_moveCows_24 : decode cX9_moveCows 24 = .ok (.getfield 21, 3) := by decide +kernel
theorem dX9_moveCows_27 : decode cX9_moveCows 27 = .ok (.iload_n 2, 1) := by decide +kernel
theorem dX9_moveCows_28 : decode cX9_moveCows 28 = .ok (.iconst 0, 1) := by decide +kernel
theorem dX9_moveCows_29 : decode cX9_moveCows 29 = .ok (.aload_n 0, 1) := by decide +kernel
theorem dX9_moveCows_30 : decode cX9_moveCows 30 = .ok (.getfield 21, 3) := by decide +kernel
theorem dX9_moveCows_33 : decode cX9_moveCows 33 = .ok (.iload_n 2, 1) := by decide +kernel
theorem dX9_moveCows_34 : decode cX9_moveCows 34 = .ok (.iaload, 1) := by decide +kernel
theorem dX9_moveCows_35 : decode cX9_moveCows 35 = .ok (.aload_n 0, 1) := by decide +kernel
theorem dX9_moveCows_36 : decode cX9_moveCows 36 = .ok (.getfield 43, 3) := by decide +kernel
theorem dX9_moveCows_39 : decode cX9_moveCows 39 = .ok (.isub, 1) := by decide +kernel
theorem dX9_moveCows_40 : decode cX9_moveCows 40 = .ok (.invokestatic 62, 3) := by decide +kernel
theorem dX9_moveCows_43 : decode cX9_moveCows 43 = .ok (.iastore, 1) := by decide +kernel
theorem dX9_moveCows_44 : decode cX9_moveCows 44 = .ok (.return_, 1) := by decide +kernel
set_option maxHeartbeats 4000000 in
set_option maxRecDepth 100000 in
theorem k_X9_moveCows (l : Launch) (D : va_G) (cy : Nat → ClassId) (ld : Nat → Nat) (t : tk_T) (rg0 : Nat) (a0 : Nat) (p1 : Int32) (p2 : Int32) (ht_a0 : t a0 = (10, 0, rg0)) (hp_0 : 0 ≤ p1.toInt) (hp_1 : p1.toInt ≤ 1) (hp_2 : 0 ≤ p2.toInt) (hp_3 : p2.toInt ≤ 1) : Met l yX9_moveCows (wl yX9_moveCows cX9_moveCows 3 none) ({ frames := 4, cells := 0, slots := 0, locals := 210 }) (tp D cy ld t [] [.ref a0, .int p1, .int p2] (fun H => True)) (tv D cy ld t [] (fun H => True) (tk_w t [(20, rg0, rg0)])) 0 0 (tk_w t [(20, rg0, rg0)]) := by
  refine tk_met (y := yX9_moveCows) (cc := cX9_moveCows) (maxL := 3) (ret := none) (av := [.ref a0, .int p1, .int p2]) _ _ (by decide) (Nat.le_of_ble_eq_true rfl) ?_
  intro p e s m args below meth c hx hb hr hml hts htl hown hlocks hK H locs hH hG hS hB hZ ls hl
  have hown : s.vm.findClass RX9 = some m.cls := hown
  have hl : lv_has ls 3 [(0, .ref a0), (1, .int p1), (2, .int p2)] := hl
  have hr_p1 := tk_rng p1
  have hr_p2 := tk_rng p2
  refine lv_aload_n hx hb dX9_moveCows_0 rfl (lv_at hl 0 rfl) ?_
  refine tk_get (ci := 9) (C := RX9) (T := TX9) (N := 11) (sp := (1, 20, 2, 0)) hx hb htl inX9 hown hK hG ht_a0 (by decide) tk_no rfl 3 (by decide) (htl _ mw_85) (fun _ h9 => h9) rfl dX9_moveCows_1 (fun v9 hf1 hV9 => ?_)
  obtain ⟨b2, rfl, ht_b2⟩ := hV9
  have ht_b2 : t b2 = (20, 2, rg0) := ht_b2
  refine lv_iload_n hx hb dX9_moveCows_4 rfl (lv_at hl 1 rfl) ?_
  refine lv_sipush (v := 9999) hx hb dX9_moveCows_5 (by decide) ?_
  refine lv_aload_n hx hb dX9_moveCows_8 rfl (lv_at hl 0 rfl) ?_
  refine tk_get (ci := 9) (C := RX9) (T := TX9) (N := 11) (sp := (1, 20, 2, 0)) hx hb htl inX9 hown hK hG ht_a0 (by decide) tk_no rfl 3 (by decide) (htl _ mw_85) (fun _ h9 => h9) rfl dX9_moveCows_9 (fun v9 hf3 hV9 => ?_)
  obtain ⟨b4, rfl, ht_b4⟩ := hV9
  have ht_b4 : t b4 = (20, 2, rg0) := ht_b4
  refine lv_iload_n hx hb dX9_moveCows_12 rfl (lv_at hl 1 rfl) ?_
  refine tk_iald hx hb hK hG ht_b4 (by decide) (fun _ h => h) tk_no rfl (by omega) (by omega) dX9_moveCows_13 (fun v5 _ _ => ?_)
  have hr_v5 := tk_rng v5
  refine lv_aload_n hx hb dX9_moveCows_14 rfl (lv_at hl 0 rfl) ?_
  refine tk_get (ci := 9) (C := RX9) (T := TX9) (N := 11) (sp := (0, (-2147483648), 2147483647, 0)) hx hb htl inX9 hown hK hG ht_a0 (by decide) tk_no rfl 7 (by decide) (htl _ mw_824) (fun _ h9 => h9) rfl dX9_moveCows_15 (fun v9 hf6 hV9 => ?_)
  obtain ⟨v7, rfl, (ha_v7 : (-2147483648) ≤ v7.toInt), (hb_v7 : v7.toInt ≤ 2147483647)⟩ := hV9
  refine lv_iadd hx hb dX9_moveCows_18 ?_
  obtain ⟨v8, hm_v8⟩ : ∃ z : Int32, v5 + v7 = z := ⟨_, rfl⟩
  refine fx_ti hm_v8 ?_
  refine va_mmin hx hb (by rw [hml]; exact hl.1.symm) hown (htl _ mw_970) (htl _ mw_473) (htl _ mw_474) (htl _ mw_475) (Nat.le_of_ble_eq_true rfl) (Nat.le_of_ble_eq_true rfl) (Nat.le_of_ble_eq_true rfl) (Nat.le_of_ble_eq_true rfl) dX9_moveCows_19 ?_
  refine tk_say (P := fun z => z.toInt ≤ 9999 ∧ z.toInt ≤ v8.toInt ∧ (z.toInt = 9999 ∨ z.toInt = v8.toInt)) (tk_min (show (9999 : Int32).toInt = 9999 by decide) rfl) (fun v9 h_v9 => ?_)
  refine tk_iast hx hb hK hG hS ht_b2 (by decide) (fun _ => Iff.rfl) tk_no rfl (by omega) (by omega) trivial (tk_w.of ht_b2 (by decide) (List.mem_of_getElem? (i := 0) rfl) (Nat.le_refl _) (Nat.le_refl _)) dX9_moveCows_22 (fun H locs hG hS hq9 => ?_)
  refine lv_aload_n hx hb dX9_moveCows_23 rfl (lv_at hl 0 rfl) ?_
  refine tk_get (ci := 9) (C := RX9) (T := TX9) (N := 11) (sp := (1, 20, 2, 0)) hx hb htl inX9 hown hK hG ht_a0 (by decide) tk_no rfl 3 (by decide) (htl _ mw_85) (fun _ h9 => h9) rfl dX9_moveCows_24 (fun v9 hf11 hV9 => ?_)
  obtain ⟨b12, rfl, ht_b12⟩ := hV9
  have ht_b12 : t b12 = (20, 2, rg0) := ht_b12
  refine lv_iload_n hx hb dX9_moveCows_27 rfl (lv_at hl 2 rfl) ?_
  refine lv_iconst (v := 0) hx hb dX9_moveCows_28 (by decide) ?_
  refine lv_aload_n hx hb dX9_moveCows_29 rfl (lv_at hl 0 rfl) ?_
  refine tk_get (ci := 9) (C := RX9) (T := TX9) (N := 11) (sp := (1, 20, 2, 0)) hx hb htl inX9 hown hK hG ht_a0 (by decide) tk_no rfl 3 (by decide) (htl _ mw_85) (fun _ h9 => h9) rfl dX9_moveCows_30 (fun v9 hf13 hV9 => ?_)
  obtain ⟨b14, rfl, ht_b14⟩ := hV9
  have ht_b14 : t b14 = (20, 2, rg0) := ht_b14
  refine lv_iload_n hx hb dX9_moveCows_33 rfl (lv_at hl 2 rfl) ?_
  refine tk_iald hx hb hK hG ht_b14 (by decide) (fun _ h => h) tk_no rfl (by omega) (by omega) dX9_moveCows_34 (fun v15 _ _ => ?_)
  have hr_v15 := tk_rng v15
  refine lv_aload_n hx hb dX9_moveCows_35 rfl (lv_at hl 0 rfl) ?_
  refine tk_get (ci := 9) (C := RX9) (T := TX9) (N := 11) (sp := (0, (-2147483648), 2147483647, 0)) hx hb htl inX9 hown hK hG ht_a0 (by decide) tk_no rfl 7 (by decide) (htl _ mw_824) (fun _ h9 => h9) rfl dX9_moveCows_36 (fun v9 hf16 hV9 => ?_)
  obtain ⟨v17, rfl, (ha_v17 : (-2147483648) ≤ v17.toInt), (hb_v17 : v17.toInt ≤ 2147483647)⟩ := hV9
  refine lv_isub hx hb dX9_moveCows_39 ?_
  obtain ⟨v18, hm_v18⟩ : ∃ z : Int32, v15 - v17 = z := ⟨_, rfl⟩
  refine fx_ti hm_v18 ?_
  refine va_mmax hx hb (by rw [hml]; exact hl.1.symm) hown (htl _ mw_971) (htl _ mw_948) (htl _ mw_474) (htl _ mw_949) (Nat.le_of_ble_eq_true rfl) (Nat.le_of_ble_eq_true rfl) (Nat.le_of_ble_eq_true rfl) (Nat.le_of_ble_eq_true rfl) dX9_moveCows_40 ?_
  refine tk_say (P := fun z => 0 ≤ z.toInt ∧ v18.toInt ≤ z.toInt ∧ (z.toInt = 0 ∨ z.toInt = v18.toInt)) (tk_max (show (0 : Int32).toInt = 0 by decide) rfl) (fun v19 h_v19 => ?_)
  refine tk_iast hx hb hK hG hS ht_b12 (by decide) (fun _ => Iff.rfl) tk_no rfl (by omega) (by omega) trivial (tk_w.of ht_b12 (by decide) (List.mem_of_getElem? (i := 0) rfl) (Nat.le_refl _) (Nat.le_refl _)) dX9_moveCows_43 (fun H locs hG hS hq9 => ?_)
  exact tk_vret hx hb hr hlocks trivial hG hS dX9_moveCows_44
theorem dX9_passTurn_0 : decode cX9_passTurn 0 = .ok (.aload_n 0, 1) := by decide +kernel
theorem dX9_passTurn_1 : decode cX9_passTurn 1 = .ok (.getfield 49, 3) := by decide +kernel
theorem dX9_passTurn_17 : decode cX9_passTurn 17 = .ok (.aload_n 0, 1) := by decide +kernel
theorem dX9_passTurn_18 : decode cX9_passTurn 18 = .ok (.aload_n 0, 1) := by decide +kernel
theorem dX9_passTurn_19 : decode cX9_passTurn 19 = .ok (.getfield 49, 3) := by decide +kernel
theorem dX9_passTurn_30 : decode cX9_passTurn 30 = .ok (.putfield 49, 3) := by decide +kernel
theorem dX9_passTurn_33 : decode cX9_passTurn 33 = .ok (.aload_n 0, 1) := by decide +kernel
theorem dX9_passTurn_34 : decode cX9_passTurn 34 = .ok (.getfield 46, 3) := by decide +kernel
theorem dX9_passTurn_37 : decode cX9_passTurn 37 = .ok (.bipush 12, 2) := by decide +kernel
theorem dX9_passTurn_39 : decode cX9_passTurn 39 = .ok (.if_icmp .lt 7, 3) := by decide +kernel
theorem dX9_passTurn_46 : decode cX9_passTurn 46 = .ok (.return_, 1) := by decide +kernel
theorem dX9_passTurn_42 : decode cX9_passTurn 42 = .ok (.aload_n 0, 1) := by decide +kernel
theorem dX9_passTurn_43 : decode cX9_passTurn 43 = .ok (.invokevirtual 53, 3) := by decide +kernel
theorem dX9_passTurn_22 : decode cX9_passTurn 22 = .ok (.ifCond .ne 7, 3) := by decide +kernel
theorem dX9_passTurn_29 : decode cX9_passTurn 29 = .ok (.iconst 0, 1) := by decide +kernel
theorem dX9_passTurn_25 : decode cX9_passTurn 25 = .ok (.iconst 1, 1) := by decide +kernel
theorem dX9_passTurn_26 : decode cX9_passTurn 26 = .ok (.goto 4, 3) := by decide +kernel
theorem dX9_passTurn_4 : decode cX9_passTurn 4 = .ok (.ifCond .eq 13, 3) := by decide +kernel
theorem dX9_passTurn_7 : decode cX9_passTurn 7 = .ok (.aload_n 0, 1) := by decide +kernel
theorem dX9_passTurn_8 : decode cX9_passTurn 8 = .ok (.dup, 1) := by decide +kernel
theorem dX9_passTurn_9 : decode cX9_passTurn 9 = .ok (.getfield 46, 3) := by decide +kernel
theorem dX9_passTurn_12 : decode cX9_passTurn 12 = .ok (.iconst 1, 1) := by decide +kernel
theorem dX9_passTurn_13 : decode cX9_passTurn 13 = .ok (.iadd, 1) := by decide +kernel
theorem dX9_passTurn_14 : decode cX9_passTurn 14 = .ok (.putfield 46, 3) := by decide +kernel
set_option maxHeartbeats 4000000 in
set_option maxRecDepth 100000 in
theorem k_X9_passTurn (l : Launch) (D : va_G) (cy : Nat → ClassId) (ld : Nat → Nat) (t : tk_T) (rg0 : Nat) (a0 : Nat) (ht_a0 : t a0 = (10, 0, rg0)) : Met l yX9_passTurn (wl yX9_passTurn cX9_passTurn 1 none) ({ frames := 4, cells := 0, slots := 0, locals := 210 }) (tp D cy ld t [] [.ref a0] (fun H => True)) (tv D cy ld t [] (fun H => True) (tk_w t [(10, rg0, rg0)])) 0 0 (tk_w t [(10, rg0, rg0)]) := by
  refine tk_met (y := yX9_passTurn) (cc := cX9_passTurn) (maxL := 1) (ret := none) (av := [.ref a0]) _ _ (by decide) (Nat.le_of_ble_eq_true rfl) ?_
  intro p e s m args below meth c hx hb hr hml hts htl hown hlocks hK H locs hH hG hS hB hZ ls hl
  have hown : s.vm.findClass RX9 = some m.cls := hown
  have hl : lv_has ls 1 [(0, .ref a0)] := hl
  refine lv_aload_n hx hb dX9_passTurn_0 rfl (lv_at hl 0 rfl) ?_
  refine tk_get (ci := 9) (C := RX9) (T := TX9) (N := 11) (sp := (0, 0, 1, 0)) hx hb htl inX9 hown hK hG ht_a0 (by decide) tk_no rfl 9 (by decide) (htl _ mw_826) (fun _ h9 => h9) rfl dX9_passTurn_1 (fun v9 hf1 hV9 => ?_)
  obtain ⟨v2, rfl, (ha_v2 : 0 ≤ v2.toInt), (hb_v2 : v2.toInt ≤ 1)⟩ := hV9
  have hj11 : ∀ (H : Heap) (locs : List Loc), tk_G D cy ld t [] H → va_S (tk_w t [(10, rg0, rg0)]) s.heap H locs → ∀ ls : Array Slot, lv_has ls 1 [(0, .ref a0)] → W p l e ({ frames := 4, cells := 0, slots := 0, locals := 210 }) s m args below meth c H locs 0 0 (MQ below (tv D cy ld t [] (fun H => True) (tk_w t [(10, rg0, rg0)])) args s 0 0 (tk_w t [(10, rg0, rg0)])) (F0 m 17 ls []) := by
    intro H locs hG hS ls hl
    refine lv_aload_n hx hb dX9_passTurn_17 rfl (lv_at hl 0 rfl) ?_
    refine lv_aload_n hx hb dX9_passTurn_18 rfl (lv_at hl 0 rfl) ?_
    refine tk_get (ci := 9) (C := RX9) (T := TX9) (N := 11) (sp := (0, 0, 1, 0)) hx hb htl inX9 hown hK hG ht_a0 (by decide) tk_no rfl 9 (by decide) (htl _ mw_826) (fun _ h9 => h9) rfl dX9_passTurn_19 (fun v9 hf12 hV9 => ?_)
    obtain ⟨v13, rfl, (ha_v13 : 0 ≤ v13.toInt), (hb_v13 : v13.toInt ≤ 1)⟩ := hV9
    have hj17 : ∀ (v16 : Int32), 0 ≤ v16.toInt → v16.toInt ≤ 1 → ∀ ls : Array Slot, lv_has ls 1 [(0, .ref a0)] → W p l e ({ frames := 4, cells := 0, slots := 0, locals := 210 }) s m args below meth c H locs 0 0 (MQ below (tv D cy ld t [] (fun H => True) (tk_w t [(10, rg0, rg0)])) args s 0 0 (tk_w t [(10, rg0, rg0)])) (F0 m 30 ls [.int v16, .ref a0]) := by
      intro v16 hq0_j17 hq1_j17 ls hl
      refine tk_put (ci := 9) (v := .int v16) (ty := .boolean) (C := RX9) (T := TX9) (N := 11) (sp := (0, 0, 1, 0)) hx hb htl inX9 tyX9 tyX9_ok nmX9 hown hK hG hS ht_a0 (by decide) tk_no rfl 9 (by decide) (htl _ mw_826) (fun _ h9 => h9) rfl (tyX9_ok 9 (by decide)) (tk_nz (by omega) (by omega)) (tk_fz (by omega) (by omega)) rfl (tk_V0 (by omega) (by omega)) (fun _ h => tk_X10 h (by decide) (by decide)) (tk_w.of ht_a0 (by decide) (List.mem_of_getElem? (i := 0) rfl) (Nat.le_refl _) (Nat.le_refl _)) dX9_passTurn_30 (fun H locs hG hS hf18 hq9 hj9 => ?_)
      refine lv_aload_n hx hb dX9_passTurn_33 rfl (lv_at hl 0 rfl) ?_
      refine tk_get (ci := 9) (C := RX9) (T := TX9) (N := 11) (sp := (0, (-2147483648), 2147483647, 0)) hx hb htl inX9 hown hK hG ht_a0 (by decide) tk_no rfl 8 (by decide) (htl _ mw_825) (fun _ h9 => h9) rfl dX9_passTurn_34 (fun v9 hf20 hV9 => ?_)
      obtain ⟨v21, rfl, (ha_v21 : (-2147483648) ≤ v21.toInt), (hb_v21 : v21.toInt ≤ 2147483647)⟩ := hV9
      refine lv_bipush (v := 12) hx hb dX9_passTurn_37 (by decide) ?_
      refine lv_icmp_lt (tgt := 46) hx hb dX9_passTurn_39 (by decide) (fun c9 => ?_) (fun c9 => ?_)
      · have hc22 : v21.toInt < 12 := (fi_lt rfl (show (12 : Int32).toInt = 12 by decide)).mp c9
        exact tk_vret hx hb hr hlocks trivial hG hS dX9_passTurn_46
      · have hc22 : ¬ (v21.toInt < 12) := fun h9 => c9 ((fi_lt rfl (show (12 : Int32).toInt = 12 by decide)).mpr h9)
        refine lv_aload_n hx hb dX9_passTurn_42 rfl (lv_at hl 0 rfl) ?_
        refine tk_Vv (As := []) (rest := []) (ci := 9) ⟨hx, hb, hml, hown, hts⟩ hK hG hZ hS (k_X9_closeDuel l D cy ld t rg0 a0 ht_a0) trivial ⟨callB_of 0 hts (wl_in mw_975) rfl rfl rfl (htl _ mw_76) (htl _ mw_980) hd_yX9_closeDuel ⟨(Nat.le_of_ble_eq_true rfl), (Nat.le_of_ble_eq_true rfl)⟩, htl _ mw_973, htl _ mw_974⟩ ht_a0 (by decide) tk_no rfl (tk_w.pick [0] rfl) rfl hl.1 rfl (Nat.le_of_ble_eq_true rfl) dX9_passTurn_43 ⟨(Nat.le_of_ble_eq_true rfl), (Nat.le_of_ble_eq_true rfl)⟩ (fun H locs hpo hG hS hq9 => ?_)
        have hf24 := hpo
        exact tk_vret hx hb hr hlocks trivial hG hS dX9_passTurn_46
    refine lv_if_ne (tgt := 29) hx hb dX9_passTurn_22 (by decide) (fun c9 => ?_) (fun c9 => ?_)
    · have hc14 : ¬ (v13.toInt = 0) := fun h9 => c9 ((fi_eq rfl (show (0 : Int32).toInt = 0 by decide)).mpr h9)
      refine lv_iconst (v := 0) hx hb dX9_passTurn_29 (by decide) ?_
      have hk_0 : (0 : Int32).toInt = 0 := by decide
      exact hj17 0 (by omega) (by omega) _ (lv_sub hl [0] rfl)
    · have hc14 : v13.toInt = 0 := (fi_eq rfl (show (0 : Int32).toInt = 0 by decide)).mp c9
      refine lv_iconst (v := 1) hx hb dX9_passTurn_25 (by decide) ?_
      refine lv_goto (tgt := 30) hx hb dX9_passTurn_26 (by decide) ?_
      have hk_1 : (1 : Int32).toInt = 1 := by decide
      exact hj17 1 (by omega) (by omega) _ (lv_sub hl [0] rfl)
  refine lv_if_eq (tgt := 17) hx hb dX9_passTurn_4 (by decide) (fun c9 => ?_) (fun c9 => ?_)
  · have hc3 : v2.toInt = 0 := (fi_eq rfl (show (0 : Int32).toInt = 0 by decide)).mp c9
    exact hj11 _ _ hG hS _ (lv_sub hl [0] rfl)
  · have hc3 : ¬ (v2.toInt = 0) := fun h9 => c9 ((fi_eq rfl (show (0 : Int32).toInt = 0 by decide)).mpr h9)
    refine lv_aload_n hx hb dX9_passTurn_7 rfl (lv_at hl 0 rfl) ?_
    refine lv_dup hx hb dX9_passTurn_8 rfl ?_
    refine tk_get (ci := 9) (C := RX9) (T := TX9) (N := 11) (sp := (0, (-2147483648), 2147483647, 0)) hx hb htl inX9 hown hK hG ht_a0 (by decide) tk_no rfl 8 (by decide) (htl _ mw_825) (fun _ h9 => h9) rfl dX9_passTurn_9 (fun v9 hf25 hV9 => ?_)
    obtain ⟨v26, rfl, (ha_v26 : (-2147483648) ≤ v26.toInt), (hb_v26 : v26.toInt ≤ 2147483647)⟩ := hV9
    refine lv_iconst (v := 1) hx hb dX9_passTurn_12 (by decide) ?_
    refine lv_iadd hx hb dX9_passTurn_13 ?_
    obtain ⟨v27, hm_v27⟩ : ∃ z : Int32, v26 + 1 = z := ⟨_, rfl⟩
    refine fx_ti hm_v27 ?_
    refine tk_put (ci := 9) (v := .int v27) (ty := .int) (C := RX9) (T := TX9) (N := 11) (sp := (0, (-2147483648), 2147483647, 0)) hx hb htl inX9 tyX9 tyX9_ok nmX9 hown hK hG hS ht_a0 (by decide) tk_no rfl 8 (by decide) (htl _ mw_825) (fun _ h9 => h9) rfl (tyX9_ok 8 (by decide)) rfl rfl rfl (tk_V0 (tk_rng _).1 (tk_rng _).2) (fun _ h => tk_X10 h (by decide) (by decide)) (tk_w.of ht_a0 (by decide) (List.mem_of_getElem? (i := 0) rfl) (Nat.le_refl _) (Nat.le_refl _)) dX9_passTurn_14 (fun H locs hG hS hf28 hq9 hj9 => ?_)
    exact hj11 _ _ hG hS _ (lv_sub hl [0] rfl)
theorem dX8_singOn_0 : decode cX8_singOn 0 = .ok (.aload_n 0, 1) := by decide +kernel
theorem dX8_singOn_1 : decode cX8_singOn 1 = .ok (.aload_n 1, 1) := by decide +kernel
theorem dX8_singOn_2 : decode cX8_singOn 2 = .ok (.iload_n 2, 1) := by decide +kernel
theorem dX8_singOn_3 : decode cX8_singOn 3 = .ok (.invokevirtual 22, 3) := by decide +kernel
theorem dX8_singOn_6 : decode cX8_singOn 6 = .ok (.aload_n 0, 1) := by decide +kernel
theorem dX8_singOn_7 : decode cX8_singOn 7 = .ok (.invokevirtual 26, 3) := by decide +kernel
theorem dX8_singOn_10 : decode cX8_singOn 10 = .ok (.istore_n 3, 1) := by decide +kernel
theorem dX8_singOn_11 : decode cX8_singOn 11 = .ok (.aload_n 0, 1) := by decide +kernel
theorem dX8_singOn_12 : decode cX8_singOn 12 = .ok (.invokevirtual 30, 3) := by decide +kernel
theorem dX8_singOn_15 : decode cX8_singOn 15 = .ok (.istore 4, 2) := by decide +kernel
theorem dX8_singOn_17 : decode cX8_singOn 17 = .ok (.aload_n 1, 1) := by decide +kernel
theorem dX8_singOn_18 : decode cX8_singOn 18 = .ok (.invokevirtual 86, 3) := by decide +kernel
theorem dX8_singOn_21 : decode cX8_singOn 21 = .ok (.istore 5, 2) := by decide +kernel
theorem dX8_singOn_23 : decode cX8_singOn 23 = .ok (.aload_n 1, 1) := by decide +kernel
theorem dX8_singOn_24 : decode cX8_singOn 24 = .ok (.invokevirtual 89, 3) := by decide +kernel
theorem dX8_singOn_27 : decode cX8_singOn 27 = .ok (.istore 6, 2) := by decide +kernel
theorem dX8_singOn_29 : decode cX8_singOn 29 = .ok (.aload_n 1, 1) := by decide +kernel
theorem dX8_singOn_30 : decode cX8_singOn 30 = .ok (.getfield 55, 3) := by decide +kernel
theorem dX8_singOn_33 : decode cX8_singOn 33 = .ok (.iload 6, 2) := by decide +kernel
theorem dX8_singOn_35 : decode cX8_singOn 35 = .ok (.iconst 0, 1) := by decide +kernel
theorem dX8_singOn_36 : decode cX8_singOn 36 = .ok (.aload_n 1, 1) := by decide +kernel
theorem dX8_singOn_37 : decode cX8_singOn 37 = .ok (.getfield 55, 3) := by decide +kernel
theorem dX8_singOn_40 : decode cX8_singOn 40 = .ok (.iload 6, 2) := by decide +kernel
theorem dX8_singOn_42 : decode cX8_singOn 42 = .ok (.iaload, 1) := by decide +kernel
theorem dX8_singOn_43 : decode cX8_singOn 43 = .ok (.iload_n 3, 1) := by decide +kernel
theorem dX8_singOn_44 : decode cX8_singOn 44 = .ok (.isub, 1) := by decide +kernel
theorem dX8_singOn_45 : decode cX8_singOn 45 = .ok (.invokestatic 92, 3) := by decide +kernel
theorem dX8_singOn_48 : decode cX8_singOn 48 = .ok (.iastore, 1) := by decide +kernel
theorem dX8_singOn_49 : decode cX8_singOn 49 = .ok (.iload_n 3, 1) := by decide +kernel
theorem dX8_singOn_50 : decode cX8_singOn 50 = .ok (.aload_n 0, 1) := by decide +kernel
theorem dX8_singOn_51 : decode cX8_singOn 51 = .ok (.getfield 18, 3) := by decide +kernel
theorem dX8_singOn_54 : decode cX8_singOn 54 = .ok (.getfield 97, 3) := by decide +kernel
theorem dX8_singOn_71 : decode cX8_singOn 71 = .ok (.aload_n 1, 1) := by decide +kernel
theorem dX8_singOn_72 : decode cX8_singOn 72 = .ok (.getfield 55, 3) := by decide +kernel
theorem dX8_singOn_75 : decode cX8_singOn 75 = .ok (.iload 5, 2) := by decide +kernel
theorem dX8_singOn_77 : decode cX8_singOn 77 = .ok (.iconst 1, 1) := by decide +kernel
theorem dX8_singOn_78 : decode cX8_singOn 78 = .ok (.aload_n 1, 1) := by decide +kernel
theorem dX8_singOn_79 : decode cX8_singOn 79 = .ok (.getfield 55, 3) := by decide +kernel
theorem dX8_singOn_82 : decode cX8_singOn 82 = .ok (.iload 5, 2) := by decide +kernel
theorem dX8_singOn_84 : decode cX8_singOn 84 = .ok (.iaload, 1) := by decide +kernel
theorem dX8_singOn_85 : decode cX8_singOn 85 = .ok (.iload 4, 2) := by decide +kernel
theorem dX8_singOn_87 : decode cX8_singOn 87 = .ok (.isub, 1) := by decide +kernel
theorem dX8_singOn_88 : decode cX8_singOn 88 = .ok (.invokestatic 92, 3) := by decide +kernel
theorem dX8_singOn_91 : decode cX8_singOn 91 = .ok (.iastore, 1) := by decide +kernel
theorem dX8_singOn_92 : decode cX8_singOn 92 = .ok (.aload_n 1, 1) := by decide +kernel
theorem dX8_singOn_93 : decode cX8_singOn 93 = .ok (.aload_n 0, 1) := by decide +kernel
theorem dX8_singOn_94 : decode cX8_singOn 94 = .ok (.getfield 18, 3) := by decide +kernel
theorem dX8_singOn_97 : decode cX8_singOn 97 = .ok (.getfield 103, 3) := by decide +kernel
theorem dX8_singOn_100 : decode cX8_singOn 100 = .ok (.iload_n 2, 1) := by decide +kernel
theorem dX8_singOn_101 : decode cX8_singOn 101 = .ok (.iaload, 1) := by decide +kernel
theorem dX8_singOn_102 : decode cX8_singOn 102 = .ok (.putfield 106, 3) := by decide +kernel
theorem dX8_singOn_105 : decode cX8_singOn 105 = .ok (.aload_n 1, 1) := by decide +kernel
theorem dX8_singOn_106 : decode cX8_singOn 106 = .ok (.getfield 55, 3) := by decide +kernel
theorem dX8_singOn_109 : decode cX8_singOn 109 = .ok (.iload 6, 2) := by decide +kernel
theorem dX8_singOn_111 : decode cX8_singOn 111 = .ok (.iaload, 1) := by decide +kernel
theorem dX8_singOn_158 : decode cX8_singOn 158 = .ok (.aload_n 1, 1) := by decide +kernel
theorem dX8_singOn_159 : decode cX8_singOn 159 = .ok (.getfield 55, 3) := by decide +kernel
theorem dX8_singOn_162 : decode cX8_singOn 162 = .ok (.iload 6, 2) := by decide +kernel
theorem dX8_singOn_164 : decode cX8_singOn 164 = .ok (.iaload, 1) := by decide +kernel
theorem dX8_singOn_165 : decode cX8_singOn 165 = .ok (.ireturn, 1) := by decide +kernel
theorem dX8_singOn_112 : decode cX8_singOn 112 = .ok (.ifCond .ne 42, 3) := by decide +kernel
theorem dX8_singOn_154 : decode cX8_singOn 154 = .ok (.aload_n 1, 1) := by decide +kernel
theorem dX8_singOn_155 : decode cX8_singOn 155 = .ok (.invokevirtual 122, 3) := by decide +kernel
theorem dX8_singOn_115 : decode cX8_singOn 115 = .ok (.aload_n 1, 1) := by decide +kernel
theorem dX8_singOn_116 : decode cX8_singOn 116 = .ok (.getfield 109, 3) := by decide +kernel
theorem dX8_singOn_119 : decode cX8_singOn 119 = .ok (.iload 6, 2) := by decide +kernel
theorem dX8_singOn_121 : decode cX8_singOn 121 = .ok (.iconst 1, 1) := by decide +kernel
theorem dX8_singOn_122 : decode cX8_singOn 122 = .ok (.iastore, 1) := by decide +kernel
theorem dX8_singOn_123 : decode cX8_singOn 123 = .ok (.aload_n 1, 1) := by decide +kernel
theorem dX8_singOn_124 : decode cX8_singOn 124 = .ok (.aload_n 0, 1) := by decide +kernel
theorem dX8_singOn_125 : decode cX8_singOn 125 = .ok (.getfield 18, 3) := by decide +kernel
theorem dX8_singOn_128 : decode cX8_singOn 128 = .ok (.getfield 112, 3) := by decide +kernel
theorem dX8_singOn_131 : decode cX8_singOn 131 = .ok (.iload 5, 2) := by decide +kernel
theorem dX8_singOn_133 : decode cX8_singOn 133 = .ok (.iaload, 1) := by decide +kernel
theorem dX8_singOn_134 : decode cX8_singOn 134 = .ok (.aload_n 0, 1) := by decide +kernel
theorem dX8_singOn_135 : decode cX8_singOn 135 = .ok (.getfield 18, 3) := by decide +kernel
theorem dX8_singOn_138 : decode cX8_singOn 138 = .ok (.getfield 112, 3) := by decide +kernel
theorem dX8_singOn_141 : decode cX8_singOn 141 = .ok (.iload 6, 2) := by decide +kernel
theorem dX8_singOn_143 : decode cX8_singOn 143 = .ok (.iaload, 1) := by decide +kernel
theorem dX8_singOn_144 : decode cX8_singOn 144 = .ok (.invokevirtual 115, 3) := by decide +kernel
theorem dX8_singOn_147 : decode cX8_singOn 147 = .ok (.aload_n 1, 1) := by decide +kernel
theorem dX8_singOn_148 : decode cX8_singOn 148 = .ok (.invokevirtual 119, 3) := by decide +kernel
theorem dX8_singOn_151 : decode cX8_singOn 151 = .ok (.goto 7, 3) := by decide +kernel
theorem dX8_singOn_57 : decode cX8_singOn 57 = .ok (.if_icmp .lt 14, 3) := by decide +kernel
theorem dX8_singOn_60 : decode cX8_singOn 60 = .ok (.aload_n 1, 1) := by decide +kernel
theorem dX8_singOn_61 : decode cX8_singOn 61 = .ok (.getfield 100, 3) := by decide +kernel
theorem dX8_singOn_64 : decode cX8_singOn 64 = .ok (.iload 6, 2) := by decide +kernel
theorem dX8_singOn_66 : decode cX8_singOn 66 = .ok (.dup2, 1) := by decide +kernel
theorem dX8_singOn_67 : decode cX8_singOn 67 = .ok (.iaload, 1) := by decide +kernel
theorem dX8_singOn_68 : decode cX8_singOn 68 = .ok (.iconst 1, 1) := by decide +kernel
theorem dX8_singOn_69 : decode cX8_singOn 69 = .ok (.iadd, 1) := by decide +kernel
theorem dX8_singOn_70 : decode cX8_singOn 70 = .ok (.iastore, 1) := by decide +kernel
set_option maxHeartbeats 4000000 in
set_option maxRecDepth 100000 in
theorem k_X8_singOn (l : Launch) (D : va_G) (cy : Nat → ClassId) (ld : Nat → Nat) (t : tk_T) (rg1 : Nat) (a0 : Nat) (a1 : Nat) (p2 : Int32) (g0 : Int32) (ht_a0 : t a0 = (9, 0, 0)) (ht_a1 : t a1 = (10, 0, rg1)) (hp_0 : 0 ≤ p2.toInt) (hp_1 : p2.toInt ≤ 9) (hp_2 : 0 ≤ g0.toInt) (hp_3 : g0.toInt ≤ 7) : Met l yX8_singOn (wl yX8_singOn cX8_singOn 7 (some .int)) ({ frames := 6, cells := 0, slots := 0, locals := 350 }) (tp D cy ld t [] [.ref a0, .ref a1, .int p2] (fun H => tk_f D H a1 9 5 (.int g0))) (ti D cy ld t [] (fun r H => True) (tk_w t [(20, 0, 0), (12, 0, 0), (9, 0, 0), (20, rg1, rg1), (10, rg1, rg1)])) 0 0 (tk_w t [(20, 0, 0), (12, 0, 0), (9, 0, 0), (20, rg1, rg1), (10, rg1, rg1)]) := by
  refine tk_met (y := yX8_singOn) (cc := cX8_singOn) (maxL := 7) (ret := (some .int)) (av := [.ref a0, .ref a1, .int p2]) _ _ (by decide) (Nat.le_of_ble_eq_true rfl) ?_
  intro p e s m args below meth c hx hb hr hml hts htl hown hlocks hK H locs hH hG hS hB hZ ls hl
  have hown : s.vm.findClass RX8 = some m.cls := hown
  have hl : lv_has ls 7 [(0, .ref a0), (1, .ref a1), (2, .int p2)] := hl
  have hg_0 := hB
  have hr_p2 := tk_rng p2
  refine lv_aload_n hx hb dX8_singOn_0 rfl (lv_at hl 0 rfl) ?_
  refine lv_aload_n hx hb dX8_singOn_1 rfl (lv_at hl 1 rfl) ?_
  refine lv_iload_n hx hb dX8_singOn_2 rfl (lv_at hl 2 rfl) ?_
  refine tk_Vv (As := [.ref a1, .int p2]) (rest := []) (ci := 8) ⟨hx, hb, hml, hown, hts⟩ hK hG hZ hS (k_X8_setWords l D cy ld t rg1 a0 a1 p2 g0 ht_a0 ht_a1 (by omega) (by omega) (by omega) (by omega)) hg_0 ⟨callB_of 2 hts (wl_in mw_913) rfl rfl rfl (htl _ mw_21) (htl _ mw_910) hd_yX8_setWords ⟨(Nat.le_of_ble_eq_true rfl), (Nat.le_of_ble_eq_true rfl)⟩, htl _ mw_911, htl _ mw_912⟩ ht_a0 (by decide) tk_no rfl (tk_w.pick [0] rfl) rfl hl.1 rfl (Nat.le_of_ble_eq_true rfl) dX8_singOn_3 ⟨(Nat.le_of_ble_eq_true rfl), (Nat.le_of_ble_eq_true rfl)⟩ (fun H locs hpo hG hS hq9 => ?_)
  have hg_0 := hg_0.call hq9 (tk_w.no ht_a1 (by intro q hq h1 h2 h3; simp only [List.mem_cons, List.not_mem_nil, or_false] at hq; rcases hq with rfl <;> (dsimp only at h1 h2 h3; omega)))
  refine lv_aload_n hx hb dX8_singOn_6 rfl (lv_at hl 0 rfl) ?_
  refine tk_Vi (As := []) (rest := []) (ci := 8) ⟨hx, hb, hml, hown, hts⟩ hK hG hZ hS (k_X8_lullByWords l D cy ld t a0 ht_a0) trivial ⟨callB_of 0 hts (wl_in mw_957) rfl rfl rfl (htl _ mw_21) (htl _ mw_954) hd_yX8_lullByWords ⟨(Nat.le_of_ble_eq_true rfl), (Nat.le_of_ble_eq_true rfl)⟩, htl _ mw_955, htl _ mw_956⟩ ht_a0 (by decide) tk_no rfl (tk_w.pick [1, 0, 2] rfl) rfl hl.1 rfl (Nat.le_of_ble_eq_true rfl) dX8_singOn_7 ⟨(Nat.le_of_ble_eq_true rfl), (Nat.le_of_ble_eq_true rfl)⟩ (fun v2 H locs hpo hG hS hq9 => ?_)
  have hg_0 := hg_0.call hq9 (tk_w.no ht_a1 (by intro q hq h1 h2 h3; simp only [List.mem_cons, List.not_mem_nil, or_false] at hq; rcases hq with rfl | rfl | rfl <;> (dsimp only at h1 h2 h3; omega)))
  refine lv_istore_n (lv' := [(3, .int v2), (0, .ref a0), (1, .ref a1), (2, .int p2)]) hx hb dX8_singOn_10 rfl hl (by decide) rfl (fun ls hl => ?_)
  refine lv_aload_n hx hb dX8_singOn_11 rfl (lv_at hl 1 rfl) ?_
  refine tk_Vi (As := []) (rest := []) (ci := 8) ⟨hx, hb, hml, hown, hts⟩ hK hG hZ hS (k_X8_tireByWords l D cy ld t a0 ht_a0) trivial ⟨callB_of 0 hts (wl_in mw_965) rfl rfl rfl (htl _ mw_21) (htl _ mw_962) hd_yX8_tireByWords ⟨(Nat.le_of_ble_eq_true rfl), (Nat.le_of_ble_eq_true rfl)⟩, htl _ mw_963, htl _ mw_964⟩ ht_a0 (by decide) tk_no rfl (tk_w.pick [1, 0, 2] rfl) rfl hl.1 rfl (Nat.le_of_ble_eq_true rfl) dX8_singOn_12 ⟨(Nat.le_of_ble_eq_true rfl), (Nat.le_of_ble_eq_true rfl)⟩ (fun v4 H locs hpo hG hS hq9 => ?_)
  have hg_0 := hg_0.call hq9 (tk_w.no ht_a1 (by intro q hq h1 h2 h3; simp only [List.mem_cons, List.not_mem_nil, or_false] at hq; rcases hq with rfl | rfl | rfl <;> (dsimp only at h1 h2 h3; omega)))
  refine lv_istore (lv' := [(4, .int v4), (3, .int v2), (0, .ref a0), (1, .ref a1), (2, .int p2)]) hx hb dX8_singOn_15 hl (by decide) rfl (fun ls hl => ?_)
  refine lv_aload_n hx hb dX8_singOn_17 rfl (lv_at hl 3 rfl) ?_
  refine tk_Vi (As := []) (rest := []) (ci := 9) ⟨hx, hb, hml, hown, hts⟩ hK hG hZ hS (k_X9_whoSings l D cy ld t rg1 a1 g0 ht_a1 (by omega) (by omega)) hg_0 ⟨callB_of 0 hts (wl_in mw_844) rfl rfl rfl (htl _ mw_76) (htl _ mw_925) hd_yX9_whoSings ⟨(Nat.le_of_ble_eq_true rfl), (Nat.le_of_ble_eq_true rfl)⟩, htl _ mw_842, htl _ mw_843⟩ ht_a1 (by decide) tk_no rfl (tk_w.pick [] rfl) rfl hl.1 rfl (Nat.le_of_ble_eq_true rfl) dX8_singOn_18 ⟨(Nat.le_of_ble_eq_true rfl), (Nat.le_of_ble_eq_true rfl)⟩ (fun v6 H locs hpo hG hS hq9 => ?_)
  have hg_0 := hg_0.call hq9 tk_w.nil
  obtain ⟨hpo8, hpo9, hpo10⟩ := hpo
  refine lv_istore (lv' := [(5, .int v6), (4, .int v4), (3, .int v2), (0, .ref a0), (1, .ref a1), (2, .int p2)]) hx hb dX8_singOn_21 hl (by decide) rfl (fun ls hl => ?_)
  refine lv_aload_n hx hb dX8_singOn_23 rfl (lv_at hl 4 rfl) ?_
  refine tk_Vi (As := []) (rest := []) (ci := 9) ⟨hx, hb, hml, hown, hts⟩ hK hG hZ hS (k_X9_whoHears l D cy ld t rg1 a1 g0 ht_a1 (by omega) (by omega)) hg_0 ⟨callB_of 0 hts (wl_in mw_924) rfl rfl rfl (htl _ mw_76) (htl _ mw_921) hd_yX9_whoHears ⟨(Nat.le_of_ble_eq_true rfl), (Nat.le_of_ble_eq_true rfl)⟩, htl _ mw_922, htl _ mw_923⟩ ht_a1 (by decide) tk_no rfl (tk_w.pick [] rfl) rfl hl.1 rfl (Nat.le_of_ble_eq_true rfl) dX8_singOn_24 ⟨(Nat.le_of_ble_eq_true rfl), (Nat.le_of_ble_eq_true rfl)⟩ (fun v11 H locs hpo hG hS hq9 => ?_)
  have hg_0 := hg_0.call hq9 tk_w.nil
  obtain ⟨hpo13, hpo14, hpo15⟩ := hpo
  refine lv_istore (lv' := [(6, .int v11), (5, .int v6), (4, .int v4), (3, .int v2), (0, .ref a0), (1, .ref a1), (2, .int p2)]) hx hb dX8_singOn_27 hl (by decide) rfl (fun ls hl => ?_)
  refine lv_aload_n hx hb dX8_singOn_29 rfl (lv_at hl 5 rfl) ?_
  refine tk_get (ci := 9) (C := RX9) (T := TX9) (N := 11) (sp := (1, 20, 8, 0)) hx hb htl inX9 hown hK hG ht_a1 (by decide) tk_no rfl 0 (by decide) (htl _ mw_918) (fun _ h9 => h9) rfl dX8_singOn_30 (fun v9 hf16 hV9 => ?_)
  obtain ⟨b17, rfl, ht_b17⟩ := hV9
  have ht_b17 : t b17 = (20, 8, rg1) := ht_b17
  refine lv_iload hx hb dX8_singOn_33 (lv_at hl 0 rfl) ?_
  refine lv_iconst (v := 0) hx hb dX8_singOn_35 (by decide) ?_
  refine lv_aload_n hx hb dX8_singOn_36 rfl (lv_at hl 5 rfl) ?_
  refine tk_get (ci := 9) (C := RX9) (T := TX9) (N := 11) (sp := (1, 20, 8, 0)) hx hb htl inX9 hown hK hG ht_a1 (by decide) tk_no rfl 0 (by decide) (htl _ mw_918) (fun _ h9 => h9) rfl dX8_singOn_37 (fun v9 hf18 hV9 => ?_)
  obtain ⟨b19, rfl, ht_b19⟩ := hV9
  have ht_b19 : t b19 = (20, 8, rg1) := ht_b19
  refine lv_iload hx hb dX8_singOn_40 (lv_at hl 0 rfl) ?_
  refine tk_iald hx hb hK hG ht_b19 (by decide) (fun _ h => h) tk_no rfl (by omega) (by omega) dX8_singOn_42 (fun v20 _ _ => ?_)
  have hr_v20 := tk_rng v20
  refine lv_iload_n hx hb dX8_singOn_43 rfl (lv_at hl 3 rfl) ?_
  refine lv_isub hx hb dX8_singOn_44 ?_
  obtain ⟨v21, hm_v21⟩ : ∃ z : Int32, v20 - v2 = z := ⟨_, rfl⟩
  refine fx_ti hm_v21 ?_
  refine va_mmax hx hb (by rw [hml]; exact hl.1.symm) hown (htl _ mw_947) (htl _ mw_948) (htl _ mw_474) (htl _ mw_949) (Nat.le_of_ble_eq_true rfl) (Nat.le_of_ble_eq_true rfl) (Nat.le_of_ble_eq_true rfl) (Nat.le_of_ble_eq_true rfl) dX8_singOn_45 ?_
  refine tk_say (P := fun z => 0 ≤ z.toInt ∧ v21.toInt ≤ z.toInt ∧ (z.toInt = 0 ∨ z.toInt = v21.toInt)) (tk_max (show (0 : Int32).toInt = 0 by decide) rfl) (fun v22 h_v22 => ?_)
  refine tk_iast hx hb hK hG hS ht_b17 (by decide) (fun _ => Iff.rfl) tk_no rfl (by omega) (by omega) trivial (tk_w.of ht_b17 (by decide) (List.mem_of_getElem? (i := 3) rfl) (Nat.le_refl _) (Nat.le_refl _)) dX8_singOn_48 (fun H locs hG hS hq9 => ?_)
  have hg_0 := hg_0.kept (hq9 _ (tk_ne ht_a1 ht_b17 (Or.inl (by decide))))
  refine lv_iload_n hx hb dX8_singOn_49 rfl (lv_at hl 3 rfl) ?_
  refine lv_aload_n hx hb dX8_singOn_50 rfl (lv_at hl 4 rfl) ?_
  refine tk_get (ci := 8) (C := RX8) (T := TX8) (N := 3) (sp := (8, 20, 3, 0)) hx hb htl inX8 hown hK hG ht_a0 (by decide) tk_no rfl 1 (by decide) (htl _ mw_97) (fun _ h9 => h9) rfl dX8_singOn_51 (fun v9 hf24 hV9 => ?_)
  obtain ⟨rfl, ht_ld20⟩ := hV9
  have ht_ld20 : t (ld 20) = (3, 0, 0) := ht_ld20
  refine fx_top (v := .ref (ld 20)) rfl ?_
  refine tk_get (ci := 2) (C := RX2) (T := TX2) (N := 20) (sp := (0, (-2147483648), 2147483647, 0)) hx hb htl inX2 hown hK hG ht_ld20 (by decide) tk_no rfl 16 (by decide) (htl _ mw_950) (fun _ h9 => h9) rfl dX8_singOn_54 (fun v9 hf25 hV9 => ?_)
  obtain ⟨v26, rfl, (ha_v26 : (-2147483648) ≤ v26.toInt), (hb_v26 : v26.toInt ≤ 2147483647)⟩ := hV9
  have hj35 : ∀ (H : Heap) (locs : List Loc), tk_G D cy ld t [] H → va_S (tk_w t [(20, 0, 0), (12, 0, 0), (9, 0, 0), (20, rg1, rg1), (10, rg1, rg1)]) s.heap H locs → tk_f D H a1 9 5 (.int g0) → ∀ ls : Array Slot, lv_has ls 7 [(6, .int v11), (5, .int v6), (4, .int v4), (0, .ref a0), (1, .ref a1), (2, .int p2)] → W p l e ({ frames := 6, cells := 0, slots := 0, locals := 350 }) s m args below meth c H locs 0 0 (MQ below (ti D cy ld t [] (fun r H => True) (tk_w t [(20, 0, 0), (12, 0, 0), (9, 0, 0), (20, rg1, rg1), (10, rg1, rg1)])) args s 0 0 (tk_w t [(20, 0, 0), (12, 0, 0), (9, 0, 0), (20, rg1, rg1), (10, rg1, rg1)])) (F0 m 71 ls []) := by
    intro H locs hG hS hg_0 ls hl
    refine lv_aload_n hx hb dX8_singOn_71 rfl (lv_at hl 4 rfl) ?_
    refine tk_get (ci := 9) (C := RX9) (T := TX9) (N := 11) (sp := (1, 20, 8, 0)) hx hb htl inX9 hown hK hG ht_a1 (by decide) tk_no rfl 0 (by decide) (htl _ mw_918) (fun _ h9 => h9) rfl dX8_singOn_72 (fun v9 hf36 hV9 => ?_)
    obtain ⟨b37, rfl, ht_b37⟩ := hV9
    have ht_b37 : t b37 = (20, 8, rg1) := ht_b37
    refine lv_iload hx hb dX8_singOn_75 (lv_at hl 1 rfl) ?_
    refine lv_iconst (v := 1) hx hb dX8_singOn_77 (by decide) ?_
    refine lv_aload_n hx hb dX8_singOn_78 rfl (lv_at hl 4 rfl) ?_
    refine tk_get (ci := 9) (C := RX9) (T := TX9) (N := 11) (sp := (1, 20, 8, 0)) hx hb htl inX9 hown hK hG ht_a1 (by decide) tk_no rfl 0 (by decide) (htl _ mw_918) (fun _ h9 => h9) rfl dX8_singOn_79 (fun v9 hf38 hV9 => ?_)
    obtain ⟨b39, rfl, ht_b39⟩ := hV9
    have ht_b39 : t b39 = (20, 8, rg1) := ht_b39
    refine lv_iload hx hb dX8_singOn_82 (lv_at hl 1 rfl) ?_
    refine tk_iald hx hb hK hG ht_b39 (by decide) (fun _ h => h) tk_no rfl (by omega) (by omega) dX8_singOn_84 (fun v40 _ _ => ?_)
    have hr_v40 := tk_rng v40
    refine lv_iload hx hb dX8_singOn_85 (lv_at hl 2 rfl) ?_
    refine lv_isub hx hb dX8_singOn_87 ?_
    obtain ⟨v41, hm_v41⟩ : ∃ z : Int32, v40 - v4 = z := ⟨_, rfl⟩
    refine fx_ti hm_v41 ?_
    refine va_mmax hx hb (by rw [hml]; exact hl.1.symm) hown (htl _ mw_947) (htl _ mw_948) (htl _ mw_474) (htl _ mw_949) (Nat.le_of_ble_eq_true rfl) (Nat.le_of_ble_eq_true rfl) (Nat.le_of_ble_eq_true rfl) (Nat.le_of_ble_eq_true rfl) dX8_singOn_88 ?_
    refine tk_say (P := fun z => 1 ≤ z.toInt ∧ v41.toInt ≤ z.toInt ∧ (z.toInt = 1 ∨ z.toInt = v41.toInt)) (tk_max (show (1 : Int32).toInt = 1 by decide) rfl) (fun v42 h_v42 => ?_)
    refine tk_iast hx hb hK hG hS ht_b37 (by decide) (fun _ => Iff.rfl) tk_no rfl (by omega) (by omega) trivial (tk_w.of ht_b37 (by decide) (List.mem_of_getElem? (i := 3) rfl) (Nat.le_refl _) (Nat.le_refl _)) dX8_singOn_91 (fun H locs hG hS hq9 => ?_)
    have hg_0 := hg_0.kept (hq9 _ (tk_ne ht_a1 ht_b37 (Or.inl (by decide))))
    refine lv_aload_n hx hb dX8_singOn_92 rfl (lv_at hl 4 rfl) ?_
    refine lv_aload_n hx hb dX8_singOn_93 rfl (lv_at hl 3 rfl) ?_
    refine tk_get (ci := 8) (C := RX8) (T := TX8) (N := 3) (sp := (8, 20, 3, 0)) hx hb htl inX8 hown hK hG ht_a0 (by decide) tk_no rfl 1 (by decide) (htl _ mw_97) (fun _ h9 => h9) rfl dX8_singOn_94 (fun v9 hf44 hV9 => ?_)
    obtain ⟨rfl, ht_ld20⟩ := hV9
    have ht_ld20 : t (ld 20) = (3, 0, 0) := ht_ld20
    refine fx_top (v := .ref (ld 20)) rfl ?_
    refine tk_get (ci := 2) (C := RX2) (T := TX2) (N := 20) (sp := (11, 90, 34, 10)) hx hb htl inX2 hown hK hG ht_ld20 (by decide) tk_no rfl 6 (by decide) (htl _ mw_915) (fun _ h9 => h9) rfl dX8_singOn_97 (fun v9 hf45 hV9 => ?_)
    obtain ⟨rfl, ht_ld90⟩ := hV9
    have ht_ld90 : t (ld 90) = (34, 10, 0) := ht_ld90
    refine fx_top (v := .ref (ld 90)) rfl ?_
    refine lv_iload_n hx hb dX8_singOn_100 rfl (lv_at hl 5 rfl) ?_
    refine tk_iald hx hb hK hG ht_ld90 (by decide) (fun _ h => h) tk_no rfl (by omega) (by omega) dX8_singOn_101 (fun v46 _ _ => ?_)
    have hr_v46 := tk_rng v46
    refine tk_put (ci := 9) (v := .int v46) (ty := .int) (C := RX9) (T := TX9) (N := 11) (sp := (0, (-2147483648), 2147483647, 0)) hx hb htl inX9 tyX9 tyX9_ok nmX9 hown hK hG hS ht_a1 (by decide) tk_no rfl 10 (by decide) (htl _ mw_916) (fun _ h9 => h9) rfl (tyX9_ok 10 (by decide)) rfl rfl rfl (tk_V0 (tk_rng _).1 (tk_rng _).2) (fun _ h => tk_X10 h (by decide) (by decide)) (tk_w.of ht_a1 (by decide) (List.mem_of_getElem? (i := 4) rfl) (Nat.le_refl _) (Nat.le_refl _)) dX8_singOn_102 (fun H locs hG hS hf47 hq9 hj9 => ?_)
    have hg_0 := hj9 5 _ (by decide) (by decide) hg_0
    refine lv_aload_n hx hb dX8_singOn_105 rfl (lv_at hl 4 rfl) ?_
    refine tk_get (ci := 9) (C := RX9) (T := TX9) (N := 11) (sp := (1, 20, 8, 0)) hx hb htl inX9 hown hK hG ht_a1 (by decide) tk_no rfl 0 (by decide) (htl _ mw_918) (fun _ h9 => h9) rfl dX8_singOn_106 (fun v9 hf49 hV9 => ?_)
    obtain ⟨b50, rfl, ht_b50⟩ := hV9
    have ht_b50 : t b50 = (20, 8, rg1) := ht_b50
    refine lv_iload hx hb dX8_singOn_109 (lv_at hl 0 rfl) ?_
    refine tk_iald hx hb hK hG ht_b50 (by decide) (fun _ h => h) tk_no rfl (by omega) (by omega) dX8_singOn_111 (fun v51 _ _ => ?_)
    have hr_v51 := tk_rng v51
    have hj70 : ∀ (H : Heap) (locs : List Loc), tk_G D cy ld t [] H → va_S (tk_w t [(20, 0, 0), (12, 0, 0), (9, 0, 0), (20, rg1, rg1), (10, rg1, rg1)]) s.heap H locs → ∀ ls : Array Slot, lv_has ls 7 [(6, .int v11), (1, .ref a1)] → W p l e ({ frames := 6, cells := 0, slots := 0, locals := 350 }) s m args below meth c H locs 0 0 (MQ below (ti D cy ld t [] (fun r H => True) (tk_w t [(20, 0, 0), (12, 0, 0), (9, 0, 0), (20, rg1, rg1), (10, rg1, rg1)])) args s 0 0 (tk_w t [(20, 0, 0), (12, 0, 0), (9, 0, 0), (20, rg1, rg1), (10, rg1, rg1)])) (F0 m 158 ls []) := by
      intro H locs hG hS ls hl
      refine lv_aload_n hx hb dX8_singOn_158 rfl (lv_at hl 1 rfl) ?_
      refine tk_get (ci := 9) (C := RX9) (T := TX9) (N := 11) (sp := (1, 20, 8, 0)) hx hb htl inX9 hown hK hG ht_a1 (by decide) tk_no rfl 0 (by decide) (htl _ mw_918) (fun _ h9 => h9) rfl dX8_singOn_159 (fun v9 hf71 hV9 => ?_)
      obtain ⟨b72, rfl, ht_b72⟩ := hV9
      have ht_b72 : t b72 = (20, 8, rg1) := ht_b72
      refine lv_iload hx hb dX8_singOn_162 (lv_at hl 0 rfl) ?_
      refine tk_iald hx hb hK hG ht_b72 (by decide) (fun _ h => h) tk_no rfl (by omega) (by omega) dX8_singOn_164 (fun v73 _ _ => ?_)
      have hr_v73 := tk_rng v73
      exact tk_iret (v := v73) hx hb hr rfl hlocks trivial hG hS dX8_singOn_165
    refine lv_if_ne (tgt := 154) hx hb dX8_singOn_112 (by decide) (fun c9 => ?_) (fun c9 => ?_)
    · have hc52 : ¬ (v51.toInt = 0) := fun h9 => c9 ((fi_eq rfl (show (0 : Int32).toInt = 0 by decide)).mpr h9)
      refine lv_aload_n hx hb dX8_singOn_154 rfl (lv_at hl 4 rfl) ?_
      refine tk_Vv (As := []) (rest := []) (ci := 9) ⟨hx, hb, hml, hown, hts⟩ hK hG hZ hS (k_X9_passTurn l D cy ld t rg1 a1 ht_a1) trivial ⟨callB_of 0 hts (wl_in mw_979) rfl rfl rfl (htl _ mw_76) (htl _ mw_976) hd_yX9_passTurn ⟨(Nat.le_of_ble_eq_true rfl), (Nat.le_of_ble_eq_true rfl)⟩, htl _ mw_977, htl _ mw_978⟩ ht_a1 (by decide) tk_no rfl (tk_w.pick [4] rfl) rfl hl.1 rfl (Nat.le_of_ble_eq_true rfl) dX8_singOn_155 ⟨(Nat.le_of_ble_eq_true rfl), (Nat.le_of_ble_eq_true rfl)⟩ (fun H locs hpo hG hS hq9 => ?_)
      exact hj70 _ _ hG hS _ (lv_sub hl [0, 4] rfl)
    · have hc52 : v51.toInt = 0 := (fi_eq rfl (show (0 : Int32).toInt = 0 by decide)).mp c9
      refine lv_aload_n hx hb dX8_singOn_115 rfl (lv_at hl 4 rfl) ?_
      refine tk_get (ci := 9) (C := RX9) (T := TX9) (N := 11) (sp := (1, 20, 8, 0)) hx hb htl inX9 hown hK hG ht_a1 (by decide) tk_no rfl 1 (by decide) (htl _ mw_952) (fun _ h9 => h9) rfl dX8_singOn_116 (fun v9 hf75 hV9 => ?_)
      obtain ⟨b76, rfl, ht_b76⟩ := hV9
      have ht_b76 : t b76 = (20, 8, rg1) := ht_b76
      refine lv_iload hx hb dX8_singOn_119 (lv_at hl 0 rfl) ?_
      refine lv_iconst (v := 1) hx hb dX8_singOn_121 (by decide) ?_
      refine tk_iast hx hb hK hG hS ht_b76 (by decide) (fun _ => Iff.rfl) tk_no rfl (by omega) (by omega) trivial (tk_w.of ht_b76 (by decide) (List.mem_of_getElem? (i := 3) rfl) (Nat.le_refl _) (Nat.le_refl _)) dX8_singOn_122 (fun H locs hG hS hq9 => ?_)
      have hg_0 := hg_0.kept (hq9 _ (tk_ne ht_a1 ht_b76 (Or.inl (by decide))))
      refine lv_aload_n hx hb dX8_singOn_123 rfl (lv_at hl 4 rfl) ?_
      refine lv_aload_n hx hb dX8_singOn_124 rfl (lv_at hl 3 rfl) ?_
      refine tk_get (ci := 8) (C := RX8) (T := TX8) (N := 3) (sp := (8, 20, 3, 0)) hx hb htl inX8 hown hK hG ht_a0 (by decide) tk_no rfl 1 (by decide) (htl _ mw_97) (fun _ h9 => h9) rfl dX8_singOn_125 (fun v9 hf78 hV9 => ?_)
      obtain ⟨rfl, ht_ld20⟩ := hV9
      have ht_ld20 : t (ld 20) = (3, 0, 0) := ht_ld20
      refine fx_top (v := .ref (ld 20)) rfl ?_
      refine tk_get (ci := 2) (C := RX2) (T := TX2) (N := 20) (sp := (1, 21, 8, 0)) hx hb htl inX2 hown hK hG ht_ld20 (by decide) tk_no rfl 2 (by decide) (htl _ mw_953) (fun _ h9 => h9) rfl dX8_singOn_128 (fun v9 hf79 hV9 => ?_)
      obtain ⟨b80, rfl, ht_b80⟩ := hV9
      have ht_b80 : t b80 = (21, 8, 0) := ht_b80
      refine lv_iload hx hb dX8_singOn_131 (lv_at hl 1 rfl) ?_
      refine tk_iald hx hb hK hG ht_b80 (by decide) (fun _ h => h) tk_no rfl (by omega) (by omega) dX8_singOn_133 (fun v81 hE9 _ => ?_)
      have he_v81 : 0 ≤ v81.toInt ∧ v81.toInt ≤ 1 := hE9
      refine lv_aload_n hx hb dX8_singOn_134 rfl (lv_at hl 3 rfl) ?_
      refine tk_get (ci := 8) (C := RX8) (T := TX8) (N := 3) (sp := (8, 20, 3, 0)) hx hb htl inX8 hown hK hG ht_a0 (by decide) tk_no rfl 1 (by decide) (htl _ mw_97) (fun _ h9 => h9) rfl dX8_singOn_135 (fun v9 hf82 hV9 => ?_)
      obtain ⟨rfl, ht_ld20⟩ := hV9
      have ht_ld20 : t (ld 20) = (3, 0, 0) := ht_ld20
      refine fx_top (v := .ref (ld 20)) rfl ?_
      refine tk_get (ci := 2) (C := RX2) (T := TX2) (N := 20) (sp := (1, 21, 8, 0)) hx hb htl inX2 hown hK hG ht_ld20 (by decide) tk_no rfl 2 (by decide) (htl _ mw_953) (fun _ h9 => h9) rfl dX8_singOn_138 (fun v9 hf83 hV9 => ?_)
      obtain ⟨b84, rfl, ht_b84⟩ := hV9
      have ht_b84 : t b84 = (21, 8, 0) := ht_b84
      refine lv_iload hx hb dX8_singOn_141 (lv_at hl 0 rfl) ?_
      refine tk_iald hx hb hK hG ht_b84 (by decide) (fun _ h => h) tk_no rfl (by omega) (by omega) dX8_singOn_143 (fun v85 hE9 _ => ?_)
      have he_v85 : 0 ≤ v85.toInt ∧ v85.toInt ≤ 1 := hE9
      refine tk_Vv (As := [.int v81, .int v85]) (rest := []) (ci := 9) ⟨hx, hb, hml, hown, hts⟩ hK hG hZ hS (k_X9_moveCows l D cy ld t rg1 a1 v81 v85 ht_a1 (by omega) (by omega) (by omega) (by omega)) trivial ⟨callB_of 2 hts (wl_in mw_969) rfl rfl rfl (htl _ mw_76) (htl _ mw_966) hd_yX9_moveCows ⟨(Nat.le_of_ble_eq_true rfl), (Nat.le_of_ble_eq_true rfl)⟩, htl _ mw_967, htl _ mw_968⟩ ht_a1 (by decide) tk_no rfl (tk_w.pick [3] rfl) rfl hl.1 rfl (Nat.le_of_ble_eq_true rfl) dX8_singOn_144 ⟨(Nat.le_of_ble_eq_true rfl), (Nat.le_of_ble_eq_true rfl)⟩ (fun H locs hpo hG hS hq9 => ?_)
      have hg_0 := hg_0.call hq9 (tk_w.no ht_a1 (by intro q hq h1 h2 h3; simp only [List.mem_cons, List.not_mem_nil, or_false] at hq; rcases hq with rfl <;> (dsimp only at h1 h2 h3; omega)))
      refine lv_aload_n hx hb dX8_singOn_147 rfl (lv_at hl 4 rfl) ?_
      refine tk_Vv (As := []) (rest := []) (ci := 9) ⟨hx, hb, hml, hown, hts⟩ hK hG hZ hS (k_X9_closeDuel l D cy ld t rg1 a1 ht_a1) trivial ⟨callB_of 0 hts (wl_in mw_975) rfl rfl rfl (htl _ mw_76) (htl _ mw_972) hd_yX9_closeDuel ⟨(Nat.le_of_ble_eq_true rfl), (Nat.le_of_ble_eq_true rfl)⟩, htl _ mw_973, htl _ mw_974⟩ ht_a1 (by decide) tk_no rfl (tk_w.pick [4] rfl) rfl hl.1 rfl (Nat.le_of_ble_eq_true rfl) dX8_singOn_148 ⟨(Nat.le_of_ble_eq_true rfl), (Nat.le_of_ble_eq_true rfl)⟩ (fun H locs hpo hG hS hq9 => ?_)
      have hf88 := hpo
      refine lv_goto (tgt := 158) hx hb dX8_singOn_151 (by decide) ?_
      exact hj70 _ _ hG hS _ (lv_sub hl [0, 4] rfl)
  refine lv_icmp_lt (tgt := 71) hx hb dX8_singOn_57 (by decide) (fun c9 => ?_) (fun c9 => ?_)
  · have hc27 : v2.toInt < v26.toInt := (fi_lt rfl rfl).mp c9
    exact hj35 _ _ hG hS hg_0 _ (lv_sub hl [0, 1, 2, 4, 5, 6] rfl)
  · have hc27 : ¬ (v2.toInt < v26.toInt) := fun h9 => c9 ((fi_lt rfl rfl).mpr h9)
    refine lv_aload_n hx hb dX8_singOn_60 rfl (lv_at hl 5 rfl) ?_
    refine tk_get (ci := 9) (C := RX9) (T := TX9) (N := 11) (sp := (1, 20, 8, 0)) hx hb htl inX9 hown hK hG ht_a1 (by decide) tk_no rfl 2 (by decide) (htl _ mw_951) (fun _ h9 => h9) rfl dX8_singOn_61 (fun v9 hf89 hV9 => ?_)
    obtain ⟨b90, rfl, ht_b90⟩ := hV9
    have ht_b90 : t b90 = (20, 8, rg1) := ht_b90
    refine lv_iload hx hb dX8_singOn_64 (lv_at hl 0 rfl) ?_
    refine lv_dup2_11 hx hb dX8_singOn_66 rfl rfl ?_
    refine tk_iald hx hb hK hG ht_b90 (by decide) (fun _ h => h) tk_no rfl (by omega) (by omega) dX8_singOn_67 (fun v91 _ _ => ?_)
    have hr_v91 := tk_rng v91
    refine lv_iconst (v := 1) hx hb dX8_singOn_68 (by decide) ?_
    refine lv_iadd hx hb dX8_singOn_69 ?_
    obtain ⟨v92, hm_v92⟩ : ∃ z : Int32, v91 + 1 = z := ⟨_, rfl⟩
    refine fx_ti hm_v92 ?_
    refine tk_iast hx hb hK hG hS ht_b90 (by decide) (fun _ => Iff.rfl) tk_no rfl (by omega) (by omega) trivial (tk_w.of ht_b90 (by decide) (List.mem_of_getElem? (i := 3) rfl) (Nat.le_refl _) (Nat.le_refl _)) dX8_singOn_70 (fun H locs hG hS hq9 => ?_)
    have hg_0 := hg_0.kept (hq9 _ (tk_ne ht_a1 ht_b90 (Or.inl (by decide))))
    exact hj35 _ _ hG hS hg_0 _ (lv_sub hl [0, 1, 2, 4, 5, 6] rfl)
theorem dX9_isDuel_0 : decode cX9_isDuel 0 = .ok (.aload_n 0, 1) := by decide +kernel
theorem dX9_isDuel_1 : decode cX9_isDuel 1 = .ok (.getfield 24, 3) := by decide +kernel
theorem dX9_isDuel_4 : decode cX9_isDuel 4 = .ok (.iconst (-1), 1) := by decide +kernel
theorem dX9_isDuel_5 : decode cX9_isDuel 5 = .ok (.if_icmp .eq 7, 3) := by decide +kernel
theorem dX9_isDuel_12 : decode cX9_isDuel 12 = .ok (.iconst 0, 1) := by decide +kernel
theorem dX9_isDuel_13 : decode cX9_isDuel 13 = .ok (.ireturn, 1) := by decide +kernel
theorem dX9_isDuel_8 : decode cX9_isDuel 8 = .ok (.iconst 1, 1) := by decide +kernel
theorem dX9_isDuel_9 : decode cX9_isDuel 9 = .ok (.goto 4, 3) := by decide +kernel
set_option maxHeartbeats 4000000 in
set_option maxRecDepth 100000 in
theorem k_X9_isDuel (l : Launch) (D : va_G) (cy : Nat → ClassId) (ld : Nat → Nat) (t : tk_T) (rg0 : Nat) (a0 : Nat) (g0 : Int32) (ht_a0 : t a0 = (10, 0, rg0)) (hp_0 : (-1) ≤ g0.toInt) (hp_1 : g0.toInt ≤ 7) : Met l yX9_isDuel (wl yX9_isDuel cX9_isDuel 1 (some .boolean)) ({ frames := 3, cells := 0, slots := 0, locals := 140 }) (tp D cy ld t [] [.ref a0] (fun H => tk_f D H a0 9 5 (.int g0))) (ti D cy ld t [] (fun r H => (1 ≤ r.toInt → 0 ≤ g0.toInt) ∧ 0 ≤ r.toInt ∧ r.toInt ≤ 1 ∧ 0 ≤ r.toInt ∧ r.toInt ≤ 1) (tk_w t [])) 0 0 (tk_w t []) := by
  refine tk_met (y := yX9_isDuel) (cc := cX9_isDuel) (maxL := 1) (ret := (some .boolean)) (av := [.ref a0]) _ _ (by decide) (Nat.le_of_ble_eq_true rfl) ?_
  intro p e s m args below meth c hx hb hr hml hts htl hown hlocks hK H locs hH hG hS hB hZ ls hl
  have hown : s.vm.findClass RX9 = some m.cls := hown
  have hl : lv_has ls 1 [(0, .ref a0)] := hl
  have hg_0 := hB
  refine lv_aload_n hx hb dX9_isDuel_0 rfl (lv_at hl 0 rfl) ?_
  refine tk_getk (ci := 9) (C := RX9) (T := TX9) (N := 11) (sp := (0, (-1), 7, 0)) hx hb htl inX9 hown hK hG ht_a0 (by decide) tk_no rfl 5 (by decide) (htl _ mw_86) (fun _ h9 => h9) rfl hg_0 dX9_isDuel_1 ?_
  refine lv_iconst (v := (-1)) hx hb dX9_isDuel_4 (by decide) ?_
  refine lv_icmp_eq (tgt := 12) hx hb dX9_isDuel_5 (by decide) (fun c9 => ?_) (fun c9 => ?_)
  · have hc1 : g0.toInt = (-1) := (fi_eq rfl (show ((-1) : Int32).toInt = (-1) by decide)).mp c9
    refine lv_iconst (v := 0) hx hb dX9_isDuel_12 (by decide) ?_
    have hk_0 : (0 : Int32).toInt = 0 := by decide
    exact tk_iret (v := 0) hx hb hr rfl hlocks (show (1 ≤ (0 : Int32).toInt → 0 ≤ g0.toInt) ∧ 0 ≤ (0 : Int32).toInt ∧ (0 : Int32).toInt ≤ 1 ∧ 0 ≤ (0 : Int32).toInt ∧ (0 : Int32).toInt ≤ 1 from ⟨(fun _ => by omega), (by omega), (by omega), (by omega), (by omega)⟩) hG hS dX9_isDuel_13
  · have hc1 : ¬ (g0.toInt = (-1)) := fun h9 => c9 ((fi_eq rfl (show ((-1) : Int32).toInt = (-1) by decide)).mpr h9)
    refine lv_iconst (v := 1) hx hb dX9_isDuel_8 (by decide) ?_
    refine lv_goto (tgt := 13) hx hb dX9_isDuel_9 (by decide) ?_
    have hk_1 : (1 : Int32).toInt = 1 := by decide
    exact tk_iret (v := 1) hx hb hr rfl hlocks (show (1 ≤ (1 : Int32).toInt → 0 ≤ g0.toInt) ∧ 0 ≤ (1 : Int32).toInt ∧ (1 : Int32).toInt ≤ 1 ∧ 0 ≤ (1 : Int32).toInt ∧ (1 : Int32).toInt ≤ 1 from ⟨(fun _ => by omega), (by omega), (by omega), (by omega), (by omega)⟩) hG hS dX9_isDuel_13
theorem dX9_openDuel_0 : decode cX9_openDuel 0 = .ok (.aload_n 0, 1) := by decide +kernel
theorem dX9_openDuel_1 : decode cX9_openDuel 1 = .ok (.iload_n 1, 1) := by decide +kernel
theorem dX9_openDuel_2 : decode cX9_openDuel 2 = .ok (.putfield 24, 3) := by decide +kernel
theorem dX9_openDuel_5 : decode cX9_openDuel 5 = .ok (.aload_n 0, 1) := by decide +kernel
theorem dX9_openDuel_6 : decode cX9_openDuel 6 = .ok (.iload_n 2, 1) := by decide +kernel
theorem dX9_openDuel_7 : decode cX9_openDuel 7 = .ok (.putfield 28, 3) := by decide +kernel
theorem dX9_openDuel_10 : decode cX9_openDuel 10 = .ok (.aload_n 0, 1) := by decide +kernel
theorem dX9_openDuel_11 : decode cX9_openDuel 11 = .ok (.iload_n 3, 1) := by decide +kernel
theorem dX9_openDuel_12 : decode cX9_openDuel 12 = .ok (.putfield 43, 3) := by decide +kernel
theorem dX9_openDuel_15 : decode cX9_openDuel 15 = .ok (.aload_n 0, 1) := by decide +kernel
theorem dX9_openDuel_16 : decode cX9_openDuel 16 = .ok (.iconst 0, 1) := by decide +kernel
theorem dX9_openDuel_17 : decode cX9_openDuel 17 = .ok (.putfield 46, 3) := by decide +kernel
theorem dX9_openDuel_20 : decode cX9_openDuel 20 = .ok (.aload_n 0, 1) := by decide +kernel
theorem dX9_openDuel_21 : decode cX9_openDuel 21 = .ok (.iconst 0, 1) := by decide +kernel
theorem dX9_openDuel_22 : decode cX9_openDuel 22 = .ok (.putfield 49, 3) := by decide +kernel
theorem dX9_openDuel_25 : decode cX9_openDuel 25 = .ok (.aload_n 0, 1) := by decide +kernel
theorem dX9_openDuel_26 : decode cX9_openDuel 26 = .ok (.iconst (-1), 1) := by decide +kernel
theorem dX9_openDuel_27 : decode cX9_openDuel 27 = .ok (.putfield 31, 3) := by decide +kernel
theorem dX9_openDuel_30 : decode cX9_openDuel 30 = .ok (.return_, 1) := by decide +kernel
set_option maxHeartbeats 4000000 in
set_option maxRecDepth 100000 in
theorem k_X9_openDuel (l : Launch) (D : va_G) (cy : Nat → ClassId) (ld : Nat → Nat) (t : tk_T) (rg0 : Nat) (a0 : Nat) (p1 : Int32) (p2 : Int32) (p3 : Int32) (ht_a0 : t a0 = (10, 0, rg0)) (hp_0 : 0 ≤ p1.toInt) (hp_1 : p1.toInt ≤ 7) (hp_2 : 0 ≤ p2.toInt) (hp_3 : p2.toInt ≤ 7) : Met l yX9_openDuel (wl yX9_openDuel cX9_openDuel 4 none) ({ frames := 3, cells := 0, slots := 0, locals := 140 }) (tp D cy ld t [] [.ref a0, .int p1, .int p2, .int p3] (fun H => True)) (tv D cy ld t [] (fun H => tk_f D H a0 9 5 (.int p1)) (tk_w t [(10, rg0, rg0)])) 0 0 (tk_w t [(10, rg0, rg0)]) := by
  refine tk_met (y := yX9_openDuel) (cc := cX9_openDuel) (maxL := 4) (ret := none) (av := [.ref a0, .int p1, .int p2, .int p3]) _ _ (by decide) (Nat.le_of_ble_eq_true rfl) ?_
  intro p e s m args below meth c hx hb hr hml hts htl hown hlocks hK H locs hH hG hS hB hZ ls hl
  have hown : s.vm.findClass RX9 = some m.cls := hown
  have hl : lv_has ls 4 [(0, .ref a0), (1, .int p1), (2, .int p2), (3, .int p3)] := hl
  have hr_p1 := tk_rng p1
  have hr_p2 := tk_rng p2
  have hr_p3 := tk_rng p3
  obtain ⟨b1, b2, b3, b4, v5, v6, v7, v8, v9, v10, v11, hat, ht_b1, ht_b2, ht_b3, ht_b4, ha_v5, hb_v5, ha_v6, hb_v6, ha_v7, hb_v7, ha_v8, hb_v8, ha_v9, hb_v9, ha_v10, hb_v10, ha_v11, hb_v11, hxx9⟩ := tk_op9 hG ht_a0
  have hG := hG.hole (a := a0)
  refine lv_aload_n hx hb dX9_openDuel_0 rfl (lv_at hl 0 rfl) ?_
  refine lv_iload_n hx hb dX9_openDuel_1 rfl (lv_at hl 1 rfl) ?_
  refine tk_put0 (ci := 9) (v := .int p1) (ty := .int) (C := RX9) (T := TX9) (N := 11) hx hb htl inX9 tyX9 tyX9_ok nmX9 hown hK hat rfl 5 (by decide) (htl _ mw_86) (fun _ h9 => h9) rfl (tyX9_ok 5 (by decide)) rfl rfl (Nat.le_of_ble_eq_true rfl) dX9_openDuel_2 (fun H j9 hat z9 hq9 => ?_)
  have hS := hS.put (k := j9) z9 hq9 (tk_w.of ht_a0 (by decide) (List.mem_of_getElem? (i := 0) rfl) (Nat.le_refl _) (Nat.le_refl _))
  have hG := hG.ajar (List.mem_singleton.mpr rfl) hq9
  have hat : va_at D vwCl (a0, .inr (9, [.ref b1, .ref b2, .ref b3, .ref b4, .int v5, .int p1, .int v7, .int v8, .int v9, .int v10, .int v11])) H := hat
  generalize locs ++ [_] = locs at hS ⊢
  refine lv_aload_n hx hb dX9_openDuel_5 rfl (lv_at hl 0 rfl) ?_
  refine lv_iload_n hx hb dX9_openDuel_6 rfl (lv_at hl 2 rfl) ?_
  refine tk_put0 (ci := 9) (v := .int p2) (ty := .int) (C := RX9) (T := TX9) (N := 11) hx hb htl inX9 tyX9 tyX9_ok nmX9 hown hK hat rfl 6 (by decide) (htl _ mw_87) (fun _ h9 => h9) rfl (tyX9_ok 6 (by decide)) rfl rfl (Nat.le_of_ble_eq_true rfl) dX9_openDuel_7 (fun H j9 hat z9 hq9 => ?_)
  have hS := hS.put (k := j9) z9 hq9 (tk_w.of ht_a0 (by decide) (List.mem_of_getElem? (i := 0) rfl) (Nat.le_refl _) (Nat.le_refl _))
  have hG := hG.ajar (List.mem_singleton.mpr rfl) hq9
  have hat : va_at D vwCl (a0, .inr (9, [.ref b1, .ref b2, .ref b3, .ref b4, .int v5, .int p1, .int p2, .int v8, .int v9, .int v10, .int v11])) H := hat
  generalize locs ++ [_] = locs at hS ⊢
  refine lv_aload_n hx hb dX9_openDuel_10 rfl (lv_at hl 0 rfl) ?_
  refine lv_iload_n hx hb dX9_openDuel_11 rfl (lv_at hl 3 rfl) ?_
  refine tk_put0 (ci := 9) (v := .int p3) (ty := .int) (C := RX9) (T := TX9) (N := 11) hx hb htl inX9 tyX9 tyX9_ok nmX9 hown hK hat rfl 7 (by decide) (htl _ mw_824) (fun _ h9 => h9) rfl (tyX9_ok 7 (by decide)) rfl rfl (Nat.le_of_ble_eq_true rfl) dX9_openDuel_12 (fun H j9 hat z9 hq9 => ?_)
  have hS := hS.put (k := j9) z9 hq9 (tk_w.of ht_a0 (by decide) (List.mem_of_getElem? (i := 0) rfl) (Nat.le_refl _) (Nat.le_refl _))
  have hG := hG.ajar (List.mem_singleton.mpr rfl) hq9
  have hat : va_at D vwCl (a0, .inr (9, [.ref b1, .ref b2, .ref b3, .ref b4, .int v5, .int p1, .int p2, .int p3, .int v9, .int v10, .int v11])) H := hat
  generalize locs ++ [_] = locs at hS ⊢
  refine lv_aload_n hx hb dX9_openDuel_15 rfl (lv_at hl 0 rfl) ?_
  refine lv_iconst (v := 0) hx hb dX9_openDuel_16 (by decide) ?_
  refine tk_put0 (ci := 9) (v := .int 0) (ty := .int) (C := RX9) (T := TX9) (N := 11) hx hb htl inX9 tyX9 tyX9_ok nmX9 hown hK hat rfl 8 (by decide) (htl _ mw_825) (fun _ h9 => h9) rfl (tyX9_ok 8 (by decide)) rfl rfl (Nat.le_of_ble_eq_true rfl) dX9_openDuel_17 (fun H j9 hat z9 hq9 => ?_)
  have hS := hS.put (k := j9) z9 hq9 (tk_w.of ht_a0 (by decide) (List.mem_of_getElem? (i := 0) rfl) (Nat.le_refl _) (Nat.le_refl _))
  have hG := hG.ajar (List.mem_singleton.mpr rfl) hq9
  have hat : va_at D vwCl (a0, .inr (9, [.ref b1, .ref b2, .ref b3, .ref b4, .int v5, .int p1, .int p2, .int p3, .int 0, .int v10, .int v11])) H := hat
  generalize locs ++ [_] = locs at hS ⊢
  refine lv_aload_n hx hb dX9_openDuel_20 rfl (lv_at hl 0 rfl) ?_
  refine lv_iconst (v := 0) hx hb dX9_openDuel_21 (by decide) ?_
  refine tk_put0 (ci := 9) (v := .int 0) (ty := .boolean) (C := RX9) (T := TX9) (N := 11) hx hb htl inX9 tyX9 tyX9_ok nmX9 hown hK hat rfl 9 (by decide) (htl _ mw_826) (fun _ h9 => h9) rfl (tyX9_ok 9 (by decide)) rfl rfl (Nat.le_of_ble_eq_true rfl) dX9_openDuel_22 (fun H j9 hat z9 hq9 => ?_)
  have hS := hS.put (k := j9) z9 hq9 (tk_w.of ht_a0 (by decide) (List.mem_of_getElem? (i := 0) rfl) (Nat.le_refl _) (Nat.le_refl _))
  have hG := hG.ajar (List.mem_singleton.mpr rfl) hq9
  have hat : va_at D vwCl (a0, .inr (9, [.ref b1, .ref b2, .ref b3, .ref b4, .int v5, .int p1, .int p2, .int p3, .int 0, .int 0, .int v11])) H := hat
  generalize locs ++ [_] = locs at hS ⊢
  refine lv_aload_n hx hb dX9_openDuel_25 rfl (lv_at hl 0 rfl) ?_
  refine lv_iconst (v := (-1)) hx hb dX9_openDuel_26 (by decide) ?_
  refine tk_put0 (ci := 9) (v := .int (-1)) (ty := .int) (C := RX9) (T := TX9) (N := 11) hx hb htl inX9 tyX9 tyX9_ok nmX9 hown hK hat rfl 10 (by decide) (htl _ mw_88) (fun _ h9 => h9) rfl (tyX9_ok 10 (by decide)) rfl rfl (Nat.le_of_ble_eq_true rfl) dX9_openDuel_27 (fun H j9 hat z9 hq9 => ?_)
  have hS := hS.put (k := j9) z9 hq9 (tk_w.of ht_a0 (by decide) (List.mem_of_getElem? (i := 0) rfl) (Nat.le_refl _) (Nat.le_refl _))
  have hG := hG.ajar (List.mem_singleton.mpr rfl) hq9
  have hat : va_at D vwCl (a0, .inr (9, [.ref b1, .ref b2, .ref b3, .ref b4, .int v5, .int p1, .int p2, .int p3, .int 0, .int 0, .int (-1)])) H := hat
  generalize locs ++ [_] = locs at hS ⊢
  have hk_0 : (0 : Int32).toInt = 0 := by decide
  have hk_0 : (0 : Int32).toInt = 0 := by decide
  have hk_m1 : ((-1) : Int32).toInt = (-1) := by decide
  have hG := tk_cl9 hG ht_a0 hat ht_b1 ht_b2 ht_b3 ht_b4 (tk_rng _).1 (tk_rng _).2 (by omega) (by omega) (by omega) (by omega) (tk_rng _).1 (tk_rng _).2 (tk_rng _).1 (tk_rng _).2 (by omega) (by omega) (tk_rng _).1 (tk_rng _).2 (by omega)
  have hf18 : tk_f D H a0 9 5 (.int p1) := tk_f.of hat (C := RX9) (T := TX9) (N := 11) rfl (by decide) rfl
  exact tk_vret hx hb hr hlocks (show tk_f D H a0 9 5 (.int p1) from hf18) hG hS dX9_openDuel_30
theorem dX0_singDay_0 : decode cX0_singDay 0 = .ok (.aload_n 0, 1) := by decide +kernel
theorem dX0_singDay_1 : decode cX0_singDay 1 = .ok (.iconst 0, 1) := by decide +kernel
theorem dX0_singDay_2 : decode cX0_singDay 2 = .ok (.aload_n 0, 1) := by decide +kernel
theorem dX0_singDay_3 : decode cX0_singDay 3 = .ok (.aload_n 0, 1) := by decide +kernel
theorem dX0_singDay_4 : decode cX0_singDay 4 = .ok (.getfield 25, 3) := by decide +kernel
theorem dX0_singDay_7 : decode cX0_singDay 7 = .ok (.iconst 0, 1) := by decide +kernel
theorem dX0_singDay_8 : decode cX0_singDay 8 = .ok (.invokevirtual 76, 3) := by decide +kernel
theorem dX0_singDay_11 : decode cX0_singDay 11 = .ok (.invokevirtual 80, 3) := by decide +kernel
theorem dX0_singDay_14 : decode cX0_singDay 14 = .ok (.invokevirtual 83, 3) := by decide +kernel
theorem dX0_singDay_17 : decode cX0_singDay 17 = .ok (.istore_n 1, 1) := by decide +kernel
theorem dX0_singDay_18 : decode cX0_singDay 18 = .ok (.aload_n 0, 1) := by decide +kernel
theorem dX0_singDay_19 : decode cX0_singDay 19 = .ok (.iconst 1, 1) := by decide +kernel
theorem dX0_singDay_20 : decode cX0_singDay 20 = .ok (.aload_n 0, 1) := by decide +kernel
theorem dX0_singDay_21 : decode cX0_singDay 21 = .ok (.aload_n 0, 1) := by decide +kernel
theorem dX0_singDay_22 : decode cX0_singDay 22 = .ok (.getfield 25, 3) := by decide +kernel
theorem dX0_singDay_25 : decode cX0_singDay 25 = .ok (.iconst 1, 1) := by decide +kernel
theorem dX0_singDay_26 : decode cX0_singDay 26 = .ok (.invokevirtual 76, 3) := by decide +kernel
theorem dX0_singDay_29 : decode cX0_singDay 29 = .ok (.invokevirtual 80, 3) := by decide +kernel
theorem dX0_singDay_32 : decode cX0_singDay 32 = .ok (.invokevirtual 83, 3) := by decide +kernel
theorem dX0_singDay_35 : decode cX0_singDay 35 = .ok (.istore_n 2, 1) := by decide +kernel
theorem dX0_singDay_36 : decode cX0_singDay 36 = .ok (.aload_n 0, 1) := by decide +kernel
theorem dX0_singDay_37 : decode cX0_singDay 37 = .ok (.bipush 20, 2) := by decide +kernel
theorem dX0_singDay_39 : decode cX0_singDay 39 = .ok (.invokevirtual 80, 3) := by decide +kernel
theorem dX0_singDay_42 : decode cX0_singDay 42 = .ok (.iconst 1, 1) := by decide +kernel
theorem dX0_singDay_43 : decode cX0_singDay 43 = .ok (.iadd, 1) := by decide +kernel
theorem dX0_singDay_44 : decode cX0_singDay 44 = .ok (.istore_n 3, 1) := by decide +kernel
theorem dX0_singDay_45 : decode cX0_singDay 45 = .ok (.iload_n 1, 1) := by decide +kernel
theorem dX0_singDay_46 : decode cX0_singDay 46 = .ok (.iconst (-1), 1) := by decide +kernel
theorem dX0_singDay_47 : decode cX0_singDay 47 = .ok (.if_icmp .eq 32, 3) := by decide +kernel
theorem dX0_singDay_79 : decode cX0_singDay 79 = .ok (.iconst 0, 1) := by decide +kernel
theorem dX0_singDay_80 : decode cX0_singDay 80 = .ok (.ireturn, 1) := by decide +kernel
theorem dX0_singDay_50 : decode cX0_singDay 50 = .ok (.iload_n 2, 1) := by decide +kernel
theorem dX0_singDay_51 : decode cX0_singDay 51 = .ok (.iconst (-1), 1) := by decide +kernel
theorem dX0_singDay_52 : decode cX0_singDay 52 = .ok (.if_icmp .eq 27, 3) := by decide +kernel
theorem dX0_singDay_55 : decode cX0_singDay 55 = .ok (.aload_n 0, 1) := by decide +kernel
theorem dX0_singDay_56 : decode cX0_singDay 56 = .ok (.getfield 12, 3) := by decide +kernel
theorem dX0_singDay_59 : decode cX0_singDay 59 = .ok (.getfield 87, 3) := by decide +kernel
theorem dX0_singDay_62 : decode cX0_singDay 62 = .ok (.iload_n 1, 1) := by decide +kernel
theorem dX0_singDay_63 : decode cX0_singDay 63 = .ok (.iaload, 1) := by decide +kernel
theorem dX0_singDay_64 : decode cX0_singDay 64 = .ok (.ifCond .eq 15, 3) := by decide +kernel
theorem dX0_singDay_67 : decode cX0_singDay 67 = .ok (.aload_n 0, 1) := by decide +kernel
theorem dX0_singDay_68 : decode cX0_singDay 68 = .ok (.getfield 12, 3) := by decide +kernel
theorem dX0_singDay_71 : decode cX0_singDay 71 = .ok (.getfield 87, 3) := by decide +kernel
theorem dX0_singDay_74 : decode cX0_singDay 74 = .ok (.iload_n 2, 1) := by decide +kernel
theorem dX0_singDay_75 : decode cX0_singDay 75 = .ok (.iaload, 1) := by decide +kernel
theorem dX0_singDay_76 : decode cX0_singDay 76 = .ok (.ifCond .ne 5, 3) := by decide +kernel
theorem dX0_singDay_81 : decode cX0_singDay 81 = .ok (.aload_n 0, 1) := by decide +kernel
theorem dX0_singDay_82 : decode cX0_singDay 82 = .ok (.getfield 12, 3) := by decide +kernel
theorem dX0_singDay_85 : decode cX0_singDay 85 = .ok (.iload_n 1, 1) := by decide +kernel
theorem dX0_singDay_86 : decode cX0_singDay 86 = .ok (.iload_n 2, 1) := by decide +kernel
theorem dX0_singDay_87 : decode cX0_singDay 87 = .ok (.iload_n 3, 1) := by decide +kernel
theorem dX0_singDay_88 : decode cX0_singDay 88 = .ok (.invokevirtual 90, 3) := by decide +kernel
theorem dX0_singDay_91 : decode cX0_singDay 91 = .ok (.iconst 0, 1) := by decide +kernel
theorem dX0_singDay_92 : decode cX0_singDay 92 = .ok (.istore 4, 2) := by decide +kernel
theorem dX0_singDay_94 : decode cX0_singDay 94 = .ok (.iload 4, 2) := by decide +kernel
theorem dX0_singDay_96 : decode cX0_singDay 96 = .ok (.bipush 24, 2) := by decide +kernel
theorem dX0_singDay_98 : decode cX0_singDay 98 = .ok (.if_icmp .ge 90, 3) := by decide +kernel
theorem dX0_singDay_188 : decode cX0_singDay 188 = .ok (.aload_n 0, 1) := by decide +kernel
theorem dX0_singDay_189 : decode cX0_singDay 189 = .ok (.getfield 12, 3) := by decide +kernel
theorem dX0_singDay_192 : decode cX0_singDay 192 = .ok (.invokevirtual 48, 3) := by decide +kernel
theorem dX0_singDay_195 : decode cX0_singDay 195 = .ok (.iconst 0, 1) := by decide +kernel
theorem dX0_singDay_196 : decode cX0_singDay 196 = .ok (.ireturn, 1) := by decide +kernel
theorem dX0_singDay_101 : decode cX0_singDay 101 = .ok (.aload_n 0, 1) := by decide +kernel
theorem dX0_singDay_102 : decode cX0_singDay 102 = .ok (.getfield 12, 3) := by decide +kernel
theorem dX0_singDay_105 : decode cX0_singDay 105 = .ok (.invokevirtual 94, 3) := by decide +kernel
theorem dX0_singDay_108 : decode cX0_singDay 108 = .ok (.ifCond .eq 80, 3) := by decide +kernel
theorem dX0_singDay_111 : decode cX0_singDay 111 = .ok (.aload_n 0, 1) := by decide +kernel
theorem dX0_singDay_112 : decode cX0_singDay 112 = .ok (.getfield 12, 3) := by decide +kernel
theorem dX0_singDay_115 : decode cX0_singDay 115 = .ok (.invokevirtual 98, 3) := by decide +kernel
theorem dX0_singDay_118 : decode cX0_singDay 118 = .ok (.istore 5, 2) := by decide +kernel
theorem dX0_singDay_120 : decode cX0_singDay 120 = .ok (.aload_n 0, 1) := by decide +kernel
theorem dX0_singDay_121 : decode cX0_singDay 121 = .ok (.invokevirtual 101, 3) := by decide +kernel
theorem dX0_singDay_124 : decode cX0_singDay 124 = .ok (.istore 6, 2) := by decide +kernel
theorem dX0_singDay_126 : decode cX0_singDay 126 = .ok (.iload 6, 2) := by decide +kernel
theorem dX0_singDay_128 : decode cX0_singDay 128 = .ok (.ifCond .ne 6, 3) := by decide +kernel
theorem dX0_singDay_134 : decode cX0_singDay 134 = .ok (.aload_n 0, 1) := by decide +kernel
theorem dX0_singDay_135 : decode cX0_singDay 135 = .ok (.getfield 29, 3) := by decide +kernel
theorem dX0_singDay_138 : decode cX0_singDay 138 = .ok (.aload_n 0, 1) := by decide +kernel
theorem dX0_singDay_139 : decode cX0_singDay 139 = .ok (.getfield 12, 3) := by decide +kernel
theorem dX0_singDay_142 : decode cX0_singDay 142 = .ok (.aload_n 0, 1) := by decide +kernel
theorem dX0_singDay_143 : decode cX0_singDay 143 = .ok (.getfield 22, 3) := by decide +kernel
theorem dX0_singDay_146 : decode cX0_singDay 146 = .ok (.aload_n 0, 1) := by decide +kernel
theorem dX0_singDay_147 : decode cX0_singDay 147 = .ok (.iload 6, 2) := by decide +kernel
theorem dX0_singDay_149 : decode cX0_singDay 149 = .ok (.invokevirtual 80, 3) := by decide +kernel
theorem dX0_singDay_152 : decode cX0_singDay 152 = .ok (.iaload, 1) := by decide +kernel
theorem dX0_singDay_153 : decode cX0_singDay 153 = .ok (.invokevirtual 104, 3) := by decide +kernel
theorem dX0_singDay_156 : decode cX0_singDay 156 = .ok (.ifCond .ne 26, 3) := by decide +kernel
theorem dX0_singDay_182 : decode cX0_singDay 182 = .ok (.iinc 4 1, 3) := by decide +kernel
theorem dX0_singDay_185 : decode cX0_singDay 185 = .ok (.goto (-91), 3) := by decide +kernel
theorem dX0_singDay_159 : decode cX0_singDay 159 = .ok (.aload_n 0, 1) := by decide +kernel
theorem dX0_singDay_160 : decode cX0_singDay 160 = .ok (.getfield 18, 3) := by decide +kernel
theorem dX0_singDay_163 : decode cX0_singDay 163 = .ok (.iload 5, 2) := by decide +kernel
theorem dX0_singDay_165 : decode cX0_singDay 165 = .ok (.dup2, 1) := by decide +kernel
theorem dX0_singDay_166 : decode cX0_singDay 166 = .ok (.iaload, 1) := by decide +kernel
theorem dX0_singDay_167 : decode cX0_singDay 167 = .ok (.iconst 1, 1) := by decide +kernel
theorem dX0_singDay_168 : decode cX0_singDay 168 = .ok (.iadd, 1) := by decide +kernel
theorem dX0_singDay_169 : decode cX0_singDay 169 = .ok (.iastore, 1) := by decide +kernel
theorem dX0_singDay_170 : decode cX0_singDay 170 = .ok (.iload 5, 2) := by decide +kernel
theorem dX0_singDay_172 : decode cX0_singDay 172 = .ok (.iload_n 2, 1) := by decide +kernel
theorem dX0_singDay_173 : decode cX0_singDay 173 = .ok (.if_icmp .ne 7, 3) := by decide +kernel
theorem dX0_singDay_180 : decode cX0_singDay 180 = .ok (.iconst 0, 1) := by decide +kernel
theorem dX0_singDay_181 : decode cX0_singDay 181 = .ok (.ireturn, 1) := by decide +kernel
theorem dX0_singDay_176 : decode cX0_singDay 176 = .ok (.iconst 1, 1) := by decide +kernel
theorem dX0_singDay_177 : decode cX0_singDay 177 = .ok (.goto 4, 3) := by decide +kernel
theorem dX0_singDay_131 : decode cX0_singDay 131 = .ok (.goto 57, 3) := by decide +kernel
set_option maxHeartbeats 4000000 in
set_option maxRecDepth 100000 in
theorem k_X0_singDay (l : Launch) (D : va_G) (cy : Nat → ClassId) (ld : Nat → Nat) (t : tk_T) (a0 : Nat) (ht_a0 : t a0 = (1, 0, 0)) : Met l yX0_singDay (wl yX0_singDay cX0_singDay 7 (some .int)) ({ frames := 7, cells := 0, slots := 0, locals := 420 }) (tp D cy ld t [] [.ref a0] (fun H => True)) (ti D cy ld t [] (fun r H => 0 ≤ r.toInt ∧ r.toInt ≤ 1) (tk_w t [(1, 0, 0), (10, 5, 5), (20, 0, 0), (12, 0, 0), (9, 0, 0), (22, 0, 0), (20, 5, 5)])) 0 0 (tk_w t [(1, 0, 0), (10, 5, 5), (20, 0, 0), (12, 0, 0), (9, 0, 0), (22, 0, 0), (20, 5, 5)]) := by
  refine tk_met (y := yX0_singDay) (cc := cX0_singDay) (maxL := 7) (ret := (some .int)) (av := [.ref a0]) _ _ (by decide) (Nat.le_of_ble_eq_true rfl) ?_
  intro p e s m args below meth c hx hb hr hml hts htl hown hlocks hK H locs hH hG hS hB hZ ls hl
  have hown : s.vm.findClass RX0 = some m.cls := hown
  have hl : lv_has ls 7 [(0, .ref a0)] := hl
  refine lv_aload_n hx hb dX0_singDay_0 rfl (lv_at hl 0 rfl) ?_
  refine lv_iconst (v := 0) hx hb dX0_singDay_1 (by decide) ?_
  refine lv_aload_n hx hb dX0_singDay_2 rfl (lv_at hl 0 rfl) ?_
  refine lv_aload_n hx hb dX0_singDay_3 rfl (lv_at hl 0 rfl) ?_
  refine tk_get (ci := 0) (C := RX0) (T := TX0) (N := 7) (sp := (8, 20, 3, 0)) hx hb htl inX0 hown hK hG ht_a0 (by decide) tk_no rfl 3 (by decide) (htl _ mw_166) (fun _ h9 => h9) rfl dX0_singDay_4 (fun v9 hf1 hV9 => ?_)
  obtain ⟨rfl, ht_ld20⟩ := hV9
  have ht_ld20 : t (ld 20) = (3, 0, 0) := ht_ld20
  refine fx_top (v := .ref (ld 20)) rfl ?_
  refine lv_iconst (v := 0) hx hb dX0_singDay_7 (by decide) ?_
  have hk_0 : (0 : Int32).toInt = 0 := by decide
  refine tk_Vi (As := [.int 0]) (rest := [.ref a0, .int 0, .ref a0]) (ci := 2) ⟨hx, hb, hml, hown, hts⟩ hK hG hZ hS (k_X2_howManyOf l D cy ld t (ld 20) 0 ht_ld20) trivial ⟨callB_of 1 hts (wl_in mw_1635) rfl rfl rfl (htl _ mw_14) (htl _ mw_1656) hd_yX2_howManyOf ⟨(Nat.le_of_ble_eq_true rfl), (Nat.le_of_ble_eq_true rfl)⟩, htl _ mw_1633, htl _ mw_1634⟩ ht_ld20 (by decide) tk_no rfl (tk_w.pick [] rfl) rfl hl.1 rfl (Nat.le_of_ble_eq_true rfl) dX0_singDay_8 ⟨(Nat.le_of_ble_eq_true rfl), (Nat.le_of_ble_eq_true rfl)⟩ (fun v2 H locs hpo hG hS hq9 => ?_)
  obtain ⟨hpo4, hpo5⟩ := hpo
  refine tk_Vi (As := [.int v2]) (rest := [.int 0, .ref a0]) (ci := 0) ⟨hx, hb, hml, hown, hts⟩ hK hG hZ hS (k_X0_draw l D cy ld t a0 v2 ht_a0) trivial ⟨callB_of 1 hts (wl_in mw_1660) rfl rfl rfl (htl _ mw_44) (htl _ mw_1657) hd_yX0_draw ⟨(Nat.le_of_ble_eq_true rfl), (Nat.le_of_ble_eq_true rfl)⟩, htl _ mw_1658, htl _ mw_1659⟩ ht_a0 (by decide) tk_no rfl (tk_w.pick [0] rfl) rfl hl.1 rfl (Nat.le_of_ble_eq_true rfl) dX0_singDay_11 ⟨(Nat.le_of_ble_eq_true rfl), (Nat.le_of_ble_eq_true rfl)⟩ (fun v6 H locs hpo hG hS hq9 => ?_)
  obtain ⟨hpo8, hpo9, hpo10, hpo11⟩ := hpo
  have hk_0 : (0 : Int32).toInt = 0 := by decide
  refine tk_Vi (As := [.int 0, .int v6]) (rest := []) (ci := 0) ⟨hx, hb, hml, hown, hts⟩ hK hG hZ hS (k_X0_singerOf l D cy ld t a0 0 v6 ht_a0) trivial ⟨callB_of 2 hts (wl_in mw_1667) rfl rfl rfl (htl _ mw_44) (htl _ mw_1664) hd_yX0_singerOf ⟨(Nat.le_of_ble_eq_true rfl), (Nat.le_of_ble_eq_true rfl)⟩, htl _ mw_1665, htl _ mw_1666⟩ ht_a0 (by decide) tk_no rfl (tk_w.pick [] rfl) rfl hl.1 rfl (Nat.le_of_ble_eq_true rfl) dX0_singDay_14 ⟨(Nat.le_of_ble_eq_true rfl), (Nat.le_of_ble_eq_true rfl)⟩ (fun v12 H locs hpo hG hS hq9 => ?_)
  obtain ⟨hpo14, hpo15⟩ := hpo
  refine lv_istore_n (lv' := [(1, .int v12), (0, .ref a0)]) hx hb dX0_singDay_17 rfl hl (by decide) rfl (fun ls hl => ?_)
  refine lv_aload_n hx hb dX0_singDay_18 rfl (lv_at hl 1 rfl) ?_
  refine lv_iconst (v := 1) hx hb dX0_singDay_19 (by decide) ?_
  refine lv_aload_n hx hb dX0_singDay_20 rfl (lv_at hl 1 rfl) ?_
  refine lv_aload_n hx hb dX0_singDay_21 rfl (lv_at hl 1 rfl) ?_
  refine tk_get (ci := 0) (C := RX0) (T := TX0) (N := 7) (sp := (8, 20, 3, 0)) hx hb htl inX0 hown hK hG ht_a0 (by decide) tk_no rfl 3 (by decide) (htl _ mw_166) (fun _ h9 => h9) rfl dX0_singDay_22 (fun v9 hf16 hV9 => ?_)
  obtain ⟨rfl, ht_ld20⟩ := hV9
  have ht_ld20 : t (ld 20) = (3, 0, 0) := ht_ld20
  refine fx_top (v := .ref (ld 20)) rfl ?_
  refine lv_iconst (v := 1) hx hb dX0_singDay_25 (by decide) ?_
  have hk_1 : (1 : Int32).toInt = 1 := by decide
  refine tk_Vi (As := [.int 1]) (rest := [.ref a0, .int 1, .ref a0]) (ci := 2) ⟨hx, hb, hml, hown, hts⟩ hK hG hZ hS (k_X2_howManyOf l D cy ld t (ld 20) 1 ht_ld20) trivial ⟨callB_of 1 hts (wl_in mw_1635) rfl rfl rfl (htl _ mw_14) (htl _ mw_1656) hd_yX2_howManyOf ⟨(Nat.le_of_ble_eq_true rfl), (Nat.le_of_ble_eq_true rfl)⟩, htl _ mw_1633, htl _ mw_1634⟩ ht_ld20 (by decide) tk_no rfl (tk_w.pick [] rfl) rfl hl.1 rfl (Nat.le_of_ble_eq_true rfl) dX0_singDay_26 ⟨(Nat.le_of_ble_eq_true rfl), (Nat.le_of_ble_eq_true rfl)⟩ (fun v17 H locs hpo hG hS hq9 => ?_)
  obtain ⟨hpo19, hpo20⟩ := hpo
  refine tk_Vi (As := [.int v17]) (rest := [.int 1, .ref a0]) (ci := 0) ⟨hx, hb, hml, hown, hts⟩ hK hG hZ hS (k_X0_draw l D cy ld t a0 v17 ht_a0) trivial ⟨callB_of 1 hts (wl_in mw_1660) rfl rfl rfl (htl _ mw_44) (htl _ mw_1657) hd_yX0_draw ⟨(Nat.le_of_ble_eq_true rfl), (Nat.le_of_ble_eq_true rfl)⟩, htl _ mw_1658, htl _ mw_1659⟩ ht_a0 (by decide) tk_no rfl (tk_w.pick [0] rfl) rfl hl.1 rfl (Nat.le_of_ble_eq_true rfl) dX0_singDay_29 ⟨(Nat.le_of_ble_eq_true rfl), (Nat.le_of_ble_eq_true rfl)⟩ (fun v21 H locs hpo hG hS hq9 => ?_)
  obtain ⟨hpo23, hpo24, hpo25, hpo26⟩ := hpo
  have hk_1 : (1 : Int32).toInt = 1 := by decide
  refine tk_Vi (As := [.int 1, .int v21]) (rest := []) (ci := 0) ⟨hx, hb, hml, hown, hts⟩ hK hG hZ hS (k_X0_singerOf l D cy ld t a0 1 v21 ht_a0) trivial ⟨callB_of 2 hts (wl_in mw_1667) rfl rfl rfl (htl _ mw_44) (htl _ mw_1664) hd_yX0_singerOf ⟨(Nat.le_of_ble_eq_true rfl), (Nat.le_of_ble_eq_true rfl)⟩, htl _ mw_1665, htl _ mw_1666⟩ ht_a0 (by decide) tk_no rfl (tk_w.pick [] rfl) rfl hl.1 rfl (Nat.le_of_ble_eq_true rfl) dX0_singDay_32 ⟨(Nat.le_of_ble_eq_true rfl), (Nat.le_of_ble_eq_true rfl)⟩ (fun v27 H locs hpo hG hS hq9 => ?_)
  obtain ⟨hpo29, hpo30⟩ := hpo
  refine lv_istore_n (lv' := [(2, .int v27), (1, .int v12), (0, .ref a0)]) hx hb dX0_singDay_35 rfl hl (by decide) rfl (fun ls hl => ?_)
  refine lv_aload_n hx hb dX0_singDay_36 rfl (lv_at hl 2 rfl) ?_
  refine lv_bipush (v := 20) hx hb dX0_singDay_37 (by decide) ?_
  have hk_20 : (20 : Int32).toInt = 20 := by decide
  refine tk_Vi (As := [.int 20]) (rest := []) (ci := 0) ⟨hx, hb, hml, hown, hts⟩ hK hG hZ hS (k_X0_draw l D cy ld t a0 20 ht_a0) trivial ⟨callB_of 1 hts (wl_in mw_1660) rfl rfl rfl (htl _ mw_44) (htl _ mw_1657) hd_yX0_draw ⟨(Nat.le_of_ble_eq_true rfl), (Nat.le_of_ble_eq_true rfl)⟩, htl _ mw_1658, htl _ mw_1659⟩ ht_a0 (by decide) tk_no rfl (tk_w.pick [0] rfl) rfl hl.1 rfl (Nat.le_of_ble_eq_true rfl) dX0_singDay_39 ⟨(Nat.le_of_ble_eq_true rfl), (Nat.le_of_ble_eq_true rfl)⟩ (fun v31 H locs hpo hG hS hq9 => ?_)
  obtain ⟨hpo33, hpo34, hpo35, hpo36⟩ := hpo
  refine lv_iconst (v := 1) hx hb dX0_singDay_42 (by decide) ?_
  refine lv_iadd hx hb dX0_singDay_43 ?_
  refine tk_add rfl (show (1 : Int32).toInt = 1 by decide) (by omega) (by omega) (fun v37 h_v37 => ?_)
  refine lv_istore_n (lv' := [(3, .int v37), (2, .int v27), (1, .int v12), (0, .ref a0)]) hx hb dX0_singDay_44 rfl hl (by decide) rfl (fun ls hl => ?_)
  refine lv_iload_n hx hb dX0_singDay_45 rfl (lv_at hl 2 rfl) ?_
  refine lv_iconst (v := (-1)) hx hb dX0_singDay_46 (by decide) ?_
  refine lv_icmp_eq (tgt := 79) hx hb dX0_singDay_47 (by decide) (fun c9 => ?_) (fun c9 => ?_)
  · have hc38 : v12.toInt = (-1) := (fi_eq rfl (show ((-1) : Int32).toInt = (-1) by decide)).mp c9
    refine lv_iconst (v := 0) hx hb dX0_singDay_79 (by decide) ?_
    have hk_0 : (0 : Int32).toInt = 0 := by decide
    exact tk_iret (v := 0) hx hb hr rfl hlocks (show 0 ≤ (0 : Int32).toInt ∧ (0 : Int32).toInt ≤ 1 from ⟨(by omega), (by omega)⟩) hG hS dX0_singDay_80
  · have hc38 : ¬ (v12.toInt = (-1)) := fun h9 => c9 ((fi_eq rfl (show ((-1) : Int32).toInt = (-1) by decide)).mpr h9)
    refine lv_iload_n hx hb dX0_singDay_50 rfl (lv_at hl 1 rfl) ?_
    refine lv_iconst (v := (-1)) hx hb dX0_singDay_51 (by decide) ?_
    refine lv_icmp_eq (tgt := 79) hx hb dX0_singDay_52 (by decide) (fun c9 => ?_) (fun c9 => ?_)
    · have hc39 : v27.toInt = (-1) := (fi_eq rfl (show ((-1) : Int32).toInt = (-1) by decide)).mp c9
      refine lv_iconst (v := 0) hx hb dX0_singDay_79 (by decide) ?_
      have hk_0 : (0 : Int32).toInt = 0 := by decide
      exact tk_iret (v := 0) hx hb hr rfl hlocks (show 0 ≤ (0 : Int32).toInt ∧ (0 : Int32).toInt ≤ 1 from ⟨(by omega), (by omega)⟩) hG hS dX0_singDay_80
    · have hc39 : ¬ (v27.toInt = (-1)) := fun h9 => c9 ((fi_eq rfl (show ((-1) : Int32).toInt = (-1) by decide)).mpr h9)
      refine lv_aload_n hx hb dX0_singDay_55 rfl (lv_at hl 3 rfl) ?_
      refine tk_get (ci := 0) (C := RX0) (T := TX0) (N := 7) (sp := (8, 22, 10, 5)) hx hb htl inX0 hown hK hG ht_a0 (by decide) tk_no rfl 0 (by decide) (htl _ mw_163) (fun _ h9 => h9) rfl dX0_singDay_56 (fun v9 hf40 hV9 => ?_)
      obtain ⟨rfl, ht_ld22⟩ := hV9
      have ht_ld22 : t (ld 22) = (10, 0, 5) := ht_ld22
      refine fx_top (v := .ref (ld 22)) rfl ?_
      refine tk_get (ci := 9) (C := RX9) (T := TX9) (N := 11) (sp := (1, 20, 8, 0)) hx hb htl inX9 hown hK hG ht_ld22 (by decide) tk_no rfl 0 (by decide) (htl _ mw_1655) (fun _ h9 => h9) rfl dX0_singDay_59 (fun v9 hf41 hV9 => ?_)
      obtain ⟨b42, rfl, ht_b42⟩ := hV9
      have ht_b42 : t b42 = (20, 8, 5) := ht_b42
      refine lv_iload_n hx hb dX0_singDay_62 rfl (lv_at hl 2 rfl) ?_
      refine tk_iald hx hb hK hG ht_b42 (by decide) (fun _ h => h) tk_no rfl (by omega) (by omega) dX0_singDay_63 (fun v43 _ _ => ?_)
      have hr_v43 := tk_rng v43
      refine lv_if_eq (tgt := 79) hx hb dX0_singDay_64 (by decide) (fun c9 => ?_) (fun c9 => ?_)
      · have hc44 : v43.toInt = 0 := (fi_eq rfl (show (0 : Int32).toInt = 0 by decide)).mp c9
        refine lv_iconst (v := 0) hx hb dX0_singDay_79 (by decide) ?_
        have hk_0 : (0 : Int32).toInt = 0 := by decide
        exact tk_iret (v := 0) hx hb hr rfl hlocks (show 0 ≤ (0 : Int32).toInt ∧ (0 : Int32).toInt ≤ 1 from ⟨(by omega), (by omega)⟩) hG hS dX0_singDay_80
      · have hc44 : ¬ (v43.toInt = 0) := fun h9 => c9 ((fi_eq rfl (show (0 : Int32).toInt = 0 by decide)).mpr h9)
        refine lv_aload_n hx hb dX0_singDay_67 rfl (lv_at hl 3 rfl) ?_
        refine tk_get (ci := 0) (C := RX0) (T := TX0) (N := 7) (sp := (8, 22, 10, 5)) hx hb htl inX0 hown hK hG ht_a0 (by decide) tk_no rfl 0 (by decide) (htl _ mw_163) (fun _ h9 => h9) rfl dX0_singDay_68 (fun v9 hf45 hV9 => ?_)
        obtain ⟨rfl, ht_ld22⟩ := hV9
        have ht_ld22 : t (ld 22) = (10, 0, 5) := ht_ld22
        refine fx_top (v := .ref (ld 22)) rfl ?_
        refine tk_get (ci := 9) (C := RX9) (T := TX9) (N := 11) (sp := (1, 20, 8, 0)) hx hb htl inX9 hown hK hG ht_ld22 (by decide) tk_no rfl 0 (by decide) (htl _ mw_1655) (fun _ h9 => h9) rfl dX0_singDay_71 (fun v9 hf46 hV9 => ?_)
        obtain ⟨b47, rfl, ht_b47⟩ := hV9
        have ht_b47 : t b47 = (20, 8, 5) := ht_b47
        refine lv_iload_n hx hb dX0_singDay_74 rfl (lv_at hl 1 rfl) ?_
        refine tk_iald hx hb hK hG ht_b47 (by decide) (fun _ h => h) tk_no rfl (by omega) (by omega) dX0_singDay_75 (fun v48 _ _ => ?_)
        have hr_v48 := tk_rng v48
        refine lv_if_ne (tgt := 81) hx hb dX0_singDay_76 (by decide) (fun c9 => ?_) (fun c9 => ?_)
        · have hc49 : ¬ (v48.toInt = 0) := fun h9 => c9 ((fi_eq rfl (show (0 : Int32).toInt = 0 by decide)).mpr h9)
          refine lv_aload_n hx hb dX0_singDay_81 rfl (lv_at hl 3 rfl) ?_
          refine tk_get (ci := 0) (C := RX0) (T := TX0) (N := 7) (sp := (8, 22, 10, 5)) hx hb htl inX0 hown hK hG ht_a0 (by decide) tk_no rfl 0 (by decide) (htl _ mw_163) (fun _ h9 => h9) rfl dX0_singDay_82 (fun v9 hf50 hV9 => ?_)
          obtain ⟨rfl, ht_ld22⟩ := hV9
          have ht_ld22 : t (ld 22) = (10, 0, 5) := ht_ld22
          refine fx_top (v := .ref (ld 22)) rfl ?_
          refine lv_iload_n hx hb dX0_singDay_85 rfl (lv_at hl 2 rfl) ?_
          refine lv_iload_n hx hb dX0_singDay_86 rfl (lv_at hl 1 rfl) ?_
          refine lv_iload_n hx hb dX0_singDay_87 rfl (lv_at hl 0 rfl) ?_
          refine tk_Vv (As := [.int v12, .int v27, .int v37]) (rest := []) (ci := 9) ⟨hx, hb, hml, hown, hts⟩ hK hG hZ hS (k_X9_openDuel l D cy ld t 5 (ld 22) v12 v27 v37 ht_ld22 (by omega) (by omega) (by omega) (by omega)) trivial ⟨callB_of 3 hts (wl_in mw_892) rfl rfl rfl (htl _ mw_76) (htl _ mw_1669) hd_yX9_openDuel ⟨(Nat.le_of_ble_eq_true rfl), (Nat.le_of_ble_eq_true rfl)⟩, htl _ mw_890, htl _ mw_891⟩ ht_ld22 (by decide) tk_no rfl (tk_w.pick [1] rfl) rfl hl.1 rfl (Nat.le_of_ble_eq_true rfl) dX0_singDay_88 ⟨(Nat.le_of_ble_eq_true rfl), (Nat.le_of_ble_eq_true rfl)⟩ (fun H locs hpo hG hS hq9 => ?_)
          have hf52 := hpo
          refine lv_iconst (v := 0) hx hb dX0_singDay_91 (by decide) ?_
          refine lv_istore (lv' := [(4, .int 0), (3, .int v37), (2, .int v27), (1, .int v12), (0, .ref a0)]) hx hb dX0_singDay_92 hl (by decide) rfl (fun ls hl => ?_)
          have hl483 : ∀ (N_l483 : Nat) (v107 : Int32) (H : Heap) (locs : List Loc), v107.toInt ≤ 24 → 0 ≤ v107.toInt → (-1) * v107.toInt + 24 < (N_l483 : Int) → tk_G D cy ld t [] H → va_S (tk_w t [(1, 0, 0), (10, 5, 5), (20, 0, 0), (12, 0, 0), (9, 0, 0), (22, 0, 0), (20, 5, 5)]) s.heap H locs → ∀ ls : Array Slot, lv_has ls 7 [(4, .int v107), (2, .int v27), (0, .ref a0)] → W p l e ({ frames := 7, cells := 0, slots := 0, locals := 420 }) s m args below meth c H locs 0 0 (MQ below (ti D cy ld t [] (fun r H => 0 ≤ r.toInt ∧ r.toInt ≤ 1) (tk_w t [(1, 0, 0), (10, 5, 5), (20, 0, 0), (12, 0, 0), (9, 0, 0), (22, 0, 0), (20, 5, 5)])) args s 0 0 (tk_w t [(1, 0, 0), (10, 5, 5), (20, 0, 0), (12, 0, 0), (9, 0, 0), (22, 0, 0), (20, 5, 5)])) (F0 m 94 ls []) := by
            intro N_l483
            induction N_l483 with
            | zero => intro v107 H locs hq0_l483 hq1_l483 hm_l483 hG hS ls hl; exfalso; omega
            | succ N_l483 ih_l483 =>
              intro v107 H locs hq0_l483 hq1_l483 hm_l483 hG hS ls hl
              refine lv_iload hx hb dX0_singDay_94 (lv_at hl 0 rfl) ?_
              refine lv_bipush (v := 24) hx hb dX0_singDay_96 (by decide) ?_
              refine lv_icmp_ge (tgt := 188) hx hb dX0_singDay_98 (by decide) (fun c9 => ?_) (fun c9 => ?_)
              · have hc484 : 24 ≤ v107.toInt := (fi_le (show (24 : Int32).toInt = 24 by decide) rfl).mp c9
                refine lv_aload_n hx hb dX0_singDay_188 rfl (lv_at hl 2 rfl) ?_
                refine tk_get (ci := 0) (C := RX0) (T := TX0) (N := 7) (sp := (8, 22, 10, 5)) hx hb htl inX0 hown hK hG ht_a0 (by decide) tk_no rfl 0 (by decide) (htl _ mw_163) (fun _ h9 => h9) rfl dX0_singDay_189 (fun v9 hf485 hV9 => ?_)
                obtain ⟨rfl, ht_ld22⟩ := hV9
                have ht_ld22 : t (ld 22) = (10, 0, 5) := ht_ld22
                refine fx_top (v := .ref (ld 22)) rfl ?_
                refine tk_Vv (As := []) (rest := []) (ci := 9) ⟨hx, hb, hml, hown, hts⟩ hK hG hZ hS (k_X9_closeDuel l D cy ld t 5 (ld 22) ht_ld22) trivial ⟨callB_of 0 hts (wl_in mw_975) rfl rfl rfl (htl _ mw_76) (htl _ mw_1646) hd_yX9_closeDuel ⟨(Nat.le_of_ble_eq_true rfl), (Nat.le_of_ble_eq_true rfl)⟩, htl _ mw_973, htl _ mw_974⟩ ht_ld22 (by decide) tk_no rfl (tk_w.pick [1] rfl) rfl hl.1 rfl (Nat.le_of_ble_eq_true rfl) dX0_singDay_192 ⟨(Nat.le_of_ble_eq_true rfl), (Nat.le_of_ble_eq_true rfl)⟩ (fun H locs hpo hG hS hq9 => ?_)
                have hf487 := hpo
                refine lv_iconst (v := 0) hx hb dX0_singDay_195 (by decide) ?_
                have hk_0 : (0 : Int32).toInt = 0 := by decide
                exact tk_iret (v := 0) hx hb hr rfl hlocks (show 0 ≤ (0 : Int32).toInt ∧ (0 : Int32).toInt ≤ 1 from ⟨(by omega), (by omega)⟩) hG hS dX0_singDay_196
              · have hc484 : ¬ (24 ≤ v107.toInt) := fun h9 => c9 ((fi_le (show (24 : Int32).toInt = 24 by decide) rfl).mpr h9)
                refine lv_aload_n hx hb dX0_singDay_101 rfl (lv_at hl 2 rfl) ?_
                refine tk_get (ci := 0) (C := RX0) (T := TX0) (N := 7) (sp := (8, 22, 10, 5)) hx hb htl inX0 hown hK hG ht_a0 (by decide) tk_no rfl 0 (by decide) (htl _ mw_163) (fun _ h9 => h9) rfl dX0_singDay_102 (fun v9 hf488 hV9 => ?_)
                obtain ⟨rfl, ht_ld22⟩ := hV9
                have ht_ld22 : t (ld 22) = (10, 0, 5) := ht_ld22
                refine fx_top (v := .ref (ld 22)) rfl ?_
                obtain ⟨v9, hf489, hV9⟩ := tk_peek (ci := 9) (C := RX9) (T := TX9) (N := 11) (sp := (0, (-1), 7, 0)) hG ht_ld22 (by decide) tk_no rfl 5 (by decide) rfl
                obtain ⟨v490, rfl, (ha_v490 : (-1) ≤ v490.toInt), (hb_v490 : v490.toInt ≤ 7)⟩ := hV9
                refine tk_Vi (As := []) (rest := []) (ci := 9) ⟨hx, hb, hml, hown, hts⟩ hK hG hZ hS (k_X9_isDuel l D cy ld t 5 (ld 22) v490 ht_ld22 (by omega) (by omega)) hf489 ⟨callB_of 0 hts (wl_in mw_840) rfl rfl rfl (htl _ mw_76) (htl _ mw_1670) hd_yX9_isDuel ⟨(Nat.le_of_ble_eq_true rfl), (Nat.le_of_ble_eq_true rfl)⟩, htl _ mw_838, htl _ mw_839⟩ ht_ld22 (by decide) tk_no rfl (tk_w.pick [] rfl) rfl hl.1 rfl (Nat.le_of_ble_eq_true rfl) dX0_singDay_105 ⟨(Nat.le_of_ble_eq_true rfl), (Nat.le_of_ble_eq_true rfl)⟩ (fun v491 H locs hpo hG hS hq9 => ?_)
                have hf489 := hf489.call hq9 tk_w.nil
                obtain ⟨hpo493, hpo494, hpo495, hpo496, hpo497⟩ := hpo
                refine lv_if_eq (tgt := 188) hx hb dX0_singDay_108 (by decide) (fun c9 => ?_) (fun c9 => ?_)
                · have hc498 : v491.toInt = 0 := (fi_eq rfl (show (0 : Int32).toInt = 0 by decide)).mp c9
                  refine lv_aload_n hx hb dX0_singDay_188 rfl (lv_at hl 2 rfl) ?_
                  refine tk_get (ci := 0) (C := RX0) (T := TX0) (N := 7) (sp := (8, 22, 10, 5)) hx hb htl inX0 hown hK hG ht_a0 (by decide) tk_no rfl 0 (by decide) (htl _ mw_163) (fun _ h9 => h9) rfl dX0_singDay_189 (fun v9 hf499 hV9 => ?_)
                  obtain ⟨rfl, ht_ld22⟩ := hV9
                  have ht_ld22 : t (ld 22) = (10, 0, 5) := ht_ld22
                  refine fx_top (v := .ref (ld 22)) rfl ?_
                  refine tk_Vv (As := []) (rest := []) (ci := 9) ⟨hx, hb, hml, hown, hts⟩ hK hG hZ hS (k_X9_closeDuel l D cy ld t 5 (ld 22) ht_ld22) trivial ⟨callB_of 0 hts (wl_in mw_975) rfl rfl rfl (htl _ mw_76) (htl _ mw_1646) hd_yX9_closeDuel ⟨(Nat.le_of_ble_eq_true rfl), (Nat.le_of_ble_eq_true rfl)⟩, htl _ mw_973, htl _ mw_974⟩ ht_ld22 (by decide) tk_no rfl (tk_w.pick [1] rfl) rfl hl.1 rfl (Nat.le_of_ble_eq_true rfl) dX0_singDay_192 ⟨(Nat.le_of_ble_eq_true rfl), (Nat.le_of_ble_eq_true rfl)⟩ (fun H locs hpo hG hS hq9 => ?_)
                  have hf501 := hpo
                  refine lv_iconst (v := 0) hx hb dX0_singDay_195 (by decide) ?_
                  have hk_0 : (0 : Int32).toInt = 0 := by decide
                  exact tk_iret (v := 0) hx hb hr rfl hlocks (show 0 ≤ (0 : Int32).toInt ∧ (0 : Int32).toInt ≤ 1 from ⟨(by omega), (by omega)⟩) hG hS dX0_singDay_196
                · have hc498 : ¬ (v491.toInt = 0) := fun h9 => c9 ((fi_eq rfl (show (0 : Int32).toInt = 0 by decide)).mpr h9)
                  refine lv_aload_n hx hb dX0_singDay_111 rfl (lv_at hl 2 rfl) ?_
                  refine tk_get (ci := 0) (C := RX0) (T := TX0) (N := 7) (sp := (8, 22, 10, 5)) hx hb htl inX0 hown hK hG ht_a0 (by decide) tk_no rfl 0 (by decide) (htl _ mw_163) (fun _ h9 => h9) rfl dX0_singDay_112 (fun v9 hf502 hV9 => ?_)
                  obtain ⟨rfl, ht_ld22⟩ := hV9
                  have ht_ld22 : t (ld 22) = (10, 0, 5) := ht_ld22
                  refine fx_top (v := .ref (ld 22)) rfl ?_
                  refine tk_Vi (As := []) (rest := []) (ci := 9) ⟨hx, hb, hml, hown, hts⟩ hK hG hZ hS (k_X9_whoHears l D cy ld t 5 (ld 22) v490 ht_ld22 (by omega) (by omega)) hf489 ⟨callB_of 0 hts (wl_in mw_924) rfl rfl rfl (htl _ mw_76) (htl _ mw_1671) hd_yX9_whoHears ⟨(Nat.le_of_ble_eq_true rfl), (Nat.le_of_ble_eq_true rfl)⟩, htl _ mw_922, htl _ mw_923⟩ ht_ld22 (by decide) tk_no rfl (tk_w.pick [] rfl) rfl hl.1 rfl (Nat.le_of_ble_eq_true rfl) dX0_singDay_115 ⟨(Nat.le_of_ble_eq_true rfl), (Nat.le_of_ble_eq_true rfl)⟩ (fun v503 H locs hpo hG hS hq9 => ?_)
                  have hf489 := hf489.call hq9 tk_w.nil
                  obtain ⟨hpo505, hpo506, hpo507⟩ := hpo
                  refine lv_istore (lv' := [(5, .int v503), (4, .int v107), (2, .int v27), (0, .ref a0)]) hx hb dX0_singDay_118 hl (by decide) rfl (fun ls hl => ?_)
                  refine lv_aload_n hx hb dX0_singDay_120 rfl (lv_at hl 3 rfl) ?_
                  refine tk_Vi (As := []) (rest := []) (ci := 0) ⟨hx, hb, hml, hown, hts⟩ hK hG hZ hS (k_X0_listOpen l D cy ld t a0 v490 ht_a0 ht_ld22 (by omega) (by omega)) hf489 ⟨callB_of 0 hts (wl_in mw_1675) rfl rfl rfl (htl _ mw_44) (htl _ mw_1672) hd_yX0_listOpen ⟨(Nat.le_of_ble_eq_true rfl), (Nat.le_of_ble_eq_true rfl)⟩, htl _ mw_1673, htl _ mw_1674⟩ ht_a0 (by decide) tk_no rfl (tk_w.pick [2, 3, 4, 5] rfl) rfl hl.1 rfl (Nat.le_of_ble_eq_true rfl) dX0_singDay_121 ⟨(Nat.le_of_ble_eq_true rfl), (Nat.le_of_ble_eq_true rfl)⟩ (fun v508 H locs hpo hG hS hq9 => ?_)
                  have hf489 := hf489.call hq9 (tk_w.no ht_ld22 (by decide))
                  obtain ⟨hpo510, hpo511⟩ := hpo
                  refine lv_istore (lv' := [(6, .int v508), (5, .int v503), (4, .int v107), (2, .int v27), (0, .ref a0)]) hx hb dX0_singDay_124 hl (by decide) rfl (fun ls hl => ?_)
                  refine lv_iload hx hb dX0_singDay_126 (lv_at hl 0 rfl) ?_
                  refine lv_if_ne (tgt := 134) hx hb dX0_singDay_128 (by decide) (fun c9 => ?_) (fun c9 => ?_)
                  · have hc512 : ¬ (v508.toInt = 0) := fun h9 => c9 ((fi_eq rfl (show (0 : Int32).toInt = 0 by decide)).mpr h9)
                    refine lv_aload_n hx hb dX0_singDay_134 rfl (lv_at hl 4 rfl) ?_
                    refine tk_get (ci := 0) (C := RX0) (T := TX0) (N := 7) (sp := (6, 9, 0, 0)) hx hb htl inX0 hown hK hG ht_a0 (by decide) tk_no rfl 4 (by decide) (htl _ mw_167) (fun _ h9 => h9) rfl dX0_singDay_135 (fun v9 hf513 hV9 => ?_)
                    obtain ⟨b514, rfl, ht_b514⟩ := hV9
                    have ht_b514 : t b514 = (9, 0, 0) := ht_b514
                    refine lv_aload_n hx hb dX0_singDay_138 rfl (lv_at hl 4 rfl) ?_
                    refine tk_get (ci := 0) (C := RX0) (T := TX0) (N := 7) (sp := (8, 22, 10, 5)) hx hb htl inX0 hown hK hG ht_a0 (by decide) tk_no rfl 0 (by decide) (htl _ mw_163) (fun _ h9 => h9) rfl dX0_singDay_139 (fun v9 hf515 hV9 => ?_)
                    obtain ⟨rfl, ht_ld22⟩ := hV9
                    have ht_ld22 : t (ld 22) = (10, 0, 5) := ht_ld22
                    refine fx_top (v := .ref (ld 22)) rfl ?_
                    refine lv_aload_n hx hb dX0_singDay_142 rfl (lv_at hl 4 rfl) ?_
                    refine tk_get (ci := 0) (C := RX0) (T := TX0) (N := 7) (sp := (6, 22, 10, 0)) hx hb htl inX0 hown hK hG ht_a0 (by decide) tk_no rfl 5 (by decide) (htl _ mw_165) (fun _ h9 => h9) rfl dX0_singDay_143 (fun v9 hf516 hV9 => ?_)
                    obtain ⟨b517, rfl, ht_b517⟩ := hV9
                    have ht_b517 : t b517 = (22, 10, 0) := ht_b517
                    refine lv_aload_n hx hb dX0_singDay_146 rfl (lv_at hl 4 rfl) ?_
                    refine lv_iload hx hb dX0_singDay_147 (lv_at hl 0 rfl) ?_
                    refine tk_Vi (As := [.int v508]) (rest := [.ref b517, .ref (ld 22), .ref b514]) (ci := 0) ⟨hx, hb, hml, hown, hts⟩ hK hG hZ hS (k_X0_draw l D cy ld t a0 v508 ht_a0) trivial ⟨callB_of 1 hts (wl_in mw_1660) rfl rfl rfl (htl _ mw_44) (htl _ mw_1657) hd_yX0_draw ⟨(Nat.le_of_ble_eq_true rfl), (Nat.le_of_ble_eq_true rfl)⟩, htl _ mw_1658, htl _ mw_1659⟩ ht_a0 (by decide) tk_no rfl (tk_w.pick [0] rfl) rfl hl.1 rfl (Nat.le_of_ble_eq_true rfl) dX0_singDay_149 ⟨(Nat.le_of_ble_eq_true rfl), (Nat.le_of_ble_eq_true rfl)⟩ (fun v518 H locs hpo hG hS hq9 => ?_)
                    have hf489 := hf489.call hq9 (tk_w.no ht_ld22 (by decide))
                    obtain ⟨hpo520, hpo521, hpo522, hpo523⟩ := hpo
                    refine tk_iald hx hb hK hG ht_b517 (by decide) (fun _ h => h) tk_no rfl (by omega) (by omega) dX0_singDay_152 (fun v524 hE9 _ => ?_)
                    have he_v524 : 0 ≤ v524.toInt ∧ v524.toInt ≤ 9 := hE9
                    refine tk_Vi (As := [.ref (ld 22), .int v524]) (rest := []) (ci := 8) ⟨hx, hb, hml, hown, hts⟩ hK hG hZ hS (k_X8_singOn l D cy ld t 5 b514 (ld 22) v524 v490 ht_b514 ht_ld22 (by omega) (by omega) (by omega) (by omega)) hf489 ⟨callB_of 2 hts (wl_in mw_946) rfl rfl rfl (htl _ mw_21) (htl _ mw_1678) hd_yX8_singOn ⟨(Nat.le_of_ble_eq_true rfl), (Nat.le_of_ble_eq_true rfl)⟩, htl _ mw_944, htl _ mw_945⟩ ht_b514 (by decide) tk_no rfl (tk_w.pick [2, 3, 4, 6, 1] rfl) rfl hl.1 rfl (Nat.le_of_ble_eq_true rfl) dX0_singDay_153 ⟨(Nat.le_of_ble_eq_true rfl), (Nat.le_of_ble_eq_true rfl)⟩ (fun v525 H locs hpo hG hS hq9 => ?_)
                    refine lv_if_ne (tgt := 182) hx hb dX0_singDay_156 (by decide) (fun c9 => ?_) (fun c9 => ?_)
                    · have hc527 : ¬ (v525.toInt = 0) := fun h9 => c9 ((fi_eq rfl (show (0 : Int32).toInt = 0 by decide)).mpr h9)
                      obtain ⟨v528, h_v528, e_v528⟩ := tk_inc v107 1 (by decide) (by omega) (by omega)
                      refine lv_iinc (v := v528) (lv' := [(4, .int v528), (6, .int v508), (5, .int v503), (2, .int v27), (0, .ref a0)]) hx hb dX0_singDay_182 hl (k := 2) rfl e_v528 (by decide) rfl (fun ls hl => ?_)
                      refine lv_goto (tgt := 94) hx hb dX0_singDay_185 (by decide) ?_
                      exact ih_l483 v528 _ _ (by omega) (by omega) (by omega) hG hS _ (lv_sub hl [0, 3, 4] rfl)
                    · have hc527 : v525.toInt = 0 := (fi_eq rfl (show (0 : Int32).toInt = 0 by decide)).mp c9
                      refine lv_aload_n hx hb dX0_singDay_159 rfl (lv_at hl 4 rfl) ?_
                      refine tk_get (ci := 0) (C := RX0) (T := TX0) (N := 7) (sp := (6, 20, 8, 0)) hx hb htl inX0 hown hK hG ht_a0 (by decide) tk_no rfl 1 (by decide) (htl _ mw_164) (fun _ h9 => h9) rfl dX0_singDay_160 (fun v9 hf529 hV9 => ?_)
                      obtain ⟨b530, rfl, ht_b530⟩ := hV9
                      have ht_b530 : t b530 = (20, 8, 0) := ht_b530
                      refine lv_iload hx hb dX0_singDay_163 (lv_at hl 1 rfl) ?_
                      refine lv_dup2_11 hx hb dX0_singDay_165 rfl rfl ?_
                      refine tk_iald hx hb hK hG ht_b530 (by decide) (fun _ h => h) tk_no rfl (by omega) (by omega) dX0_singDay_166 (fun v531 _ _ => ?_)
                      have hr_v531 := tk_rng v531
                      refine lv_iconst (v := 1) hx hb dX0_singDay_167 (by decide) ?_
                      refine lv_iadd hx hb dX0_singDay_168 ?_
                      obtain ⟨v532, hm_v532⟩ : ∃ z : Int32, v531 + 1 = z := ⟨_, rfl⟩
                      refine fx_ti hm_v532 ?_
                      refine tk_iast hx hb hK hG hS ht_b530 (by decide) (fun _ => Iff.rfl) tk_no rfl (by omega) (by omega) trivial (tk_w.of ht_b530 (by decide) (List.mem_of_getElem? (i := 2) rfl) (Nat.le_refl _) (Nat.le_refl _)) dX0_singDay_169 (fun H locs hG hS hq9 => ?_)
                      refine lv_iload hx hb dX0_singDay_170 (lv_at hl 1 rfl) ?_
                      refine lv_iload_n hx hb dX0_singDay_172 rfl (lv_at hl 3 rfl) ?_
                      refine lv_icmp_ne (tgt := 180) hx hb dX0_singDay_173 (by decide) (fun c9 => ?_) (fun c9 => ?_)
                      · have hc534 : ¬ (v503.toInt = v27.toInt) := fun h9 => c9 ((fi_eq rfl rfl).mpr h9)
                        refine lv_iconst (v := 0) hx hb dX0_singDay_180 (by decide) ?_
                        have hk_0 : (0 : Int32).toInt = 0 := by decide
                        exact tk_iret (v := 0) hx hb hr rfl hlocks (show 0 ≤ (0 : Int32).toInt ∧ (0 : Int32).toInt ≤ 1 from ⟨(by omega), (by omega)⟩) hG hS dX0_singDay_181
                      · have hc534 : v503.toInt = v27.toInt := (fi_eq rfl rfl).mp c9
                        refine lv_iconst (v := 1) hx hb dX0_singDay_176 (by decide) ?_
                        refine lv_goto (tgt := 181) hx hb dX0_singDay_177 (by decide) ?_
                        have hk_1 : (1 : Int32).toInt = 1 := by decide
                        exact tk_iret (v := 1) hx hb hr rfl hlocks (show 0 ≤ (1 : Int32).toInt ∧ (1 : Int32).toInt ≤ 1 from ⟨(by omega), (by omega)⟩) hG hS dX0_singDay_181
                  · have hc512 : v508.toInt = 0 := (fi_eq rfl (show (0 : Int32).toInt = 0 by decide)).mp c9
                    refine lv_goto (tgt := 188) hx hb dX0_singDay_131 (by decide) ?_
                    refine lv_aload_n hx hb dX0_singDay_188 rfl (lv_at hl 4 rfl) ?_
                    refine tk_get (ci := 0) (C := RX0) (T := TX0) (N := 7) (sp := (8, 22, 10, 5)) hx hb htl inX0 hown hK hG ht_a0 (by decide) tk_no rfl 0 (by decide) (htl _ mw_163) (fun _ h9 => h9) rfl dX0_singDay_189 (fun v9 hf535 hV9 => ?_)
                    obtain ⟨rfl, ht_ld22⟩ := hV9
                    have ht_ld22 : t (ld 22) = (10, 0, 5) := ht_ld22
                    refine fx_top (v := .ref (ld 22)) rfl ?_
                    refine tk_Vv (As := []) (rest := []) (ci := 9) ⟨hx, hb, hml, hown, hts⟩ hK hG hZ hS (k_X9_closeDuel l D cy ld t 5 (ld 22) ht_ld22) trivial ⟨callB_of 0 hts (wl_in mw_975) rfl rfl rfl (htl _ mw_76) (htl _ mw_1646) hd_yX9_closeDuel ⟨(Nat.le_of_ble_eq_true rfl), (Nat.le_of_ble_eq_true rfl)⟩, htl _ mw_973, htl _ mw_974⟩ ht_ld22 (by decide) tk_no rfl (tk_w.pick [1] rfl) rfl hl.1 rfl (Nat.le_of_ble_eq_true rfl) dX0_singDay_192 ⟨(Nat.le_of_ble_eq_true rfl), (Nat.le_of_ble_eq_true rfl)⟩ (fun H locs hpo hG hS hq9 => ?_)
                    have hf537 := hpo
                    refine lv_iconst (v := 0) hx hb dX0_singDay_195 (by decide) ?_
                    have hk_0 : (0 : Int32).toInt = 0 := by decide
                    exact tk_iret (v := 0) hx hb hr rfl hlocks (show 0 ≤ (0 : Int32).toInt ∧ (0 : Int32).toInt ≤ 1 from ⟨(by omega), (by omega)⟩) hG hS dX0_singDay_196
          have hk_0 : (0 : Int32).toInt = 0 := by decide
          exact hl483 25 0 _ _ (by omega) (by omega) (by omega) hG hS _ (lv_sub hl [0, 2, 4] rfl)
        · have hc49 : v48.toInt = 0 := (fi_eq rfl (show (0 : Int32).toInt = 0 by decide)).mp c9
          refine lv_iconst (v := 0) hx hb dX0_singDay_79 (by decide) ?_
          have hk_0 : (0 : Int32).toInt = 0 := by decide
          exact tk_iret (v := 0) hx hb hr rfl hlocks (show 0 ≤ (0 : Int32).toInt ∧ (0 : Int32).toInt ≤ 1 from ⟨(by omega), (by omega)⟩) hG hS dX0_singDay_80
