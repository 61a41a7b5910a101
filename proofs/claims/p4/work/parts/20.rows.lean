set_option maxHeartbeats 4000000 in
set_option maxRecDepth 100000 in
theorem k_X6_readBoth_2 (l : Launch) (D : va_G) (cy : Nat → ClassId) (ld : Nat → Nat) (t : tk_T) (a0 : Nat) (ht_a0 : t a0 = (7, 0, 0)) : Met l yX6_readBoth (wl yX6_readBoth cX6_readBoth 3 none) ({ frames := 31, cells := 0, slots := 0, locals := 2100 }) (tp D cy ld t [] [.ref a0] (fun H => tk_f D H a0 6 9 (.int 2))) (tv D cy ld t [] (fun H => tk_f D H a0 6 9 (.int 2)) (tk_w t [(7, 0, 0), (20, 0, 0), (8, 12, 12)])) 0 0 (tk_w t [(7, 0, 0), (20, 0, 0), (8, 12, 12)]) := by
  refine tk_met (y := yX6_readBoth) (cc := cX6_readBoth) (maxL := 3) (ret := none) (av := [.ref a0]) _ _ (by decide) (Nat.le_of_ble_eq_true rfl) ?_
  intro p e s m args below meth c hx hb hr hml hts htl hown hlocks hK H locs hH hG hS hB hZ ls hl
  have hown : s.vm.findClass RX6 = some m.cls := hown
  have hl : lv_has ls 3 [(0, .ref a0)] := hl
  have hg_0 := hB
  refine lv_aload_n hx hb dX6_readBoth_0 rfl (lv_at hl 0 rfl) ?_
  refine tk_Vv (As := []) (rest := []) (ci := 6) ⟨hx, hb, hml, hown, hts⟩ hK hG hZ hS (k_X6_readPlain_2 l D cy ld t a0 ht_a0) hg_0 ⟨callB_of 0 hts (wl_in mw_648) rfl rfl rfl (htl _ mw_36) (htl _ mw_645) hd_yX6_readPlain ⟨(Nat.le_of_ble_eq_true rfl), (Nat.le_of_ble_eq_true rfl)⟩, htl _ mw_646, htl _ mw_647⟩ ht_a0 (by decide) tk_no rfl (tk_w.pick [0, 1, 2] rfl) rfl hl.1 rfl (Nat.le_of_ble_eq_true rfl) dX6_readBoth_1 ⟨(Nat.le_of_ble_eq_true rfl), (Nat.le_of_ble_eq_true rfl)⟩ (fun H locs hpo hG hS hq9 => ?_)
  have hf2 := hpo
  refine lv_iconst (v := 0) hx hb dX6_readBoth_4 (by decide) ?_
  refine lv_istore_n (lv' := [(1, .int 0), (0, .ref a0)]) hx hb dX6_readBoth_5 rfl hl (by decide) rfl (fun ls hl => ?_)
  have hl170 : ∀ (N_l170 : Nat) (v3 : Int32) (H : Heap) (locs : List Loc), 0 ≤ v3.toInt → v3.toInt ≤ 400 → (-1) * v3.toInt + 400 < (N_l170 : Int) → tk_G D cy ld t [] H → va_S (tk_w t [(7, 0, 0), (20, 0, 0), (8, 12, 12)]) s.heap H locs → tk_f D H a0 6 9 (.int 2) → ∀ ls : Array Slot, lv_has ls 3 [(1, .int v3), (0, .ref a0)] → W p l e ({ frames := 31, cells := 0, slots := 0, locals := 2100 }) s m args below meth c H locs 0 0 (MQ below (tv D cy ld t [] (fun H => tk_f D H a0 6 9 (.int 2)) (tk_w t [(7, 0, 0), (20, 0, 0), (8, 12, 12)])) args s 0 0 (tk_w t [(7, 0, 0), (20, 0, 0), (8, 12, 12)])) (F0 m 6 ls []) := by
    intro N_l170
    induction N_l170 with
    | zero => intro v3 H locs hq0_l170 hq1_l170 hm_l170 hG hS hf2 ls hl; exfalso; omega
    | succ N_l170 ih_l170 =>
      intro v3 H locs hq0_l170 hq1_l170 hm_l170 hG hS hf2 ls hl
      refine lv_iload_n hx hb dX6_readBoth_6 rfl (lv_at hl 0 rfl) ?_
      refine lv_sipush (v := 400) hx hb dX6_readBoth_7 (by decide) ?_
      refine lv_icmp_ge (tgt := 58) hx hb dX6_readBoth_10 (by decide) (fun c9 => ?_) (fun c9 => ?_)
      · have hc171 : 400 ≤ v3.toInt := (fi_le (show (400 : Int32).toInt = 400 by decide) rfl).mp c9
        exact tk_vret hx hb hr hlocks (show tk_f D H a0 6 9 (.int 2) from hf2) hG hS dX6_readBoth_58
      · have hc171 : ¬ (400 ≤ v3.toInt) := fun h9 => c9 ((fi_le (show (400 : Int32).toInt = 400 by decide) rfl).mpr h9)
        refine lv_aload_n hx hb dX6_readBoth_13 rfl (lv_at hl 1 rfl) ?_
        refine va_ldcS hx hb hown hK.2.2.2.2.2.2.2.2.2.2.2.2.2.1 dX6_readBoth_14 ?_
        refine tk_Vi (As := [.ref (ld 9)]) (rest := []) (ci := 6) ⟨hx, hb, hml, hown, hts⟩ hK hG hZ hS (k_X6_isWord_9 l D cy ld t a0 ht_a0) trivial ⟨callB_of 1 hts (wl_in mw_626) rfl rfl rfl (htl _ mw_36) (htl _ mw_623) hd_yX6_isWord ⟨(Nat.le_of_ble_eq_true rfl), (Nat.le_of_ble_eq_true rfl)⟩, htl _ mw_624, htl _ mw_625⟩ ht_a0 (by decide) tk_no rfl (tk_w.pick [] rfl) rfl hl.1 rfl (Nat.le_of_ble_eq_true rfl) dX6_readBoth_16 ⟨(Nat.le_of_ble_eq_true rfl), (Nat.le_of_ble_eq_true rfl)⟩ (fun v172 H locs hpo hG hS hq9 => ?_)
        have hf2 := hf2.call hq9 tk_w.nil
        obtain ⟨hpo174, hpo175, hpo176, hpo177⟩ := hpo
        refine lv_if_eq (tgt := 58) hx hb dX6_readBoth_19 (by decide) (fun c9 => ?_) (fun c9 => ?_)
        · have hc178 : v172.toInt = 0 := (fi_eq rfl (show (0 : Int32).toInt = 0 by decide)).mp c9
          exact tk_vret hx hb hr hlocks (show tk_f D H a0 6 9 (.int 2) from hf2) hG hS dX6_readBoth_58
        · have hc178 : ¬ (v172.toInt = 0) := fun h9 => c9 ((fi_eq rfl (show (0 : Int32).toInt = 0 by decide)).mpr h9)
          refine lv_aload_n hx hb dX6_readBoth_22 rfl (lv_at hl 1 rfl) ?_
          refine tk_get (ci := 6) (C := RX6) (T := TX6) (N := 11) (sp := (6, 8, 512, 12)) hx hb htl inX6 hown hK hG ht_a0 (by decide) tk_no rfl 0 (by decide) (htl _ mw_132) (fun _ h9 => h9) rfl dX6_readBoth_23 (fun v9 hf179 hV9 => ?_)
          obtain ⟨b180, rfl, ht_b180⟩ := hV9
          have ht_b180 : t b180 = (8, 512, 12) := ht_b180
          refine tk_get (ci := 7) (C := RX7) (T := TX7) (N := 10) (sp := (4, 0, 0, 0)) hx hb htl inX7 hown hK hG ht_b180 (by decide) tk_no rfl 6 (by decide) (htl _ mw_513) (fun _ h9 => h9) rfl dX6_readBoth_26 (fun v9 hf181 hV9 => ?_)
          obtain ⟨v182, rfl, (ha_v182 : 0 ≤ v182.toInt), (hb_v182 : v182.toInt ≤ 512)⟩ := hV9
          refine lv_istore_n (lv' := [(2, .int v182), (1, .int v3), (0, .ref a0)]) hx hb dX6_readBoth_29 rfl hl (by decide) rfl (fun ls hl => ?_)
          refine lv_aload_n hx hb dX6_readBoth_30 rfl (lv_at hl 2 rfl) ?_
          refine tk_get (ci := 6) (C := RX6) (T := TX6) (N := 11) (sp := (6, 8, 512, 12)) hx hb htl inX6 hown hK hG ht_a0 (by decide) tk_no rfl 0 (by decide) (htl _ mw_132) (fun _ h9 => h9) rfl dX6_readBoth_31 (fun v9 hf183 hV9 => ?_)
          obtain ⟨b184, rfl, ht_b184⟩ := hV9
          have ht_b184 : t b184 = (8, 512, 12) := ht_b184
          refine lv_iconst (v := 4) hx hb dX6_readBoth_34 (by decide) ?_
          refine lv_iconst (v := 0) hx hb dX6_readBoth_35 (by decide) ?_
          have hk_4 : (4 : Int32).toInt = 4 := by decide
          have hk_0 : (0 : Int32).toInt = 0 := by decide
          refine tk_Vv (As := [.int 4, .int 0]) (rest := []) (ci := 7) ⟨hx, hb, hml, hown, hts⟩ hK hG hZ hS (k_X7_put l D cy ld t b184 4 0 ht_b184) trivial ⟨callB_of 2 hts (wl_in mw_594) rfl rfl rfl (htl _ mw_131) (htl _ mw_591) hd_yX7_put ⟨(Nat.le_of_ble_eq_true rfl), (Nat.le_of_ble_eq_true rfl)⟩, htl _ mw_592, htl _ mw_593⟩ ht_b184 (by decide) tk_no rfl (tk_w.pick [1, 2] rfl) rfl hl.1 rfl (Nat.le_of_ble_eq_true rfl) dX6_readBoth_36 ⟨(Nat.le_of_ble_eq_true rfl), (Nat.le_of_ble_eq_true rfl)⟩ (fun H locs hpo hG hS hq9 => ?_)
          have hf2 := hf2.call hq9 (tk_w.no ht_a0 (by decide))
          refine lv_aload_n hx hb dX6_readBoth_39 rfl (lv_at hl 2 rfl) ?_
          have hk_2 : (2 : Int32).toInt = 2 := by decide
          refine tk_Vv (As := []) (rest := []) (ci := 6) ⟨hx, hb, hml, hown, hts⟩ hK hG hZ hS (k_X6_step l D cy ld t a0 2 ht_a0 (by omega) (by omega)) hf2 ⟨callB_of 0 hts (wl_in mw_494) rfl rfl rfl (htl _ mw_36) (htl _ mw_491) hd_yX6_step ⟨(Nat.le_of_ble_eq_true rfl), (Nat.le_of_ble_eq_true rfl)⟩, htl _ mw_492, htl _ mw_493⟩ ht_a0 (by decide) tk_no rfl (tk_w.pick [0] rfl) rfl hl.1 rfl (Nat.le_of_ble_eq_true rfl) dX6_readBoth_40 ⟨(Nat.le_of_ble_eq_true rfl), (Nat.le_of_ble_eq_true rfl)⟩ (fun H locs hpo hG hS hq9 => ?_)
          have hf187 := hpo
          refine lv_aload_n hx hb dX6_readBoth_43 rfl (lv_at hl 2 rfl) ?_
          refine tk_Vv (As := []) (rest := []) (ci := 6) ⟨hx, hb, hml, hown, hts⟩ hK hG hZ hS (k_X6_readPlain_2 l D cy ld t a0 ht_a0) hf187 ⟨callB_of 0 hts (wl_in mw_648) rfl rfl rfl (htl _ mw_36) (htl _ mw_645) hd_yX6_readPlain ⟨(Nat.le_of_ble_eq_true rfl), (Nat.le_of_ble_eq_true rfl)⟩, htl _ mw_646, htl _ mw_647⟩ ht_a0 (by decide) tk_no rfl (tk_w.pick [0, 1, 2] rfl) rfl hl.1 rfl (Nat.le_of_ble_eq_true rfl) dX6_readBoth_44 ⟨(Nat.le_of_ble_eq_true rfl), (Nat.le_of_ble_eq_true rfl)⟩ (fun H locs hpo hG hS hq9 => ?_)
          have hf189 := hpo
          refine lv_aload_n hx hb dX6_readBoth_47 rfl (lv_at hl 2 rfl) ?_
          refine lv_iload_n hx hb dX6_readBoth_48 rfl (lv_at hl 0 rfl) ?_
          refine tk_Vv (As := [.int v182]) (rest := []) (ci := 6) ⟨hx, hb, hml, hown, hts⟩ hK hG hZ hS (k_X6_landHere l D cy ld t a0 v182 ht_a0 (by omega) (by omega)) trivial ⟨callB_of 1 hts (wl_in mw_642) rfl rfl rfl (htl _ mw_36) (htl _ mw_639) hd_yX6_landHere ⟨(Nat.le_of_ble_eq_true rfl), (Nat.le_of_ble_eq_true rfl)⟩, htl _ mw_640, htl _ mw_641⟩ ht_a0 (by decide) tk_no rfl (tk_w.pick [1] rfl) rfl hl.1 rfl (Nat.le_of_ble_eq_true rfl) dX6_readBoth_49 ⟨(Nat.le_of_ble_eq_true rfl), (Nat.le_of_ble_eq_true rfl)⟩ (fun H locs hpo hG hS hq9 => ?_)
          have hf189 := hf189.call hq9 (tk_w.no ht_a0 (by decide))
          obtain ⟨v191, h_v191, e_v191⟩ := tk_inc v3 1 (by decide) (by omega) (by omega)
          refine lv_iinc (v := v191) (lv' := [(1, .int v191), (2, .int v182), (0, .ref a0)]) hx hb dX6_readBoth_52 hl (k := 1) rfl e_v191 (by decide) rfl (fun ls hl => ?_)
          refine lv_goto (tgt := 6) hx hb dX6_readBoth_55 (by decide) ?_
          exact ih_l170 v191 _ _ (by omega) (by omega) (by omega) hG hS hf189 _ (lv_sub hl [0, 2] rfl)
  have hk_0 : (0 : Int32).toInt = 0 := by decide
  exact hl170 401 0 _ _ (by omega) (by omega) (by omega) hG hS hf2 _ (lv_sub hl [0, 1] rfl)
set_option maxHeartbeats 4000000 in
set_option maxRecDepth 100000 in
theorem k_X6_readTest_2 (l : Launch) (D : va_G) (cy : Nat → ClassId) (ld : Nat → Nat) (t : tk_T) (a0 : Nat) (ht_a0 : t a0 = (7, 0, 0)) : Met l yX6_readTest (wl yX6_readTest cX6_readTest 3 none) ({ frames := 32, cells := 0, slots := 0, locals := 2170 }) (tp D cy ld t [] [.ref a0] (fun H => tk_f D H a0 6 9 (.int 2))) (tv D cy ld t [] (fun H => tk_f D H a0 6 9 (.int 2)) (tk_w t [(7, 0, 0), (20, 0, 0), (8, 12, 12)])) 0 0 (tk_w t [(7, 0, 0), (20, 0, 0), (8, 12, 12)]) := by
  refine tk_met (y := yX6_readTest) (cc := cX6_readTest) (maxL := 3) (ret := none) (av := [.ref a0]) _ _ (by decide) (Nat.le_of_ble_eq_true rfl) ?_
  intro p e s m args below meth c hx hb hr hml hts htl hown hlocks hK H locs hH hG hS hB hZ ls hl
  have hown : s.vm.findClass RX6 = some m.cls := hown
  have hl : lv_has ls 3 [(0, .ref a0)] := hl
  have hg_0 := hB
  refine lv_aload_n hx hb dX6_readTest_0 rfl (lv_at hl 0 rfl) ?_
  refine tk_Vv (As := []) (rest := []) (ci := 6) ⟨hx, hb, hml, hown, hts⟩ hK hG hZ hS (k_X6_readBoth_2 l D cy ld t a0 ht_a0) hg_0 ⟨callB_of 0 hts (wl_in mw_644) rfl rfl rfl (htl _ mw_36) (htl _ mw_636) hd_yX6_readBoth ⟨(Nat.le_of_ble_eq_true rfl), (Nat.le_of_ble_eq_true rfl)⟩, htl _ mw_637, htl _ mw_638⟩ ht_a0 (by decide) tk_no rfl (tk_w.pick [0, 1, 2] rfl) rfl hl.1 rfl (Nat.le_of_ble_eq_true rfl) dX6_readTest_1 ⟨(Nat.le_of_ble_eq_true rfl), (Nat.le_of_ble_eq_true rfl)⟩ (fun H locs hpo hG hS hq9 => ?_)
  have hf2 := hpo
  refine lv_iconst (v := 0) hx hb dX6_readTest_4 (by decide) ?_
  refine lv_istore_n (lv' := [(1, .int 0), (0, .ref a0)]) hx hb dX6_readTest_5 rfl hl (by decide) rfl (fun ls hl => ?_)
  have hl170 : ∀ (N_l170 : Nat) (v3 : Int32) (H : Heap) (locs : List Loc), 0 ≤ v3.toInt → v3.toInt ≤ 400 → (-1) * v3.toInt + 400 < (N_l170 : Int) → tk_G D cy ld t [] H → va_S (tk_w t [(7, 0, 0), (20, 0, 0), (8, 12, 12)]) s.heap H locs → tk_f D H a0 6 9 (.int 2) → ∀ ls : Array Slot, lv_has ls 3 [(1, .int v3), (0, .ref a0)] → W p l e ({ frames := 32, cells := 0, slots := 0, locals := 2170 }) s m args below meth c H locs 0 0 (MQ below (tv D cy ld t [] (fun H => tk_f D H a0 6 9 (.int 2)) (tk_w t [(7, 0, 0), (20, 0, 0), (8, 12, 12)])) args s 0 0 (tk_w t [(7, 0, 0), (20, 0, 0), (8, 12, 12)])) (F0 m 6 ls []) := by
    intro N_l170
    induction N_l170 with
    | zero => intro v3 H locs hq0_l170 hq1_l170 hm_l170 hG hS hf2 ls hl; exfalso; omega
    | succ N_l170 ih_l170 =>
      intro v3 H locs hq0_l170 hq1_l170 hm_l170 hG hS hf2 ls hl
      refine lv_iload_n hx hb dX6_readTest_6 rfl (lv_at hl 0 rfl) ?_
      refine lv_sipush (v := 400) hx hb dX6_readTest_7 (by decide) ?_
      refine lv_icmp_ge (tgt := 58) hx hb dX6_readTest_10 (by decide) (fun c9 => ?_) (fun c9 => ?_)
      · have hc171 : 400 ≤ v3.toInt := (fi_le (show (400 : Int32).toInt = 400 by decide) rfl).mp c9
        exact tk_vret hx hb hr hlocks (show tk_f D H a0 6 9 (.int 2) from hf2) hG hS dX6_readTest_58
      · have hc171 : ¬ (400 ≤ v3.toInt) := fun h9 => c9 ((fi_le (show (400 : Int32).toInt = 400 by decide) rfl).mpr h9)
        refine lv_aload_n hx hb dX6_readTest_13 rfl (lv_at hl 1 rfl) ?_
        refine va_ldcS hx hb hown hK.2.2.2.2.2.2.2.2.2.2.2.2.2.2 dX6_readTest_14 ?_
        refine tk_Vi (As := [.ref (ld 10)]) (rest := []) (ci := 6) ⟨hx, hb, hml, hown, hts⟩ hK hG hZ hS (k_X6_isWord_10 l D cy ld t a0 ht_a0) trivial ⟨callB_of 1 hts (wl_in mw_626) rfl rfl rfl (htl _ mw_36) (htl _ mw_623) hd_yX6_isWord ⟨(Nat.le_of_ble_eq_true rfl), (Nat.le_of_ble_eq_true rfl)⟩, htl _ mw_624, htl _ mw_625⟩ ht_a0 (by decide) tk_no rfl (tk_w.pick [] rfl) rfl hl.1 rfl (Nat.le_of_ble_eq_true rfl) dX6_readTest_16 ⟨(Nat.le_of_ble_eq_true rfl), (Nat.le_of_ble_eq_true rfl)⟩ (fun v172 H locs hpo hG hS hq9 => ?_)
        have hf2 := hf2.call hq9 tk_w.nil
        obtain ⟨hpo174, hpo175, hpo176, hpo177⟩ := hpo
        refine lv_if_eq (tgt := 58) hx hb dX6_readTest_19 (by decide) (fun c9 => ?_) (fun c9 => ?_)
        · have hc178 : v172.toInt = 0 := (fi_eq rfl (show (0 : Int32).toInt = 0 by decide)).mp c9
          exact tk_vret hx hb hr hlocks (show tk_f D H a0 6 9 (.int 2) from hf2) hG hS dX6_readTest_58
        · have hc178 : ¬ (v172.toInt = 0) := fun h9 => c9 ((fi_eq rfl (show (0 : Int32).toInt = 0 by decide)).mpr h9)
          refine lv_aload_n hx hb dX6_readTest_22 rfl (lv_at hl 1 rfl) ?_
          refine tk_get (ci := 6) (C := RX6) (T := TX6) (N := 11) (sp := (6, 8, 512, 12)) hx hb htl inX6 hown hK hG ht_a0 (by decide) tk_no rfl 0 (by decide) (htl _ mw_132) (fun _ h9 => h9) rfl dX6_readTest_23 (fun v9 hf179 hV9 => ?_)
          obtain ⟨b180, rfl, ht_b180⟩ := hV9
          have ht_b180 : t b180 = (8, 512, 12) := ht_b180
          refine tk_get (ci := 7) (C := RX7) (T := TX7) (N := 10) (sp := (4, 0, 0, 0)) hx hb htl inX7 hown hK hG ht_b180 (by decide) tk_no rfl 6 (by decide) (htl _ mw_513) (fun _ h9 => h9) rfl dX6_readTest_26 (fun v9 hf181 hV9 => ?_)
          obtain ⟨v182, rfl, (ha_v182 : 0 ≤ v182.toInt), (hb_v182 : v182.toInt ≤ 512)⟩ := hV9
          refine lv_istore_n (lv' := [(2, .int v182), (1, .int v3), (0, .ref a0)]) hx hb dX6_readTest_29 rfl hl (by decide) rfl (fun ls hl => ?_)
          refine lv_aload_n hx hb dX6_readTest_30 rfl (lv_at hl 2 rfl) ?_
          refine tk_get (ci := 6) (C := RX6) (T := TX6) (N := 11) (sp := (6, 8, 512, 12)) hx hb htl inX6 hown hK hG ht_a0 (by decide) tk_no rfl 0 (by decide) (htl _ mw_132) (fun _ h9 => h9) rfl dX6_readTest_31 (fun v9 hf183 hV9 => ?_)
          obtain ⟨b184, rfl, ht_b184⟩ := hV9
          have ht_b184 : t b184 = (8, 512, 12) := ht_b184
          refine lv_iconst (v := 5) hx hb dX6_readTest_34 (by decide) ?_
          refine lv_iconst (v := 0) hx hb dX6_readTest_35 (by decide) ?_
          have hk_5 : (5 : Int32).toInt = 5 := by decide
          have hk_0 : (0 : Int32).toInt = 0 := by decide
          refine tk_Vv (As := [.int 5, .int 0]) (rest := []) (ci := 7) ⟨hx, hb, hml, hown, hts⟩ hK hG hZ hS (k_X7_put l D cy ld t b184 5 0 ht_b184) trivial ⟨callB_of 2 hts (wl_in mw_594) rfl rfl rfl (htl _ mw_131) (htl _ mw_591) hd_yX7_put ⟨(Nat.le_of_ble_eq_true rfl), (Nat.le_of_ble_eq_true rfl)⟩, htl _ mw_592, htl _ mw_593⟩ ht_b184 (by decide) tk_no rfl (tk_w.pick [1, 2] rfl) rfl hl.1 rfl (Nat.le_of_ble_eq_true rfl) dX6_readTest_36 ⟨(Nat.le_of_ble_eq_true rfl), (Nat.le_of_ble_eq_true rfl)⟩ (fun H locs hpo hG hS hq9 => ?_)
          have hf2 := hf2.call hq9 (tk_w.no ht_a0 (by decide))
          refine lv_aload_n hx hb dX6_readTest_39 rfl (lv_at hl 2 rfl) ?_
          have hk_2 : (2 : Int32).toInt = 2 := by decide
          refine tk_Vv (As := []) (rest := []) (ci := 6) ⟨hx, hb, hml, hown, hts⟩ hK hG hZ hS (k_X6_step l D cy ld t a0 2 ht_a0 (by omega) (by omega)) hf2 ⟨callB_of 0 hts (wl_in mw_494) rfl rfl rfl (htl _ mw_36) (htl _ mw_491) hd_yX6_step ⟨(Nat.le_of_ble_eq_true rfl), (Nat.le_of_ble_eq_true rfl)⟩, htl _ mw_492, htl _ mw_493⟩ ht_a0 (by decide) tk_no rfl (tk_w.pick [0] rfl) rfl hl.1 rfl (Nat.le_of_ble_eq_true rfl) dX6_readTest_40 ⟨(Nat.le_of_ble_eq_true rfl), (Nat.le_of_ble_eq_true rfl)⟩ (fun H locs hpo hG hS hq9 => ?_)
          have hf187 := hpo
          refine lv_aload_n hx hb dX6_readTest_43 rfl (lv_at hl 2 rfl) ?_
          refine tk_Vv (As := []) (rest := []) (ci := 6) ⟨hx, hb, hml, hown, hts⟩ hK hG hZ hS (k_X6_readBoth_2 l D cy ld t a0 ht_a0) hf187 ⟨callB_of 0 hts (wl_in mw_644) rfl rfl rfl (htl _ mw_36) (htl _ mw_636) hd_yX6_readBoth ⟨(Nat.le_of_ble_eq_true rfl), (Nat.le_of_ble_eq_true rfl)⟩, htl _ mw_637, htl _ mw_638⟩ ht_a0 (by decide) tk_no rfl (tk_w.pick [0, 1, 2] rfl) rfl hl.1 rfl (Nat.le_of_ble_eq_true rfl) dX6_readTest_44 ⟨(Nat.le_of_ble_eq_true rfl), (Nat.le_of_ble_eq_true rfl)⟩ (fun H locs hpo hG hS hq9 => ?_)
          have hf189 := hpo
          refine lv_aload_n hx hb dX6_readTest_47 rfl (lv_at hl 2 rfl) ?_
          refine lv_iload_n hx hb dX6_readTest_48 rfl (lv_at hl 0 rfl) ?_
          refine tk_Vv (As := [.int v182]) (rest := []) (ci := 6) ⟨hx, hb, hml, hown, hts⟩ hK hG hZ hS (k_X6_landHere l D cy ld t a0 v182 ht_a0 (by omega) (by omega)) trivial ⟨callB_of 1 hts (wl_in mw_642) rfl rfl rfl (htl _ mw_36) (htl _ mw_639) hd_yX6_landHere ⟨(Nat.le_of_ble_eq_true rfl), (Nat.le_of_ble_eq_true rfl)⟩, htl _ mw_640, htl _ mw_641⟩ ht_a0 (by decide) tk_no rfl (tk_w.pick [1] rfl) rfl hl.1 rfl (Nat.le_of_ble_eq_true rfl) dX6_readTest_49 ⟨(Nat.le_of_ble_eq_true rfl), (Nat.le_of_ble_eq_true rfl)⟩ (fun H locs hpo hG hS hq9 => ?_)
          have hf189 := hf189.call hq9 (tk_w.no ht_a0 (by decide))
          obtain ⟨v191, h_v191, e_v191⟩ := tk_inc v3 1 (by decide) (by omega) (by omega)
          refine lv_iinc (v := v191) (lv' := [(1, .int v191), (2, .int v182), (0, .ref a0)]) hx hb dX6_readTest_52 hl (k := 1) rfl e_v191 (by decide) rfl (fun ls hl => ?_)
          refine lv_goto (tgt := 6) hx hb dX6_readTest_55 (by decide) ?_
          exact ih_l170 v191 _ _ (by omega) (by omega) (by omega) hG hS hf189 _ (lv_sub hl [0, 2] rfl)
  have hk_0 : (0 : Int32).toInt = 0 := by decide
  exact hl170 401 0 _ _ (by omega) (by omega) (by omega) hG hS hf2 _ (lv_sub hl [0, 1] rfl)
set_option maxHeartbeats 4000000 in
set_option maxRecDepth 100000 in
theorem k_X6_readPlain_1 (l : Launch) (D : va_G) (cy : Nat → ClassId) (ld : Nat → Nat) (t : tk_T) (a0 : Nat) (ht_a0 : t a0 = (7, 0, 0)) : Met l yX6_readPlain (wl yX6_readPlain cX6_readPlain 3 none) ({ frames := 33, cells := 0, slots := 0, locals := 2240 }) (tp D cy ld t [] [.ref a0] (fun H => tk_f D H a0 6 9 (.int 1))) (tv D cy ld t [] (fun H => tk_f D H a0 6 9 (.int 1)) (tk_w t [(7, 0, 0), (20, 0, 0), (8, 12, 12)])) 0 0 (tk_w t [(7, 0, 0), (20, 0, 0), (8, 12, 12)]) := by
  refine tk_met (y := yX6_readPlain) (cc := cX6_readPlain) (maxL := 3) (ret := none) (av := [.ref a0]) _ _ (by decide) (Nat.le_of_ble_eq_true rfl) ?_
  intro p e s m args below meth c hx hb hr hml hts htl hown hlocks hK H locs hH hG hS hB hZ ls hl
  have hown : s.vm.findClass RX6 = some m.cls := hown
  have hl : lv_has ls 3 [(0, .ref a0)] := hl
  have hg_0 := hB
  refine lv_iconst (v := 0) hx hb dX6_readPlain_0 (by decide) ?_
  refine lv_istore_n (lv' := [(1, .int 0), (0, .ref a0)]) hx hb dX6_readPlain_1 rfl hl (by decide) rfl (fun ls hl => ?_)
  refine lv_iconst (v := 0) hx hb dX6_readPlain_2 (by decide) ?_
  refine lv_istore_n (lv' := [(2, .int 0), (1, .int 0), (0, .ref a0)]) hx hb dX6_readPlain_3 rfl hl (by decide) rfl (fun ls hl => ?_)
  have hl975 : ∀ (N_l975 : Nat) (v1 : Int32) (v2 : Int32) (H : Heap) (locs : List Loc), 0 ≤ v2.toInt → v2.toInt ≤ 1 → 0 ≤ v1.toInt + (-1) * v2.toInt → v1.toInt ≤ 400 → (-1) * v1.toInt + 400 < (N_l975 : Int) → tk_G D cy ld t [] H → va_S (tk_w t [(7, 0, 0), (20, 0, 0), (8, 12, 12)]) s.heap H locs → tk_f D H a0 6 9 (.int 1) → ∀ ls : Array Slot, lv_has ls 3 [(2, .int v1), (1, .int v2), (0, .ref a0)] → W p l e ({ frames := 33, cells := 0, slots := 0, locals := 2240 }) s m args below meth c H locs 0 0 (MQ below (tv D cy ld t [] (fun H => tk_f D H a0 6 9 (.int 1)) (tk_w t [(7, 0, 0), (20, 0, 0), (8, 12, 12)])) args s 0 0 (tk_w t [(7, 0, 0), (20, 0, 0), (8, 12, 12)])) (F0 m 4 ls []) := by
    intro N_l975
    induction N_l975 with
    | zero => intro v1 v2 H locs hq0_l975 hq1_l975 hq2_l975 hq3_l975 hm_l975 hG hS hg_0 ls hl; exfalso; omega
    | succ N_l975 ih_l975 =>
      intro v1 v2 H locs hq0_l975 hq1_l975 hq2_l975 hq3_l975 hm_l975 hG hS hg_0 ls hl
      refine lv_iload_n hx hb dX6_readPlain_4 rfl (lv_at hl 0 rfl) ?_
      refine lv_sipush (v := 400) hx hb dX6_readPlain_5 (by decide) ?_
      have hj993 : ∀ (H : Heap) (locs : List Loc), tk_G D cy ld t [] H → va_S (tk_w t [(7, 0, 0), (20, 0, 0), (8, 12, 12)]) s.heap H locs → tk_f D H a0 6 9 (.int 1) → ∀ ls : Array Slot, lv_has ls 3 [(1, .int v2), (0, .ref a0)] → W p l e ({ frames := 33, cells := 0, slots := 0, locals := 2240 }) s m args below meth c H locs 0 0 (MQ below (tv D cy ld t [] (fun H => tk_f D H a0 6 9 (.int 1)) (tk_w t [(7, 0, 0), (20, 0, 0), (8, 12, 12)])) args s 0 0 (tk_w t [(7, 0, 0), (20, 0, 0), (8, 12, 12)])) (F0 m 40 ls []) := by
        intro H locs hG hS hg_0 ls hl
        refine lv_aload_n hx hb dX6_readPlain_40 rfl (lv_at hl 1 rfl) ?_
        refine lv_bipush (v := 40) hx hb dX6_readPlain_41 (by decide) ?_
        have hk_40 : (40 : Int32).toInt = 40 := by decide
        refine tk_Vi (As := [.int 40]) (rest := []) (ci := 6) ⟨hx, hb, hml, hown, hts⟩ hK hG hZ hS (k_X6_isSign l D cy ld t a0 40 ht_a0) trivial ⟨callB_of 1 hts (wl_in mw_590) rfl rfl rfl (htl _ mw_36) (htl _ mw_587) hd_yX6_isSign ⟨(Nat.le_of_ble_eq_true rfl), (Nat.le_of_ble_eq_true rfl)⟩, htl _ mw_588, htl _ mw_589⟩ ht_a0 (by decide) tk_no rfl (tk_w.pick [] rfl) rfl hl.1 rfl (Nat.le_of_ble_eq_true rfl) dX6_readPlain_43 ⟨(Nat.le_of_ble_eq_true rfl), (Nat.le_of_ble_eq_true rfl)⟩ (fun v994 H locs hpo hG hS hq9 => ?_)
        have hg_0 := hg_0.call hq9 tk_w.nil
        obtain ⟨hpo996, hpo997, hpo998, hpo999⟩ := hpo
        refine lv_if_eq (tgt := 79) hx hb dX6_readPlain_46 (by decide) (fun c9 => ?_) (fun c9 => ?_)
        · have hc1000 : v994.toInt = 0 := (fi_eq rfl (show (0 : Int32).toInt = 0 by decide)).mp c9
          refine lv_aload_n hx hb dX6_readPlain_79 rfl (lv_at hl 1 rfl) ?_
          refine tk_Vv (As := []) (rest := []) (ci := 6) ⟨hx, hb, hml, hown, hts⟩ hK hG hZ hS (k_X6_readSum_1 l D cy ld t a0 ht_a0) hg_0 ⟨callB_of 0 hts (wl_in mw_583) rfl rfl rfl (htl _ mw_36) (htl _ mw_580) hd_yX6_readSum ⟨(Nat.le_of_ble_eq_true rfl), (Nat.le_of_ble_eq_true rfl)⟩, htl _ mw_581, htl _ mw_582⟩ ht_a0 (by decide) tk_no rfl (tk_w.pick [0, 1, 2] rfl) rfl hl.1 rfl (Nat.le_of_ble_eq_true rfl) dX6_readPlain_80 ⟨(Nat.le_of_ble_eq_true rfl), (Nat.le_of_ble_eq_true rfl)⟩ (fun H locs hpo hG hS hq9 => ?_)
          have hf1002 := hpo
          refine lv_aload_n hx hb dX6_readPlain_83 rfl (lv_at hl 1 rfl) ?_
          refine lv_bipush (v := 60) hx hb dX6_readPlain_84 (by decide) ?_
          have hk_60 : (60 : Int32).toInt = 60 := by decide
          refine tk_Vi (As := [.int 60]) (rest := []) (ci := 6) ⟨hx, hb, hml, hown, hts⟩ hK hG hZ hS (k_X6_isSign l D cy ld t a0 60 ht_a0) trivial ⟨callB_of 1 hts (wl_in mw_590) rfl rfl rfl (htl _ mw_36) (htl _ mw_587) hd_yX6_isSign ⟨(Nat.le_of_ble_eq_true rfl), (Nat.le_of_ble_eq_true rfl)⟩, htl _ mw_588, htl _ mw_589⟩ ht_a0 (by decide) tk_no rfl (tk_w.pick [] rfl) rfl hl.1 rfl (Nat.le_of_ble_eq_true rfl) dX6_readPlain_86 ⟨(Nat.le_of_ble_eq_true rfl), (Nat.le_of_ble_eq_true rfl)⟩ (fun v1003 H locs hpo hG hS hq9 => ?_)
          have hf1002 := hf1002.call hq9 tk_w.nil
          obtain ⟨hpo1005, hpo1006, hpo1007, hpo1008⟩ := hpo
          have hj1021 : ∀ (v1019 : Int32) (H : Heap) (locs : List Loc), 11 ≤ v1019.toInt → v1019.toInt ≤ 13 → tk_G D cy ld t [] H → va_S (tk_w t [(7, 0, 0), (20, 0, 0), (8, 12, 12)]) s.heap H locs → tk_f D H a0 6 9 (.int 1) → ∀ ls : Array Slot, lv_has ls 3 [(1, .int v2), (0, .ref a0)] → W p l e ({ frames := 33, cells := 0, slots := 0, locals := 2240 }) s m args below meth c H locs 0 0 (MQ below (tv D cy ld t [] (fun H => tk_f D H a0 6 9 (.int 1)) (tk_w t [(7, 0, 0), (20, 0, 0), (8, 12, 12)])) args s 0 0 (tk_w t [(7, 0, 0), (20, 0, 0), (8, 12, 12)])) (F0 m 113 ls [.int v1019]) := by
            intro v1019 H locs hq0_j1021 hq1_j1021 hG hS hf1002 ls hl
            refine lv_istore_n (lv' := [(2, .int v1019), (1, .int v2), (0, .ref a0)]) hx hb dX6_readPlain_113 rfl hl (by decide) rfl (fun ls hl => ?_)
            refine lv_iload_n hx hb dX6_readPlain_114 rfl (lv_at hl 0 rfl) ?_
            refine lv_bipush (v := 13) hx hb dX6_readPlain_115 (by decide) ?_
            refine lv_icmp_ne (tgt := 134) hx hb dX6_readPlain_117 (by decide) (fun c9 => ?_) (fun c9 => ?_)
            · have hc1022 : ¬ (v1019.toInt = 13) := fun h9 => c9 ((fi_eq rfl (show (13 : Int32).toInt = 13 by decide)).mpr h9)
              refine lv_aload_n hx hb dX6_readPlain_134 rfl (lv_at hl 2 rfl) ?_
              have hk_1 : (1 : Int32).toInt = 1 := by decide
              refine tk_Vv (As := []) (rest := []) (ci := 6) ⟨hx, hb, hml, hown, hts⟩ hK hG hZ hS (k_X6_step l D cy ld t a0 1 ht_a0 (by omega) (by omega)) hf1002 ⟨callB_of 0 hts (wl_in mw_494) rfl rfl rfl (htl _ mw_36) (htl _ mw_491) hd_yX6_step ⟨(Nat.le_of_ble_eq_true rfl), (Nat.le_of_ble_eq_true rfl)⟩, htl _ mw_492, htl _ mw_493⟩ ht_a0 (by decide) tk_no rfl (tk_w.pick [0] rfl) rfl hl.1 rfl (Nat.le_of_ble_eq_true rfl) dX6_readPlain_135 ⟨(Nat.le_of_ble_eq_true rfl), (Nat.le_of_ble_eq_true rfl)⟩ (fun H locs hpo hG hS hq9 => ?_)
              have hf1024 := hpo
              refine lv_aload_n hx hb dX6_readPlain_138 rfl (lv_at hl 2 rfl) ?_
              refine tk_Vv (As := []) (rest := []) (ci := 6) ⟨hx, hb, hml, hown, hts⟩ hK hG hZ hS (k_X6_readSum_1 l D cy ld t a0 ht_a0) hf1024 ⟨callB_of 0 hts (wl_in mw_583) rfl rfl rfl (htl _ mw_36) (htl _ mw_580) hd_yX6_readSum ⟨(Nat.le_of_ble_eq_true rfl), (Nat.le_of_ble_eq_true rfl)⟩, htl _ mw_581, htl _ mw_582⟩ ht_a0 (by decide) tk_no rfl (tk_w.pick [0, 1, 2] rfl) rfl hl.1 rfl (Nat.le_of_ble_eq_true rfl) dX6_readPlain_139 ⟨(Nat.le_of_ble_eq_true rfl), (Nat.le_of_ble_eq_true rfl)⟩ (fun H locs hpo hG hS hq9 => ?_)
              have hf1026 := hpo
              refine lv_aload_n hx hb dX6_readPlain_142 rfl (lv_at hl 2 rfl) ?_
              refine tk_get (ci := 6) (C := RX6) (T := TX6) (N := 11) (sp := (6, 8, 512, 12)) hx hb htl inX6 hown hK hG ht_a0 (by decide) tk_no rfl 0 (by decide) (htl _ mw_132) (fun _ h9 => h9) rfl dX6_readPlain_143 (fun v9 hf1027 hV9 => ?_)
              obtain ⟨b1028, rfl, ht_b1028⟩ := hV9
              have ht_b1028 : t b1028 = (8, 512, 12) := ht_b1028
              refine lv_iload_n hx hb dX6_readPlain_146 rfl (lv_at hl 0 rfl) ?_
              refine lv_iconst (v := 0) hx hb dX6_readPlain_147 (by decide) ?_
              have hk_0 : (0 : Int32).toInt = 0 := by decide
              refine tk_Vv (As := [.int v1019, .int 0]) (rest := []) (ci := 7) ⟨hx, hb, hml, hown, hts⟩ hK hG hZ hS (k_X7_put l D cy ld t b1028 v1019 0 ht_b1028) trivial ⟨callB_of 2 hts (wl_in mw_594) rfl rfl rfl (htl _ mw_131) (htl _ mw_591) hd_yX7_put ⟨(Nat.le_of_ble_eq_true rfl), (Nat.le_of_ble_eq_true rfl)⟩, htl _ mw_592, htl _ mw_593⟩ ht_b1028 (by decide) tk_no rfl (tk_w.pick [1, 2] rfl) rfl hl.1 rfl (Nat.le_of_ble_eq_true rfl) dX6_readPlain_148 ⟨(Nat.le_of_ble_eq_true rfl), (Nat.le_of_ble_eq_true rfl)⟩ (fun H locs hpo hG hS hq9 => ?_)
              have hf1026 := hf1026.call hq9 (tk_w.no ht_a0 (by decide))
              refine lv_iload_n hx hb dX6_readPlain_151 rfl (lv_at hl 1 rfl) ?_
              refine lv_if_eq (tgt := 164) hx hb dX6_readPlain_152 (by decide) (fun c9 => ?_) (fun c9 => ?_)
              · have hc1030 : v2.toInt = 0 := (fi_eq rfl (show (0 : Int32).toInt = 0 by decide)).mp c9
                exact tk_vret hx hb hr hlocks (show tk_f D H a0 6 9 (.int 1) from hf1026) hG hS dX6_readPlain_164
              · have hc1030 : ¬ (v2.toInt = 0) := fun h9 => c9 ((fi_eq rfl (show (0 : Int32).toInt = 0 by decide)).mpr h9)
                refine lv_aload_n hx hb dX6_readPlain_155 rfl (lv_at hl 2 rfl) ?_
                refine tk_get (ci := 6) (C := RX6) (T := TX6) (N := 11) (sp := (6, 8, 512, 12)) hx hb htl inX6 hown hK hG ht_a0 (by decide) tk_no rfl 0 (by decide) (htl _ mw_132) (fun _ h9 => h9) rfl dX6_readPlain_156 (fun v9 hf1031 hV9 => ?_)
                obtain ⟨b1032, rfl, ht_b1032⟩ := hV9
                have ht_b1032 : t b1032 = (8, 512, 12) := ht_b1032
                refine lv_iconst (v := 3) hx hb dX6_readPlain_159 (by decide) ?_
                refine lv_iconst (v := 0) hx hb dX6_readPlain_160 (by decide) ?_
                have hk_3 : (3 : Int32).toInt = 3 := by decide
                have hk_0 : (0 : Int32).toInt = 0 := by decide
                refine tk_Vv (As := [.int 3, .int 0]) (rest := []) (ci := 7) ⟨hx, hb, hml, hown, hts⟩ hK hG hZ hS (k_X7_put l D cy ld t b1032 3 0 ht_b1032) trivial ⟨callB_of 2 hts (wl_in mw_594) rfl rfl rfl (htl _ mw_131) (htl _ mw_591) hd_yX7_put ⟨(Nat.le_of_ble_eq_true rfl), (Nat.le_of_ble_eq_true rfl)⟩, htl _ mw_592, htl _ mw_593⟩ ht_b1032 (by decide) tk_no rfl (tk_w.pick [1, 2] rfl) rfl hl.1 rfl (Nat.le_of_ble_eq_true rfl) dX6_readPlain_161 ⟨(Nat.le_of_ble_eq_true rfl), (Nat.le_of_ble_eq_true rfl)⟩ (fun H locs hpo hG hS hq9 => ?_)
                have hf1026 := hf1026.call hq9 (tk_w.no ht_a0 (by decide))
                exact tk_vret hx hb hr hlocks (show tk_f D H a0 6 9 (.int 1) from hf1026) hG hS dX6_readPlain_164
            · have hc1022 : v1019.toInt = 13 := (fi_eq rfl (show (13 : Int32).toInt = 13 by decide)).mp c9
              refine lv_aload_n hx hb dX6_readPlain_120 rfl (lv_at hl 2 rfl) ?_
              refine lv_bipush (v := 61) hx hb dX6_readPlain_121 (by decide) ?_
              have hk_61 : (61 : Int32).toInt = 61 := by decide
              refine tk_Vi (As := [.int 61]) (rest := []) (ci := 6) ⟨hx, hb, hml, hown, hts⟩ hK hG hZ hS (k_X6_isSign l D cy ld t a0 61 ht_a0) trivial ⟨callB_of 1 hts (wl_in mw_590) rfl rfl rfl (htl _ mw_36) (htl _ mw_587) hd_yX6_isSign ⟨(Nat.le_of_ble_eq_true rfl), (Nat.le_of_ble_eq_true rfl)⟩, htl _ mw_588, htl _ mw_589⟩ ht_a0 (by decide) tk_no rfl (tk_w.pick [] rfl) rfl hl.1 rfl (Nat.le_of_ble_eq_true rfl) dX6_readPlain_123 ⟨(Nat.le_of_ble_eq_true rfl), (Nat.le_of_ble_eq_true rfl)⟩ (fun v1034 H locs hpo hG hS hq9 => ?_)
              have hf1002 := hf1002.call hq9 tk_w.nil
              obtain ⟨hpo1036, hpo1037, hpo1038, hpo1039⟩ := hpo
              refine lv_if_ne (tgt := 134) hx hb dX6_readPlain_126 (by decide) (fun c9 => ?_) (fun c9 => ?_)
              · have hc1040 : ¬ (v1034.toInt = 0) := fun h9 => c9 ((fi_eq rfl (show (0 : Int32).toInt = 0 by decide)).mpr h9)
                refine lv_aload_n hx hb dX6_readPlain_134 rfl (lv_at hl 2 rfl) ?_
                have hk_1 : (1 : Int32).toInt = 1 := by decide
                refine tk_Vv (As := []) (rest := []) (ci := 6) ⟨hx, hb, hml, hown, hts⟩ hK hG hZ hS (k_X6_step l D cy ld t a0 1 ht_a0 (by omega) (by omega)) hf1002 ⟨callB_of 0 hts (wl_in mw_494) rfl rfl rfl (htl _ mw_36) (htl _ mw_491) hd_yX6_step ⟨(Nat.le_of_ble_eq_true rfl), (Nat.le_of_ble_eq_true rfl)⟩, htl _ mw_492, htl _ mw_493⟩ ht_a0 (by decide) tk_no rfl (tk_w.pick [0] rfl) rfl hl.1 rfl (Nat.le_of_ble_eq_true rfl) dX6_readPlain_135 ⟨(Nat.le_of_ble_eq_true rfl), (Nat.le_of_ble_eq_true rfl)⟩ (fun H locs hpo hG hS hq9 => ?_)
                have hf1042 := hpo
                refine lv_aload_n hx hb dX6_readPlain_138 rfl (lv_at hl 2 rfl) ?_
                refine tk_Vv (As := []) (rest := []) (ci := 6) ⟨hx, hb, hml, hown, hts⟩ hK hG hZ hS (k_X6_readSum_1 l D cy ld t a0 ht_a0) hf1042 ⟨callB_of 0 hts (wl_in mw_583) rfl rfl rfl (htl _ mw_36) (htl _ mw_580) hd_yX6_readSum ⟨(Nat.le_of_ble_eq_true rfl), (Nat.le_of_ble_eq_true rfl)⟩, htl _ mw_581, htl _ mw_582⟩ ht_a0 (by decide) tk_no rfl (tk_w.pick [0, 1, 2] rfl) rfl hl.1 rfl (Nat.le_of_ble_eq_true rfl) dX6_readPlain_139 ⟨(Nat.le_of_ble_eq_true rfl), (Nat.le_of_ble_eq_true rfl)⟩ (fun H locs hpo hG hS hq9 => ?_)
                have hf1044 := hpo
                refine lv_aload_n hx hb dX6_readPlain_142 rfl (lv_at hl 2 rfl) ?_
                refine tk_get (ci := 6) (C := RX6) (T := TX6) (N := 11) (sp := (6, 8, 512, 12)) hx hb htl inX6 hown hK hG ht_a0 (by decide) tk_no rfl 0 (by decide) (htl _ mw_132) (fun _ h9 => h9) rfl dX6_readPlain_143 (fun v9 hf1045 hV9 => ?_)
                obtain ⟨b1046, rfl, ht_b1046⟩ := hV9
                have ht_b1046 : t b1046 = (8, 512, 12) := ht_b1046
                refine lv_iload_n hx hb dX6_readPlain_146 rfl (lv_at hl 0 rfl) ?_
                refine lv_iconst (v := 0) hx hb dX6_readPlain_147 (by decide) ?_
                have hk_0 : (0 : Int32).toInt = 0 := by decide
                refine tk_Vv (As := [.int v1019, .int 0]) (rest := []) (ci := 7) ⟨hx, hb, hml, hown, hts⟩ hK hG hZ hS (k_X7_put l D cy ld t b1046 v1019 0 ht_b1046) trivial ⟨callB_of 2 hts (wl_in mw_594) rfl rfl rfl (htl _ mw_131) (htl _ mw_591) hd_yX7_put ⟨(Nat.le_of_ble_eq_true rfl), (Nat.le_of_ble_eq_true rfl)⟩, htl _ mw_592, htl _ mw_593⟩ ht_b1046 (by decide) tk_no rfl (tk_w.pick [1, 2] rfl) rfl hl.1 rfl (Nat.le_of_ble_eq_true rfl) dX6_readPlain_148 ⟨(Nat.le_of_ble_eq_true rfl), (Nat.le_of_ble_eq_true rfl)⟩ (fun H locs hpo hG hS hq9 => ?_)
                have hf1044 := hf1044.call hq9 (tk_w.no ht_a0 (by decide))
                refine lv_iload_n hx hb dX6_readPlain_151 rfl (lv_at hl 1 rfl) ?_
                refine lv_if_eq (tgt := 164) hx hb dX6_readPlain_152 (by decide) (fun c9 => ?_) (fun c9 => ?_)
                · have hc1048 : v2.toInt = 0 := (fi_eq rfl (show (0 : Int32).toInt = 0 by decide)).mp c9
                  exact tk_vret hx hb hr hlocks (show tk_f D H a0 6 9 (.int 1) from hf1044) hG hS dX6_readPlain_164
                · have hc1048 : ¬ (v2.toInt = 0) := fun h9 => c9 ((fi_eq rfl (show (0 : Int32).toInt = 0 by decide)).mpr h9)
                  refine lv_aload_n hx hb dX6_readPlain_155 rfl (lv_at hl 2 rfl) ?_
                  refine tk_get (ci := 6) (C := RX6) (T := TX6) (N := 11) (sp := (6, 8, 512, 12)) hx hb htl inX6 hown hK hG ht_a0 (by decide) tk_no rfl 0 (by decide) (htl _ mw_132) (fun _ h9 => h9) rfl dX6_readPlain_156 (fun v9 hf1049 hV9 => ?_)
                  obtain ⟨b1050, rfl, ht_b1050⟩ := hV9
                  have ht_b1050 : t b1050 = (8, 512, 12) := ht_b1050
                  refine lv_iconst (v := 3) hx hb dX6_readPlain_159 (by decide) ?_
                  refine lv_iconst (v := 0) hx hb dX6_readPlain_160 (by decide) ?_
                  have hk_3 : (3 : Int32).toInt = 3 := by decide
                  have hk_0 : (0 : Int32).toInt = 0 := by decide
                  refine tk_Vv (As := [.int 3, .int 0]) (rest := []) (ci := 7) ⟨hx, hb, hml, hown, hts⟩ hK hG hZ hS (k_X7_put l D cy ld t b1050 3 0 ht_b1050) trivial ⟨callB_of 2 hts (wl_in mw_594) rfl rfl rfl (htl _ mw_131) (htl _ mw_591) hd_yX7_put ⟨(Nat.le_of_ble_eq_true rfl), (Nat.le_of_ble_eq_true rfl)⟩, htl _ mw_592, htl _ mw_593⟩ ht_b1050 (by decide) tk_no rfl (tk_w.pick [1, 2] rfl) rfl hl.1 rfl (Nat.le_of_ble_eq_true rfl) dX6_readPlain_161 ⟨(Nat.le_of_ble_eq_true rfl), (Nat.le_of_ble_eq_true rfl)⟩ (fun H locs hpo hG hS hq9 => ?_)
                  have hf1044 := hf1044.call hq9 (tk_w.no ht_a0 (by decide))
                  exact tk_vret hx hb hr hlocks (show tk_f D H a0 6 9 (.int 1) from hf1044) hG hS dX6_readPlain_164
              · have hc1040 : v1034.toInt = 0 := (fi_eq rfl (show (0 : Int32).toInt = 0 by decide)).mp c9
                refine lv_aload_n hx hb dX6_readPlain_129 rfl (lv_at hl 2 rfl) ?_
                have hk_1 : (1 : Int32).toInt = 1 := by decide
                refine tk_Vv (As := []) (rest := []) (ci := 6) ⟨hx, hb, hml, hown, hts⟩ hK hG hZ hS (k_X6_fail l D cy ld t a0 1 ht_a0 (by omega) (by omega)) hf1002 ⟨callB_of 0 hts (wl_in mw_507) rfl rfl rfl (htl _ mw_36) (htl _ mw_504) hd_yX6_fail ⟨(Nat.le_of_ble_eq_true rfl), (Nat.le_of_ble_eq_true rfl)⟩, htl _ mw_505, htl _ mw_506⟩ ht_a0 (by decide) tk_no rfl (tk_w.pick [0] rfl) rfl hl.1 rfl (Nat.le_of_ble_eq_true rfl) dX6_readPlain_130 ⟨(Nat.le_of_ble_eq_true rfl), (Nat.le_of_ble_eq_true rfl)⟩ (fun H locs hpo hG hS hq9 => ?_)
                have hf1053 := hpo
                exact tk_vret hx hb hr hlocks (show tk_f D H a0 6 9 (.int 1) from hf1053) hG hS dX6_readPlain_133
          refine lv_if_eq (tgt := 97) hx hb dX6_readPlain_89 (by decide) (fun c9 => ?_) (fun c9 => ?_)
          · have hc1009 : v1003.toInt = 0 := (fi_eq rfl (show (0 : Int32).toInt = 0 by decide)).mp c9
            refine lv_aload_n hx hb dX6_readPlain_97 rfl (lv_at hl 1 rfl) ?_
            refine lv_bipush (v := 62) hx hb dX6_readPlain_98 (by decide) ?_
            have hk_62 : (62 : Int32).toInt = 62 := by decide
            refine tk_Vi (As := [.int 62]) (rest := []) (ci := 6) ⟨hx, hb, hml, hown, hts⟩ hK hG hZ hS (k_X6_isSign l D cy ld t a0 62 ht_a0) trivial ⟨callB_of 1 hts (wl_in mw_590) rfl rfl rfl (htl _ mw_36) (htl _ mw_587) hd_yX6_isSign ⟨(Nat.le_of_ble_eq_true rfl), (Nat.le_of_ble_eq_true rfl)⟩, htl _ mw_588, htl _ mw_589⟩ ht_a0 (by decide) tk_no rfl (tk_w.pick [] rfl) rfl hl.1 rfl (Nat.le_of_ble_eq_true rfl) dX6_readPlain_100 ⟨(Nat.le_of_ble_eq_true rfl), (Nat.le_of_ble_eq_true rfl)⟩ (fun v1054 H locs hpo hG hS hq9 => ?_)
            have hf1002 := hf1002.call hq9 tk_w.nil
            obtain ⟨hpo1056, hpo1057, hpo1058, hpo1059⟩ := hpo
            refine lv_if_eq (tgt := 111) hx hb dX6_readPlain_103 (by decide) (fun c9 => ?_) (fun c9 => ?_)
            · have hc1060 : v1054.toInt = 0 := (fi_eq rfl (show (0 : Int32).toInt = 0 by decide)).mp c9
              refine lv_bipush (v := 13) hx hb dX6_readPlain_111 (by decide) ?_
              have hk_13 : (13 : Int32).toInt = 13 := by decide
              exact hj1021 13 _ _ (by omega) (by omega) hG hS hf1002 _ (lv_sub hl [0, 1] rfl)
            · have hc1060 : ¬ (v1054.toInt = 0) := fun h9 => c9 ((fi_eq rfl (show (0 : Int32).toInt = 0 by decide)).mpr h9)
              refine lv_bipush (v := 12) hx hb dX6_readPlain_106 (by decide) ?_
              refine lv_goto (tgt := 113) hx hb dX6_readPlain_108 (by decide) ?_
              have hk_12 : (12 : Int32).toInt = 12 := by decide
              exact hj1021 12 _ _ (by omega) (by omega) hG hS hf1002 _ (lv_sub hl [0, 1] rfl)
          · have hc1009 : ¬ (v1003.toInt = 0) := fun h9 => c9 ((fi_eq rfl (show (0 : Int32).toInt = 0 by decide)).mpr h9)
            refine lv_bipush (v := 11) hx hb dX6_readPlain_92 (by decide) ?_
            refine lv_goto (tgt := 113) hx hb dX6_readPlain_94 (by decide) ?_
            have hk_11 : (11 : Int32).toInt = 11 := by decide
            exact hj1021 11 _ _ (by omega) (by omega) hG hS hf1002 _ (lv_sub hl [0, 1] rfl)
        · have hc1000 : ¬ (v994.toInt = 0) := fun h9 => c9 ((fi_eq rfl (show (0 : Int32).toInt = 0 by decide)).mpr h9)
          refine lv_aload_n hx hb dX6_readPlain_49 rfl (lv_at hl 1 rfl) ?_
          refine tk_Vi (As := []) (rest := []) (ci := 6) ⟨hx, hb, hml, hown, hts⟩ hK hG hZ hS (k_X6_goDeeper_1 l D cy ld t a0 ht_a0) hg_0 ⟨callB_of 0 hts (wl_in mw_599) rfl rfl rfl (htl _ mw_36) (htl _ mw_596) hd_yX6_goDeeper ⟨(Nat.le_of_ble_eq_true rfl), (Nat.le_of_ble_eq_true rfl)⟩, htl _ mw_597, htl _ mw_598⟩ ht_a0 (by decide) tk_no rfl (tk_w.pick [0] rfl) rfl hl.1 rfl (Nat.le_of_ble_eq_true rfl) dX6_readPlain_50 ⟨(Nat.le_of_ble_eq_true rfl), (Nat.le_of_ble_eq_true rfl)⟩ (fun v1061 H locs hpo hG hS hq9 => ?_)
          obtain ⟨hpo1063, hpo1064, hpo1065, hf1066⟩ := hpo
          obtain rfl : v1061 = 1 := (fi_eq (show v1061.toInt = 1 by omega) (by decide)).mpr rfl
          refine lv_if_eq (tgt := 151) hx hb dX6_readPlain_53 (by decide) (fun c9 => absurd c9 (by decide)) (fun _ => ?_)
          refine lv_aload_n hx hb dX6_readPlain_56 rfl (lv_at hl 1 rfl) ?_
          refine tk_Vv (As := []) (rest := []) (ci := 6) ⟨hx, hb, hml, hown, hts⟩ hK hG hZ hS (k_X6_readTest_2 l D cy ld t a0 ht_a0) hf1066 ⟨callB_of 0 hts (wl_in mw_635) rfl rfl rfl (htl _ mw_36) (htl _ mw_632) hd_yX6_readTest ⟨(Nat.le_of_ble_eq_true rfl), (Nat.le_of_ble_eq_true rfl)⟩, htl _ mw_633, htl _ mw_634⟩ ht_a0 (by decide) tk_no rfl (tk_w.pick [0, 1, 2] rfl) rfl hl.1 rfl (Nat.le_of_ble_eq_true rfl) dX6_readPlain_57 ⟨(Nat.le_of_ble_eq_true rfl), (Nat.le_of_ble_eq_true rfl)⟩ (fun H locs hpo hG hS hq9 => ?_)
          have hf1068 := hpo
          refine lv_aload_n hx hb dX6_readPlain_60 rfl (lv_at hl 1 rfl) ?_
          refine lv_bipush (v := 41) hx hb dX6_readPlain_61 (by decide) ?_
          have hk_41 : (41 : Int32).toInt = 41 := by decide
          have hk_2 : (2 : Int32).toInt = 2 := by decide
          refine tk_Vv (As := [.int 41]) (rest := []) (ci := 6) ⟨hx, hb, hml, hown, hts⟩ hK hG hZ hS (k_X6_take l D cy ld t a0 41 2 ht_a0 (by omega) (by omega)) hf1068 ⟨callB_of 1 hts (wl_in mw_603) rfl rfl rfl (htl _ mw_36) (htl _ mw_600) hd_yX6_take ⟨(Nat.le_of_ble_eq_true rfl), (Nat.le_of_ble_eq_true rfl)⟩, htl _ mw_601, htl _ mw_602⟩ ht_a0 (by decide) tk_no rfl (tk_w.pick [0] rfl) rfl hl.1 rfl (Nat.le_of_ble_eq_true rfl) dX6_readPlain_63 ⟨(Nat.le_of_ble_eq_true rfl), (Nat.le_of_ble_eq_true rfl)⟩ (fun H locs hpo hG hS hq9 => ?_)
          have hf1070 := hpo
          refine lv_aload_n hx hb dX6_readPlain_66 rfl (lv_at hl 1 rfl) ?_
          refine lv_dup hx hb dX6_readPlain_67 rfl ?_
          refine tk_getk (ci := 6) (C := RX6) (T := TX6) (N := 11) (sp := (0, 0, 8, 0)) hx hb htl inX6 hown hK hG ht_a0 (by decide) tk_no rfl 9 (by decide) (htl _ mw_480) (fun _ h9 => h9) rfl hf1070 dX6_readPlain_68 ?_
          refine lv_iconst (v := 1) hx hb dX6_readPlain_71 (by decide) ?_
          refine lv_isub hx hb dX6_readPlain_72 ?_
          refine fx_ti (v := 1) (by decide) ?_
          refine tk_put (ci := 6) (v := .int 1) (ty := .int) (C := RX6) (T := TX6) (N := 11) (sp := (0, 0, 8, 0)) hx hb htl inX6 tyX6 tyX6_ok nmX6 hown hK hG hS ht_a0 (by decide) tk_no rfl 9 (by decide) (htl _ mw_480) (fun _ h9 => h9) rfl (tyX6_ok 9 (by decide)) rfl rfl rfl (tk_V0 (by decide) (by decide)) (fun _ h => tk_X7 h (by decide) (by decide)) (tk_w.of ht_a0 (by decide) (List.mem_of_getElem? (i := 0) rfl) (Nat.le_refl _) (Nat.le_refl _)) dX6_readPlain_73 (fun H locs hG hS hf1071 hq9 hj9 => ?_)
          refine lv_goto (tgt := 151) hx hb dX6_readPlain_76 (by decide) ?_
          refine lv_iload_n hx hb dX6_readPlain_151 rfl (lv_at hl 0 rfl) ?_
          refine lv_if_eq (tgt := 164) hx hb dX6_readPlain_152 (by decide) (fun c9 => ?_) (fun c9 => ?_)
          · have hc1073 : v2.toInt = 0 := (fi_eq rfl (show (0 : Int32).toInt = 0 by decide)).mp c9
            exact tk_vret hx hb hr hlocks (show tk_f D H a0 6 9 (.int 1) from hf1071) hG hS dX6_readPlain_164
          · have hc1073 : ¬ (v2.toInt = 0) := fun h9 => c9 ((fi_eq rfl (show (0 : Int32).toInt = 0 by decide)).mpr h9)
            refine lv_aload_n hx hb dX6_readPlain_155 rfl (lv_at hl 1 rfl) ?_
            refine tk_get (ci := 6) (C := RX6) (T := TX6) (N := 11) (sp := (6, 8, 512, 12)) hx hb htl inX6 hown hK hG ht_a0 (by decide) tk_no rfl 0 (by decide) (htl _ mw_132) (fun _ h9 => h9) rfl dX6_readPlain_156 (fun v9 hf1074 hV9 => ?_)
            obtain ⟨b1075, rfl, ht_b1075⟩ := hV9
            have ht_b1075 : t b1075 = (8, 512, 12) := ht_b1075
            refine lv_iconst (v := 3) hx hb dX6_readPlain_159 (by decide) ?_
            refine lv_iconst (v := 0) hx hb dX6_readPlain_160 (by decide) ?_
            have hk_3 : (3 : Int32).toInt = 3 := by decide
            have hk_0 : (0 : Int32).toInt = 0 := by decide
            refine tk_Vv (As := [.int 3, .int 0]) (rest := []) (ci := 7) ⟨hx, hb, hml, hown, hts⟩ hK hG hZ hS (k_X7_put l D cy ld t b1075 3 0 ht_b1075) trivial ⟨callB_of 2 hts (wl_in mw_594) rfl rfl rfl (htl _ mw_131) (htl _ mw_591) hd_yX7_put ⟨(Nat.le_of_ble_eq_true rfl), (Nat.le_of_ble_eq_true rfl)⟩, htl _ mw_592, htl _ mw_593⟩ ht_b1075 (by decide) tk_no rfl (tk_w.pick [1, 2] rfl) rfl hl.1 rfl (Nat.le_of_ble_eq_true rfl) dX6_readPlain_161 ⟨(Nat.le_of_ble_eq_true rfl), (Nat.le_of_ble_eq_true rfl)⟩ (fun H locs hpo hG hS hq9 => ?_)
            have hf1071 := hf1071.call hq9 (tk_w.no ht_a0 (by decide))
            exact tk_vret hx hb hr hlocks (show tk_f D H a0 6 9 (.int 1) from hf1071) hG hS dX6_readPlain_164
      refine lv_icmp_ge (tgt := 40) hx hb dX6_readPlain_8 (by decide) (fun c9 => ?_) (fun c9 => ?_)
      · have hc976 : 400 ≤ v1.toInt := (fi_le (show (400 : Int32).toInt = 400 by decide) rfl).mp c9
        exact hj993 _ _ hG hS hg_0 _ (lv_sub hl [1, 2] rfl)
      · have hc976 : ¬ (400 ≤ v1.toInt) := fun h9 => c9 ((fi_le (show (400 : Int32).toInt = 400 by decide) rfl).mpr h9)
        refine lv_aload_n hx hb dX6_readPlain_11 rfl (lv_at hl 2 rfl) ?_
        refine va_ldcS hx hb hown hK.2.2.2.2.2.2.2.2.2.2.2.2.1 dX6_readPlain_12 ?_
        refine tk_Vi (As := [.ref (ld 8)]) (rest := []) (ci := 6) ⟨hx, hb, hml, hown, hts⟩ hK hG hZ hS (k_X6_isWord_8 l D cy ld t a0 ht_a0) trivial ⟨callB_of 1 hts (wl_in mw_626) rfl rfl rfl (htl _ mw_36) (htl _ mw_623) hd_yX6_isWord ⟨(Nat.le_of_ble_eq_true rfl), (Nat.le_of_ble_eq_true rfl)⟩, htl _ mw_624, htl _ mw_625⟩ ht_a0 (by decide) tk_no rfl (tk_w.pick [] rfl) rfl hl.1 rfl (Nat.le_of_ble_eq_true rfl) dX6_readPlain_14 ⟨(Nat.le_of_ble_eq_true rfl), (Nat.le_of_ble_eq_true rfl)⟩ (fun v1077 H locs hpo hG hS hq9 => ?_)
        have hg_0 := hg_0.call hq9 tk_w.nil
        obtain ⟨hpo1079, hpo1080, hpo1081, hpo1082⟩ := hpo
        refine lv_if_eq (tgt := 40) hx hb dX6_readPlain_17 (by decide) (fun c9 => ?_) (fun c9 => ?_)
        · have hc1083 : v1077.toInt = 0 := (fi_eq rfl (show (0 : Int32).toInt = 0 by decide)).mp c9
          exact hj993 _ _ hG hS hg_0 _ (lv_sub hl [1, 2] rfl)
        · have hc1083 : ¬ (v1077.toInt = 0) := fun h9 => c9 ((fi_eq rfl (show (0 : Int32).toInt = 0 by decide)).mpr h9)
          refine lv_iload_n hx hb dX6_readPlain_20 rfl (lv_at hl 1 rfl) ?_
          have hj1087 : ∀ (v1086 : Int32), 0 ≤ v1086.toInt → v1086.toInt ≤ 1 → ∀ ls : Array Slot, lv_has ls 3 [(2, .int v1), (0, .ref a0)] → W p l e ({ frames := 33, cells := 0, slots := 0, locals := 2240 }) s m args below meth c H locs 0 0 (MQ below (tv D cy ld t [] (fun H => tk_f D H a0 6 9 (.int 1)) (tk_w t [(7, 0, 0), (20, 0, 0), (8, 12, 12)])) args s 0 0 (tk_w t [(7, 0, 0), (20, 0, 0), (8, 12, 12)])) (F0 m 29 ls [.int v1086]) := by
            intro v1086 hq0_j1087 hq1_j1087 ls hl
            refine lv_istore_n (lv' := [(1, .int v1086), (2, .int v1), (0, .ref a0)]) hx hb dX6_readPlain_29 rfl hl (by decide) rfl (fun ls hl => ?_)
            refine lv_aload_n hx hb dX6_readPlain_30 rfl (lv_at hl 2 rfl) ?_
            have hk_1 : (1 : Int32).toInt = 1 := by decide
            refine tk_Vv (As := []) (rest := []) (ci := 6) ⟨hx, hb, hml, hown, hts⟩ hK hG hZ hS (k_X6_step l D cy ld t a0 1 ht_a0 (by omega) (by omega)) hg_0 ⟨callB_of 0 hts (wl_in mw_494) rfl rfl rfl (htl _ mw_36) (htl _ mw_491) hd_yX6_step ⟨(Nat.le_of_ble_eq_true rfl), (Nat.le_of_ble_eq_true rfl)⟩, htl _ mw_492, htl _ mw_493⟩ ht_a0 (by decide) tk_no rfl (tk_w.pick [0] rfl) rfl hl.1 rfl (Nat.le_of_ble_eq_true rfl) dX6_readPlain_31 ⟨(Nat.le_of_ble_eq_true rfl), (Nat.le_of_ble_eq_true rfl)⟩ (fun H locs hpo hG hS hq9 => ?_)
            have hf1089 := hpo
            obtain ⟨v1090, h_v1090, e_v1090⟩ := tk_inc v1 1 (by decide) (by omega) (by omega)
            refine lv_iinc (v := v1090) (lv' := [(2, .int v1090), (1, .int v1086), (0, .ref a0)]) hx hb dX6_readPlain_34 hl (k := 1) rfl e_v1090 (by decide) rfl (fun ls hl => ?_)
            refine lv_goto (tgt := 4) hx hb dX6_readPlain_37 (by decide) ?_
            exact ih_l975 v1090 v1086 _ _ (by omega) (by omega) (by omega) (by omega) (by omega) hG hS hf1089 _ (lv_sub hl [0, 1, 2] rfl)
          refine lv_if_ne (tgt := 28) hx hb dX6_readPlain_21 (by decide) (fun c9 => ?_) (fun c9 => ?_)
          · have hc1084 : ¬ (v2.toInt = 0) := fun h9 => c9 ((fi_eq rfl (show (0 : Int32).toInt = 0 by decide)).mpr h9)
            refine lv_iconst (v := 0) hx hb dX6_readPlain_28 (by decide) ?_
            have hk_0 : (0 : Int32).toInt = 0 := by decide
            exact hj1087 0 (by omega) (by omega) _ (lv_sub hl [0, 2] rfl)
          · have hc1084 : v2.toInt = 0 := (fi_eq rfl (show (0 : Int32).toInt = 0 by decide)).mp c9
            refine lv_iconst (v := 1) hx hb dX6_readPlain_24 (by decide) ?_
            refine lv_goto (tgt := 29) hx hb dX6_readPlain_25 (by decide) ?_
            have hk_1 : (1 : Int32).toInt = 1 := by decide
            exact hj1087 1 (by omega) (by omega) _ (lv_sub hl [0, 2] rfl)
  have hk_0 : (0 : Int32).toInt = 0 := by decide
  have hk_0 : (0 : Int32).toInt = 0 := by decide
  exact hl975 401 0 0 _ _ (by omega) (by omega) (by omega) (by omega) (by omega) hG hS hg_0 _ (lv_sub hl [0, 1, 2] rfl)
set_option maxHeartbeats 4000000 in
set_option maxRecDepth 100000 in
theorem k_X6_readBoth_1 (l : Launch) (D : va_G) (cy : Nat → ClassId) (ld : Nat → Nat) (t : tk_T) (a0 : Nat) (ht_a0 : t a0 = (7, 0, 0)) : Met l yX6_readBoth (wl yX6_readBoth cX6_readBoth 3 none) ({ frames := 34, cells := 0, slots := 0, locals := 2310 }) (tp D cy ld t [] [.ref a0] (fun H => tk_f D H a0 6 9 (.int 1))) (tv D cy ld t [] (fun H => tk_f D H a0 6 9 (.int 1)) (tk_w t [(7, 0, 0), (20, 0, 0), (8, 12, 12)])) 0 0 (tk_w t [(7, 0, 0), (20, 0, 0), (8, 12, 12)]) := by
  refine tk_met (y := yX6_readBoth) (cc := cX6_readBoth) (maxL := 3) (ret := none) (av := [.ref a0]) _ _ (by decide) (Nat.le_of_ble_eq_true rfl) ?_
  intro p e s m args below meth c hx hb hr hml hts htl hown hlocks hK H locs hH hG hS hB hZ ls hl
  have hown : s.vm.findClass RX6 = some m.cls := hown
  have hl : lv_has ls 3 [(0, .ref a0)] := hl
  have hg_0 := hB
  refine lv_aload_n hx hb dX6_readBoth_0 rfl (lv_at hl 0 rfl) ?_
  refine tk_Vv (As := []) (rest := []) (ci := 6) ⟨hx, hb, hml, hown, hts⟩ hK hG hZ hS (k_X6_readPlain_1 l D cy ld t a0 ht_a0) hg_0 ⟨callB_of 0 hts (wl_in mw_648) rfl rfl rfl (htl _ mw_36) (htl _ mw_645) hd_yX6_readPlain ⟨(Nat.le_of_ble_eq_true rfl), (Nat.le_of_ble_eq_true rfl)⟩, htl _ mw_646, htl _ mw_647⟩ ht_a0 (by decide) tk_no rfl (tk_w.pick [0, 1, 2] rfl) rfl hl.1 rfl (Nat.le_of_ble_eq_true rfl) dX6_readBoth_1 ⟨(Nat.le_of_ble_eq_true rfl), (Nat.le_of_ble_eq_true rfl)⟩ (fun H locs hpo hG hS hq9 => ?_)
  have hf2 := hpo
  refine lv_iconst (v := 0) hx hb dX6_readBoth_4 (by decide) ?_
  refine lv_istore_n (lv' := [(1, .int 0), (0, .ref a0)]) hx hb dX6_readBoth_5 rfl hl (by decide) rfl (fun ls hl => ?_)
  have hl170 : ∀ (N_l170 : Nat) (v3 : Int32) (H : Heap) (locs : List Loc), 0 ≤ v3.toInt → v3.toInt ≤ 400 → (-1) * v3.toInt + 400 < (N_l170 : Int) → tk_G D cy ld t [] H → va_S (tk_w t [(7, 0, 0), (20, 0, 0), (8, 12, 12)]) s.heap H locs → tk_f D H a0 6 9 (.int 1) → ∀ ls : Array Slot, lv_has ls 3 [(1, .int v3), (0, .ref a0)] → W p l e ({ frames := 34, cells := 0, slots := 0, locals := 2310 }) s m args below meth c H locs 0 0 (MQ below (tv D cy ld t [] (fun H => tk_f D H a0 6 9 (.int 1)) (tk_w t [(7, 0, 0), (20, 0, 0), (8, 12, 12)])) args s 0 0 (tk_w t [(7, 0, 0), (20, 0, 0), (8, 12, 12)])) (F0 m 6 ls []) := by
    intro N_l170
    induction N_l170 with
    | zero => intro v3 H locs hq0_l170 hq1_l170 hm_l170 hG hS hf2 ls hl; exfalso; omega
    | succ N_l170 ih_l170 =>
      intro v3 H locs hq0_l170 hq1_l170 hm_l170 hG hS hf2 ls hl
      refine lv_iload_n hx hb dX6_readBoth_6 rfl (lv_at hl 0 rfl) ?_
      refine lv_sipush (v := 400) hx hb dX6_readBoth_7 (by decide) ?_
      refine lv_icmp_ge (tgt := 58) hx hb dX6_readBoth_10 (by decide) (fun c9 => ?_) (fun c9 => ?_)
      · have hc171 : 400 ≤ v3.toInt := (fi_le (show (400 : Int32).toInt = 400 by decide) rfl).mp c9
        exact tk_vret hx hb hr hlocks (show tk_f D H a0 6 9 (.int 1) from hf2) hG hS dX6_readBoth_58
      · have hc171 : ¬ (400 ≤ v3.toInt) := fun h9 => c9 ((fi_le (show (400 : Int32).toInt = 400 by decide) rfl).mpr h9)
        refine lv_aload_n hx hb dX6_readBoth_13 rfl (lv_at hl 1 rfl) ?_
        refine va_ldcS hx hb hown hK.2.2.2.2.2.2.2.2.2.2.2.2.2.1 dX6_readBoth_14 ?_
        refine tk_Vi (As := [.ref (ld 9)]) (rest := []) (ci := 6) ⟨hx, hb, hml, hown, hts⟩ hK hG hZ hS (k_X6_isWord_9 l D cy ld t a0 ht_a0) trivial ⟨callB_of 1 hts (wl_in mw_626) rfl rfl rfl (htl _ mw_36) (htl _ mw_623) hd_yX6_isWord ⟨(Nat.le_of_ble_eq_true rfl), (Nat.le_of_ble_eq_true rfl)⟩, htl _ mw_624, htl _ mw_625⟩ ht_a0 (by decide) tk_no rfl (tk_w.pick [] rfl) rfl hl.1 rfl (Nat.le_of_ble_eq_true rfl) dX6_readBoth_16 ⟨(Nat.le_of_ble_eq_true rfl), (Nat.le_of_ble_eq_true rfl)⟩ (fun v172 H locs hpo hG hS hq9 => ?_)
        have hf2 := hf2.call hq9 tk_w.nil
        obtain ⟨hpo174, hpo175, hpo176, hpo177⟩ := hpo
        refine lv_if_eq (tgt := 58) hx hb dX6_readBoth_19 (by decide) (fun c9 => ?_) (fun c9 => ?_)
        · have hc178 : v172.toInt = 0 := (fi_eq rfl (show (0 : Int32).toInt = 0 by decide)).mp c9
          exact tk_vret hx hb hr hlocks (show tk_f D H a0 6 9 (.int 1) from hf2) hG hS dX6_readBoth_58
        · have hc178 : ¬ (v172.toInt = 0) := fun h9 => c9 ((fi_eq rfl (show (0 : Int32).toInt = 0 by decide)).mpr h9)
          refine lv_aload_n hx hb dX6_readBoth_22 rfl (lv_at hl 1 rfl) ?_
          refine tk_get (ci := 6) (C := RX6) (T := TX6) (N := 11) (sp := (6, 8, 512, 12)) hx hb htl inX6 hown hK hG ht_a0 (by decide) tk_no rfl 0 (by decide) (htl _ mw_132) (fun _ h9 => h9) rfl dX6_readBoth_23 (fun v9 hf179 hV9 => ?_)
          obtain ⟨b180, rfl, ht_b180⟩ := hV9
          have ht_b180 : t b180 = (8, 512, 12) := ht_b180
          refine tk_get (ci := 7) (C := RX7) (T := TX7) (N := 10) (sp := (4, 0, 0, 0)) hx hb htl inX7 hown hK hG ht_b180 (by decide) tk_no rfl 6 (by decide) (htl _ mw_513) (fun _ h9 => h9) rfl dX6_readBoth_26 (fun v9 hf181 hV9 => ?_)
          obtain ⟨v182, rfl, (ha_v182 : 0 ≤ v182.toInt), (hb_v182 : v182.toInt ≤ 512)⟩ := hV9
          refine lv_istore_n (lv' := [(2, .int v182), (1, .int v3), (0, .ref a0)]) hx hb dX6_readBoth_29 rfl hl (by decide) rfl (fun ls hl => ?_)
          refine lv_aload_n hx hb dX6_readBoth_30 rfl (lv_at hl 2 rfl) ?_
          refine tk_get (ci := 6) (C := RX6) (T := TX6) (N := 11) (sp := (6, 8, 512, 12)) hx hb htl inX6 hown hK hG ht_a0 (by decide) tk_no rfl 0 (by decide) (htl _ mw_132) (fun _ h9 => h9) rfl dX6_readBoth_31 (fun v9 hf183 hV9 => ?_)
          obtain ⟨b184, rfl, ht_b184⟩ := hV9
          have ht_b184 : t b184 = (8, 512, 12) := ht_b184
          refine lv_iconst (v := 4) hx hb dX6_readBoth_34 (by decide) ?_
          refine lv_iconst (v := 0) hx hb dX6_readBoth_35 (by decide) ?_
          have hk_4 : (4 : Int32).toInt = 4 := by decide
          have hk_0 : (0 : Int32).toInt = 0 := by decide
          refine tk_Vv (As := [.int 4, .int 0]) (rest := []) (ci := 7) ⟨hx, hb, hml, hown, hts⟩ hK hG hZ hS (k_X7_put l D cy ld t b184 4 0 ht_b184) trivial ⟨callB_of 2 hts (wl_in mw_594) rfl rfl rfl (htl _ mw_131) (htl _ mw_591) hd_yX7_put ⟨(Nat.le_of_ble_eq_true rfl), (Nat.le_of_ble_eq_true rfl)⟩, htl _ mw_592, htl _ mw_593⟩ ht_b184 (by decide) tk_no rfl (tk_w.pick [1, 2] rfl) rfl hl.1 rfl (Nat.le_of_ble_eq_true rfl) dX6_readBoth_36 ⟨(Nat.le_of_ble_eq_true rfl), (Nat.le_of_ble_eq_true rfl)⟩ (fun H locs hpo hG hS hq9 => ?_)
          have hf2 := hf2.call hq9 (tk_w.no ht_a0 (by decide))
          refine lv_aload_n hx hb dX6_readBoth_39 rfl (lv_at hl 2 rfl) ?_
          have hk_1 : (1 : Int32).toInt = 1 := by decide
          refine tk_Vv (As := []) (rest := []) (ci := 6) ⟨hx, hb, hml, hown, hts⟩ hK hG hZ hS (k_X6_step l D cy ld t a0 1 ht_a0 (by omega) (by omega)) hf2 ⟨callB_of 0 hts (wl_in mw_494) rfl rfl rfl (htl _ mw_36) (htl _ mw_491) hd_yX6_step ⟨(Nat.le_of_ble_eq_true rfl), (Nat.le_of_ble_eq_true rfl)⟩, htl _ mw_492, htl _ mw_493⟩ ht_a0 (by decide) tk_no rfl (tk_w.pick [0] rfl) rfl hl.1 rfl (Nat.le_of_ble_eq_true rfl) dX6_readBoth_40 ⟨(Nat.le_of_ble_eq_true rfl), (Nat.le_of_ble_eq_true rfl)⟩ (fun H locs hpo hG hS hq9 => ?_)
          have hf187 := hpo
          refine lv_aload_n hx hb dX6_readBoth_43 rfl (lv_at hl 2 rfl) ?_
          refine tk_Vv (As := []) (rest := []) (ci := 6) ⟨hx, hb, hml, hown, hts⟩ hK hG hZ hS (k_X6_readPlain_1 l D cy ld t a0 ht_a0) hf187 ⟨callB_of 0 hts (wl_in mw_648) rfl rfl rfl (htl _ mw_36) (htl _ mw_645) hd_yX6_readPlain ⟨(Nat.le_of_ble_eq_true rfl), (Nat.le_of_ble_eq_true rfl)⟩, htl _ mw_646, htl _ mw_647⟩ ht_a0 (by decide) tk_no rfl (tk_w.pick [0, 1, 2] rfl) rfl hl.1 rfl (Nat.le_of_ble_eq_true rfl) dX6_readBoth_44 ⟨(Nat.le_of_ble_eq_true rfl), (Nat.le_of_ble_eq_true rfl)⟩ (fun H locs hpo hG hS hq9 => ?_)
          have hf189 := hpo
          refine lv_aload_n hx hb dX6_readBoth_47 rfl (lv_at hl 2 rfl) ?_
          refine lv_iload_n hx hb dX6_readBoth_48 rfl (lv_at hl 0 rfl) ?_
          refine tk_Vv (As := [.int v182]) (rest := []) (ci := 6) ⟨hx, hb, hml, hown, hts⟩ hK hG hZ hS (k_X6_landHere l D cy ld t a0 v182 ht_a0 (by omega) (by omega)) trivial ⟨callB_of 1 hts (wl_in mw_642) rfl rfl rfl (htl _ mw_36) (htl _ mw_639) hd_yX6_landHere ⟨(Nat.le_of_ble_eq_true rfl), (Nat.le_of_ble_eq_true rfl)⟩, htl _ mw_640, htl _ mw_641⟩ ht_a0 (by decide) tk_no rfl (tk_w.pick [1] rfl) rfl hl.1 rfl (Nat.le_of_ble_eq_true rfl) dX6_readBoth_49 ⟨(Nat.le_of_ble_eq_true rfl), (Nat.le_of_ble_eq_true rfl)⟩ (fun H locs hpo hG hS hq9 => ?_)
          have hf189 := hf189.call hq9 (tk_w.no ht_a0 (by decide))
          obtain ⟨v191, h_v191, e_v191⟩ := tk_inc v3 1 (by decide) (by omega) (by omega)
          refine lv_iinc (v := v191) (lv' := [(1, .int v191), (2, .int v182), (0, .ref a0)]) hx hb dX6_readBoth_52 hl (k := 1) rfl e_v191 (by decide) rfl (fun ls hl => ?_)
          refine lv_goto (tgt := 6) hx hb dX6_readBoth_55 (by decide) ?_
          exact ih_l170 v191 _ _ (by omega) (by omega) (by omega) hG hS hf189 _ (lv_sub hl [0, 2] rfl)
  have hk_0 : (0 : Int32).toInt = 0 := by decide
  exact hl170 401 0 _ _ (by omega) (by omega) (by omega) hG hS hf2 _ (lv_sub hl [0, 1] rfl)
set_option maxHeartbeats 4000000 in
set_option maxRecDepth 100000 in
theorem k_X6_readTest_1 (l : Launch) (D : va_G) (cy : Nat → ClassId) (ld : Nat → Nat) (t : tk_T) (a0 : Nat) (ht_a0 : t a0 = (7, 0, 0)) : Met l yX6_readTest (wl yX6_readTest cX6_readTest 3 none) ({ frames := 35, cells := 0, slots := 0, locals := 2380 }) (tp D cy ld t [] [.ref a0] (fun H => tk_f D H a0 6 9 (.int 1))) (tv D cy ld t [] (fun H => tk_f D H a0 6 9 (.int 1)) (tk_w t [(7, 0, 0), (20, 0, 0), (8, 12, 12)])) 0 0 (tk_w t [(7, 0, 0), (20, 0, 0), (8, 12, 12)]) := by
  refine tk_met (y := yX6_readTest) (cc := cX6_readTest) (maxL := 3) (ret := none) (av := [.ref a0]) _ _ (by decide) (Nat.le_of_ble_eq_true rfl) ?_
  intro p e s m args below meth c hx hb hr hml hts htl hown hlocks hK H locs hH hG hS hB hZ ls hl
  have hown : s.vm.findClass RX6 = some m.cls := hown
  have hl : lv_has ls 3 [(0, .ref a0)] := hl
  have hg_0 := hB
  refine lv_aload_n hx hb dX6_readTest_0 rfl (lv_at hl 0 rfl) ?_
  refine tk_Vv (As := []) (rest := []) (ci := 6) ⟨hx, hb, hml, hown, hts⟩ hK hG hZ hS (k_X6_readBoth_1 l D cy ld t a0 ht_a0) hg_0 ⟨callB_of 0 hts (wl_in mw_644) rfl rfl rfl (htl _ mw_36) (htl _ mw_636) hd_yX6_readBoth ⟨(Nat.le_of_ble_eq_true rfl), (Nat.le_of_ble_eq_true rfl)⟩, htl _ mw_637, htl _ mw_638⟩ ht_a0 (by decide) tk_no rfl (tk_w.pick [0, 1, 2] rfl) rfl hl.1 rfl (Nat.le_of_ble_eq_true rfl) dX6_readTest_1 ⟨(Nat.le_of_ble_eq_true rfl), (Nat.le_of_ble_eq_true rfl)⟩ (fun H locs hpo hG hS hq9 => ?_)
  have hf2 := hpo
  refine lv_iconst (v := 0) hx hb dX6_readTest_4 (by decide) ?_
  refine lv_istore_n (lv' := [(1, .int 0), (0, .ref a0)]) hx hb dX6_readTest_5 rfl hl (by decide) rfl (fun ls hl => ?_)
  have hl170 : ∀ (N_l170 : Nat) (v3 : Int32) (H : Heap) (locs : List Loc), 0 ≤ v3.toInt → v3.toInt ≤ 400 → (-1) * v3.toInt + 400 < (N_l170 : Int) → tk_G D cy ld t [] H → va_S (tk_w t [(7, 0, 0), (20, 0, 0), (8, 12, 12)]) s.heap H locs → tk_f D H a0 6 9 (.int 1) → ∀ ls : Array Slot, lv_has ls 3 [(1, .int v3), (0, .ref a0)] → W p l e ({ frames := 35, cells := 0, slots := 0, locals := 2380 }) s m args below meth c H locs 0 0 (MQ below (tv D cy ld t [] (fun H => tk_f D H a0 6 9 (.int 1)) (tk_w t [(7, 0, 0), (20, 0, 0), (8, 12, 12)])) args s 0 0 (tk_w t [(7, 0, 0), (20, 0, 0), (8, 12, 12)])) (F0 m 6 ls []) := by
    intro N_l170
    induction N_l170 with
    | zero => intro v3 H locs hq0_l170 hq1_l170 hm_l170 hG hS hf2 ls hl; exfalso; omega
    | succ N_l170 ih_l170 =>
      intro v3 H locs hq0_l170 hq1_l170 hm_l170 hG hS hf2 ls hl
      refine lv_iload_n hx hb dX6_readTest_6 rfl (lv_at hl 0 rfl) ?_
      refine lv_sipush (v := 400) hx hb dX6_readTest_7 (by decide) ?_
      refine lv_icmp_ge (tgt := 58) hx hb dX6_readTest_10 (by decide) (fun c9 => ?_) (fun c9 => ?_)
      · have hc171 : 400 ≤ v3.toInt := (fi_le (show (400 : Int32).toInt = 400 by decide) rfl).mp c9
        exact tk_vret hx hb hr hlocks (show tk_f D H a0 6 9 (.int 1) from hf2) hG hS dX6_readTest_58
      · have hc171 : ¬ (400 ≤ v3.toInt) := fun h9 => c9 ((fi_le (show (400 : Int32).toInt = 400 by decide) rfl).mpr h9)
        refine lv_aload_n hx hb dX6_readTest_13 rfl (lv_at hl 1 rfl) ?_
        refine va_ldcS hx hb hown hK.2.2.2.2.2.2.2.2.2.2.2.2.2.2 dX6_readTest_14 ?_
        refine tk_Vi (As := [.ref (ld 10)]) (rest := []) (ci := 6) ⟨hx, hb, hml, hown, hts⟩ hK hG hZ hS (k_X6_isWord_10 l D cy ld t a0 ht_a0) trivial ⟨callB_of 1 hts (wl_in mw_626) rfl rfl rfl (htl _ mw_36) (htl _ mw_623) hd_yX6_isWord ⟨(Nat.le_of_ble_eq_true rfl), (Nat.le_of_ble_eq_true rfl)⟩, htl _ mw_624, htl _ mw_625⟩ ht_a0 (by decide) tk_no rfl (tk_w.pick [] rfl) rfl hl.1 rfl (Nat.le_of_ble_eq_true rfl) dX6_readTest_16 ⟨(Nat.le_of_ble_eq_true rfl), (Nat.le_of_ble_eq_true rfl)⟩ (fun v172 H locs hpo hG hS hq9 => ?_)
        have hf2 := hf2.call hq9 tk_w.nil
        obtain ⟨hpo174, hpo175, hpo176, hpo177⟩ := hpo
        refine lv_if_eq (tgt := 58) hx hb dX6_readTest_19 (by decide) (fun c9 => ?_) (fun c9 => ?_)
        · have hc178 : v172.toInt = 0 := (fi_eq rfl (show (0 : Int32).toInt = 0 by decide)).mp c9
          exact tk_vret hx hb hr hlocks (show tk_f D H a0 6 9 (.int 1) from hf2) hG hS dX6_readTest_58
        · have hc178 : ¬ (v172.toInt = 0) := fun h9 => c9 ((fi_eq rfl (show (0 : Int32).toInt = 0 by decide)).mpr h9)
          refine lv_aload_n hx hb dX6_readTest_22 rfl (lv_at hl 1 rfl) ?_
          refine tk_get (ci := 6) (C := RX6) (T := TX6) (N := 11) (sp := (6, 8, 512, 12)) hx hb htl inX6 hown hK hG ht_a0 (by decide) tk_no rfl 0 (by decide) (htl _ mw_132) (fun _ h9 => h9) rfl dX6_readTest_23 (fun v9 hf179 hV9 => ?_)
          obtain ⟨b180, rfl, ht_b180⟩ := hV9
          have ht_b180 : t b180 = (8, 512, 12) := ht_b180
          refine tk_get (ci := 7) (C := RX7) (T := TX7) (N := 10) (sp := (4, 0, 0, 0)) hx hb htl inX7 hown hK hG ht_b180 (by decide) tk_no rfl 6 (by decide) (htl _ mw_513) (fun _ h9 => h9) rfl dX6_readTest_26 (fun v9 hf181 hV9 => ?_)
          obtain ⟨v182, rfl, (ha_v182 : 0 ≤ v182.toInt), (hb_v182 : v182.toInt ≤ 512)⟩ := hV9
          refine lv_istore_n (lv' := [(2, .int v182), (1, .int v3), (0, .ref a0)]) hx hb dX6_readTest_29 rfl hl (by decide) rfl (fun ls hl => ?_)
          refine lv_aload_n hx hb dX6_readTest_30 rfl (lv_at hl 2 rfl) ?_
          refine tk_get (ci := 6) (C := RX6) (T := TX6) (N := 11) (sp := (6, 8, 512, 12)) hx hb htl inX6 hown hK hG ht_a0 (by decide) tk_no rfl 0 (by decide) (htl _ mw_132) (fun _ h9 => h9) rfl dX6_readTest_31 (fun v9 hf183 hV9 => ?_)
          obtain ⟨b184, rfl, ht_b184⟩ := hV9
          have ht_b184 : t b184 = (8, 512, 12) := ht_b184
          refine lv_iconst (v := 5) hx hb dX6_readTest_34 (by decide) ?_
          refine lv_iconst (v := 0) hx hb dX6_readTest_35 (by decide) ?_
          have hk_5 : (5 : Int32).toInt = 5 := by decide
          have hk_0 : (0 : Int32).toInt = 0 := by decide
          refine tk_Vv (As := [.int 5, .int 0]) (rest := []) (ci := 7) ⟨hx, hb, hml, hown, hts⟩ hK hG hZ hS (k_X7_put l D cy ld t b184 5 0 ht_b184) trivial ⟨callB_of 2 hts (wl_in mw_594) rfl rfl rfl (htl _ mw_131) (htl _ mw_591) hd_yX7_put ⟨(Nat.le_of_ble_eq_true rfl), (Nat.le_of_ble_eq_true rfl)⟩, htl _ mw_592, htl _ mw_593⟩ ht_b184 (by decide) tk_no rfl (tk_w.pick [1, 2] rfl) rfl hl.1 rfl (Nat.le_of_ble_eq_true rfl) dX6_readTest_36 ⟨(Nat.le_of_ble_eq_true rfl), (Nat.le_of_ble_eq_true rfl)⟩ (fun H locs hpo hG hS hq9 => ?_)
          have hf2 := hf2.call hq9 (tk_w.no ht_a0 (by decide))
          refine lv_aload_n hx hb dX6_readTest_39 rfl (lv_at hl 2 rfl) ?_
          have hk_1 : (1 : Int32).toInt = 1 := by decide
          refine tk_Vv (As := []) (rest := []) (ci := 6) ⟨hx, hb, hml, hown, hts⟩ hK hG hZ hS (k_X6_step l D cy ld t a0 1 ht_a0 (by omega) (by omega)) hf2 ⟨callB_of 0 hts (wl_in mw_494) rfl rfl rfl (htl _ mw_36) (htl _ mw_491) hd_yX6_step ⟨(Nat.le_of_ble_eq_true rfl), (Nat.le_of_ble_eq_true rfl)⟩, htl _ mw_492, htl _ mw_493⟩ ht_a0 (by decide) tk_no rfl (tk_w.pick [0] rfl) rfl hl.1 rfl (Nat.le_of_ble_eq_true rfl) dX6_readTest_40 ⟨(Nat.le_of_ble_eq_true rfl), (Nat.le_of_ble_eq_true rfl)⟩ (fun H locs hpo hG hS hq9 => ?_)
          have hf187 := hpo
          refine lv_aload_n hx hb dX6_readTest_43 rfl (lv_at hl 2 rfl) ?_
          refine tk_Vv (As := []) (rest := []) (ci := 6) ⟨hx, hb, hml, hown, hts⟩ hK hG hZ hS (k_X6_readBoth_1 l D cy ld t a0 ht_a0) hf187 ⟨callB_of 0 hts (wl_in mw_644) rfl rfl rfl (htl _ mw_36) (htl _ mw_636) hd_yX6_readBoth ⟨(Nat.le_of_ble_eq_true rfl), (Nat.le_of_ble_eq_true rfl)⟩, htl _ mw_637, htl _ mw_638⟩ ht_a0 (by decide) tk_no rfl (tk_w.pick [0, 1, 2] rfl) rfl hl.1 rfl (Nat.le_of_ble_eq_true rfl) dX6_readTest_44 ⟨(Nat.le_of_ble_eq_true rfl), (Nat.le_of_ble_eq_true rfl)⟩ (fun H locs hpo hG hS hq9 => ?_)
          have hf189 := hpo
          refine lv_aload_n hx hb dX6_readTest_47 rfl (lv_at hl 2 rfl) ?_
          refine lv_iload_n hx hb dX6_readTest_48 rfl (lv_at hl 0 rfl) ?_
          refine tk_Vv (As := [.int v182]) (rest := []) (ci := 6) ⟨hx, hb, hml, hown, hts⟩ hK hG hZ hS (k_X6_landHere l D cy ld t a0 v182 ht_a0 (by omega) (by omega)) trivial ⟨callB_of 1 hts (wl_in mw_642) rfl rfl rfl (htl _ mw_36) (htl _ mw_639) hd_yX6_landHere ⟨(Nat.le_of_ble_eq_true rfl), (Nat.le_of_ble_eq_true rfl)⟩, htl _ mw_640, htl _ mw_641⟩ ht_a0 (by decide) tk_no rfl (tk_w.pick [1] rfl) rfl hl.1 rfl (Nat.le_of_ble_eq_true rfl) dX6_readTest_49 ⟨(Nat.le_of_ble_eq_true rfl), (Nat.le_of_ble_eq_true rfl)⟩ (fun H locs hpo hG hS hq9 => ?_)
          have hf189 := hf189.call hq9 (tk_w.no ht_a0 (by decide))
          obtain ⟨v191, h_v191, e_v191⟩ := tk_inc v3 1 (by decide) (by omega) (by omega)
          refine lv_iinc (v := v191) (lv' := [(1, .int v191), (2, .int v182), (0, .ref a0)]) hx hb dX6_readTest_52 hl (k := 1) rfl e_v191 (by decide) rfl (fun ls hl => ?_)
          refine lv_goto (tgt := 6) hx hb dX6_readTest_55 (by decide) ?_
          exact ih_l170 v191 _ _ (by omega) (by omega) (by omega) hG hS hf189 _ (lv_sub hl [0, 2] rfl)
  have hk_0 : (0 : Int32).toInt = 0 := by decide
  exact hl170 401 0 _ _ (by omega) (by omega) (by omega) hG hS hf2 _ (lv_sub hl [0, 1] rfl)
set_option maxHeartbeats 4000000 in
set_option maxRecDepth 100000 in
theorem k_X6_readPlain_0 (l : Launch) (D : va_G) (cy : Nat → ClassId) (ld : Nat → Nat) (t : tk_T) (a0 : Nat) (ht_a0 : t a0 = (7, 0, 0)) : Met l yX6_readPlain (wl yX6_readPlain cX6_readPlain 3 none) ({ frames := 36, cells := 0, slots := 0, locals := 2450 }) (tp D cy ld t [] [.ref a0] (fun H => tk_f D H a0 6 9 (.int 0))) (tv D cy ld t [] (fun H => tk_f D H a0 6 9 (.int 0)) (tk_w t [(7, 0, 0), (20, 0, 0), (8, 12, 12)])) 0 0 (tk_w t [(7, 0, 0), (20, 0, 0), (8, 12, 12)]) := by
  refine tk_met (y := yX6_readPlain) (cc := cX6_readPlain) (maxL := 3) (ret := none) (av := [.ref a0]) _ _ (by decide) (Nat.le_of_ble_eq_true rfl) ?_
  intro p e s m args below meth c hx hb hr hml hts htl hown hlocks hK H locs hH hG hS hB hZ ls hl
  have hown : s.vm.findClass RX6 = some m.cls := hown
  have hl : lv_has ls 3 [(0, .ref a0)] := hl
  have hg_0 := hB
  refine lv_iconst (v := 0) hx hb dX6_readPlain_0 (by decide) ?_
  refine lv_istore_n (lv' := [(1, .int 0), (0, .ref a0)]) hx hb dX6_readPlain_1 rfl hl (by decide) rfl (fun ls hl => ?_)
  refine lv_iconst (v := 0) hx hb dX6_readPlain_2 (by decide) ?_
  refine lv_istore_n (lv' := [(2, .int 0), (1, .int 0), (0, .ref a0)]) hx hb dX6_readPlain_3 rfl hl (by decide) rfl (fun ls hl => ?_)
  have hl975 : ∀ (N_l975 : Nat) (v1 : Int32) (v2 : Int32) (H : Heap) (locs : List Loc), 0 ≤ v2.toInt → v2.toInt ≤ 1 → 0 ≤ v1.toInt + (-1) * v2.toInt → v1.toInt ≤ 400 → (-1) * v1.toInt + 400 < (N_l975 : Int) → tk_G D cy ld t [] H → va_S (tk_w t [(7, 0, 0), (20, 0, 0), (8, 12, 12)]) s.heap H locs → tk_f D H a0 6 9 (.int 0) → ∀ ls : Array Slot, lv_has ls 3 [(2, .int v1), (1, .int v2), (0, .ref a0)] → W p l e ({ frames := 36, cells := 0, slots := 0, locals := 2450 }) s m args below meth c H locs 0 0 (MQ below (tv D cy ld t [] (fun H => tk_f D H a0 6 9 (.int 0)) (tk_w t [(7, 0, 0), (20, 0, 0), (8, 12, 12)])) args s 0 0 (tk_w t [(7, 0, 0), (20, 0, 0), (8, 12, 12)])) (F0 m 4 ls []) := by
    intro N_l975
    induction N_l975 with
    | zero => intro v1 v2 H locs hq0_l975 hq1_l975 hq2_l975 hq3_l975 hm_l975 hG hS hg_0 ls hl; exfalso; omega
    | succ N_l975 ih_l975 =>
      intro v1 v2 H locs hq0_l975 hq1_l975 hq2_l975 hq3_l975 hm_l975 hG hS hg_0 ls hl
      refine lv_iload_n hx hb dX6_readPlain_4 rfl (lv_at hl 0 rfl) ?_
      refine lv_sipush (v := 400) hx hb dX6_readPlain_5 (by decide) ?_
      have hj993 : ∀ (H : Heap) (locs : List Loc), tk_G D cy ld t [] H → va_S (tk_w t [(7, 0, 0), (20, 0, 0), (8, 12, 12)]) s.heap H locs → tk_f D H a0 6 9 (.int 0) → ∀ ls : Array Slot, lv_has ls 3 [(1, .int v2), (0, .ref a0)] → W p l e ({ frames := 36, cells := 0, slots := 0, locals := 2450 }) s m args below meth c H locs 0 0 (MQ below (tv D cy ld t [] (fun H => tk_f D H a0 6 9 (.int 0)) (tk_w t [(7, 0, 0), (20, 0, 0), (8, 12, 12)])) args s 0 0 (tk_w t [(7, 0, 0), (20, 0, 0), (8, 12, 12)])) (F0 m 40 ls []) := by
        intro H locs hG hS hg_0 ls hl
        refine lv_aload_n hx hb dX6_readPlain_40 rfl (lv_at hl 1 rfl) ?_
        refine lv_bipush (v := 40) hx hb dX6_readPlain_41 (by decide) ?_
        have hk_40 : (40 : Int32).toInt = 40 := by decide
        refine tk_Vi (As := [.int 40]) (rest := []) (ci := 6) ⟨hx, hb, hml, hown, hts⟩ hK hG hZ hS (k_X6_isSign l D cy ld t a0 40 ht_a0) trivial ⟨callB_of 1 hts (wl_in mw_590) rfl rfl rfl (htl _ mw_36) (htl _ mw_587) hd_yX6_isSign ⟨(Nat.le_of_ble_eq_true rfl), (Nat.le_of_ble_eq_true rfl)⟩, htl _ mw_588, htl _ mw_589⟩ ht_a0 (by decide) tk_no rfl (tk_w.pick [] rfl) rfl hl.1 rfl (Nat.le_of_ble_eq_true rfl) dX6_readPlain_43 ⟨(Nat.le_of_ble_eq_true rfl), (Nat.le_of_ble_eq_true rfl)⟩ (fun v994 H locs hpo hG hS hq9 => ?_)
        have hg_0 := hg_0.call hq9 tk_w.nil
        obtain ⟨hpo996, hpo997, hpo998, hpo999⟩ := hpo
        refine lv_if_eq (tgt := 79) hx hb dX6_readPlain_46 (by decide) (fun c9 => ?_) (fun c9 => ?_)
        · have hc1000 : v994.toInt = 0 := (fi_eq rfl (show (0 : Int32).toInt = 0 by decide)).mp c9
          refine lv_aload_n hx hb dX6_readPlain_79 rfl (lv_at hl 1 rfl) ?_
          refine tk_Vv (As := []) (rest := []) (ci := 6) ⟨hx, hb, hml, hown, hts⟩ hK hG hZ hS (k_X6_readSum_0 l D cy ld t a0 ht_a0) hg_0 ⟨callB_of 0 hts (wl_in mw_583) rfl rfl rfl (htl _ mw_36) (htl _ mw_580) hd_yX6_readSum ⟨(Nat.le_of_ble_eq_true rfl), (Nat.le_of_ble_eq_true rfl)⟩, htl _ mw_581, htl _ mw_582⟩ ht_a0 (by decide) tk_no rfl (tk_w.pick [0, 1, 2] rfl) rfl hl.1 rfl (Nat.le_of_ble_eq_true rfl) dX6_readPlain_80 ⟨(Nat.le_of_ble_eq_true rfl), (Nat.le_of_ble_eq_true rfl)⟩ (fun H locs hpo hG hS hq9 => ?_)
          have hf1002 := hpo
          refine lv_aload_n hx hb dX6_readPlain_83 rfl (lv_at hl 1 rfl) ?_
          refine lv_bipush (v := 60) hx hb dX6_readPlain_84 (by decide) ?_
          have hk_60 : (60 : Int32).toInt = 60 := by decide
          refine tk_Vi (As := [.int 60]) (rest := []) (ci := 6) ⟨hx, hb, hml, hown, hts⟩ hK hG hZ hS (k_X6_isSign l D cy ld t a0 60 ht_a0) trivial ⟨callB_of 1 hts (wl_in mw_590) rfl rfl rfl (htl _ mw_36) (htl _ mw_587) hd_yX6_isSign ⟨(Nat.le_of_ble_eq_true rfl), (Nat.le_of_ble_eq_true rfl)⟩, htl _ mw_588, htl _ mw_589⟩ ht_a0 (by decide) tk_no rfl (tk_w.pick [] rfl) rfl hl.1 rfl (Nat.le_of_ble_eq_true rfl) dX6_readPlain_86 ⟨(Nat.le_of_ble_eq_true rfl), (Nat.le_of_ble_eq_true rfl)⟩ (fun v1003 H locs hpo hG hS hq9 => ?_)
          have hf1002 := hf1002.call hq9 tk_w.nil
          obtain ⟨hpo1005, hpo1006, hpo1007, hpo1008⟩ := hpo
          have hj1021 : ∀ (v1019 : Int32) (H : Heap) (locs : List Loc), 11 ≤ v1019.toInt → v1019.toInt ≤ 13 → tk_G D cy ld t [] H → va_S (tk_w t [(7, 0, 0), (20, 0, 0), (8, 12, 12)]) s.heap H locs → tk_f D H a0 6 9 (.int 0) → ∀ ls : Array Slot, lv_has ls 3 [(1, .int v2), (0, .ref a0)] → W p l e ({ frames := 36, cells := 0, slots := 0, locals := 2450 }) s m args below meth c H locs 0 0 (MQ below (tv D cy ld t [] (fun H => tk_f D H a0 6 9 (.int 0)) (tk_w t [(7, 0, 0), (20, 0, 0), (8, 12, 12)])) args s 0 0 (tk_w t [(7, 0, 0), (20, 0, 0), (8, 12, 12)])) (F0 m 113 ls [.int v1019]) := by
            intro v1019 H locs hq0_j1021 hq1_j1021 hG hS hf1002 ls hl
            refine lv_istore_n (lv' := [(2, .int v1019), (1, .int v2), (0, .ref a0)]) hx hb dX6_readPlain_113 rfl hl (by decide) rfl (fun ls hl => ?_)
            refine lv_iload_n hx hb dX6_readPlain_114 rfl (lv_at hl 0 rfl) ?_
            refine lv_bipush (v := 13) hx hb dX6_readPlain_115 (by decide) ?_
            refine lv_icmp_ne (tgt := 134) hx hb dX6_readPlain_117 (by decide) (fun c9 => ?_) (fun c9 => ?_)
            · have hc1022 : ¬ (v1019.toInt = 13) := fun h9 => c9 ((fi_eq rfl (show (13 : Int32).toInt = 13 by decide)).mpr h9)
              refine lv_aload_n hx hb dX6_readPlain_134 rfl (lv_at hl 2 rfl) ?_
              have hk_0 : (0 : Int32).toInt = 0 := by decide
              refine tk_Vv (As := []) (rest := []) (ci := 6) ⟨hx, hb, hml, hown, hts⟩ hK hG hZ hS (k_X6_step l D cy ld t a0 0 ht_a0 (by omega) (by omega)) hf1002 ⟨callB_of 0 hts (wl_in mw_494) rfl rfl rfl (htl _ mw_36) (htl _ mw_491) hd_yX6_step ⟨(Nat.le_of_ble_eq_true rfl), (Nat.le_of_ble_eq_true rfl)⟩, htl _ mw_492, htl _ mw_493⟩ ht_a0 (by decide) tk_no rfl (tk_w.pick [0] rfl) rfl hl.1 rfl (Nat.le_of_ble_eq_true rfl) dX6_readPlain_135 ⟨(Nat.le_of_ble_eq_true rfl), (Nat.le_of_ble_eq_true rfl)⟩ (fun H locs hpo hG hS hq9 => ?_)
              have hf1024 := hpo
              refine lv_aload_n hx hb dX6_readPlain_138 rfl (lv_at hl 2 rfl) ?_
              refine tk_Vv (As := []) (rest := []) (ci := 6) ⟨hx, hb, hml, hown, hts⟩ hK hG hZ hS (k_X6_readSum_0 l D cy ld t a0 ht_a0) hf1024 ⟨callB_of 0 hts (wl_in mw_583) rfl rfl rfl (htl _ mw_36) (htl _ mw_580) hd_yX6_readSum ⟨(Nat.le_of_ble_eq_true rfl), (Nat.le_of_ble_eq_true rfl)⟩, htl _ mw_581, htl _ mw_582⟩ ht_a0 (by decide) tk_no rfl (tk_w.pick [0, 1, 2] rfl) rfl hl.1 rfl (Nat.le_of_ble_eq_true rfl) dX6_readPlain_139 ⟨(Nat.le_of_ble_eq_true rfl), (Nat.le_of_ble_eq_true rfl)⟩ (fun H locs hpo hG hS hq9 => ?_)
              have hf1026 := hpo
              refine lv_aload_n hx hb dX6_readPlain_142 rfl (lv_at hl 2 rfl) ?_
              refine tk_get (ci := 6) (C := RX6) (T := TX6) (N := 11) (sp := (6, 8, 512, 12)) hx hb htl inX6 hown hK hG ht_a0 (by decide) tk_no rfl 0 (by decide) (htl _ mw_132) (fun _ h9 => h9) rfl dX6_readPlain_143 (fun v9 hf1027 hV9 => ?_)
              obtain ⟨b1028, rfl, ht_b1028⟩ := hV9
              have ht_b1028 : t b1028 = (8, 512, 12) := ht_b1028
              refine lv_iload_n hx hb dX6_readPlain_146 rfl (lv_at hl 0 rfl) ?_
              refine lv_iconst (v := 0) hx hb dX6_readPlain_147 (by decide) ?_
              have hk_0 : (0 : Int32).toInt = 0 := by decide
              refine tk_Vv (As := [.int v1019, .int 0]) (rest := []) (ci := 7) ⟨hx, hb, hml, hown, hts⟩ hK hG hZ hS (k_X7_put l D cy ld t b1028 v1019 0 ht_b1028) trivial ⟨callB_of 2 hts (wl_in mw_594) rfl rfl rfl (htl _ mw_131) (htl _ mw_591) hd_yX7_put ⟨(Nat.le_of_ble_eq_true rfl), (Nat.le_of_ble_eq_true rfl)⟩, htl _ mw_592, htl _ mw_593⟩ ht_b1028 (by decide) tk_no rfl (tk_w.pick [1, 2] rfl) rfl hl.1 rfl (Nat.le_of_ble_eq_true rfl) dX6_readPlain_148 ⟨(Nat.le_of_ble_eq_true rfl), (Nat.le_of_ble_eq_true rfl)⟩ (fun H locs hpo hG hS hq9 => ?_)
              have hf1026 := hf1026.call hq9 (tk_w.no ht_a0 (by decide))
              refine lv_iload_n hx hb dX6_readPlain_151 rfl (lv_at hl 1 rfl) ?_
              refine lv_if_eq (tgt := 164) hx hb dX6_readPlain_152 (by decide) (fun c9 => ?_) (fun c9 => ?_)
              · have hc1030 : v2.toInt = 0 := (fi_eq rfl (show (0 : Int32).toInt = 0 by decide)).mp c9
                exact tk_vret hx hb hr hlocks (show tk_f D H a0 6 9 (.int 0) from hf1026) hG hS dX6_readPlain_164
              · have hc1030 : ¬ (v2.toInt = 0) := fun h9 => c9 ((fi_eq rfl (show (0 : Int32).toInt = 0 by decide)).mpr h9)
                refine lv_aload_n hx hb dX6_readPlain_155 rfl (lv_at hl 2 rfl) ?_
                refine tk_get (ci := 6) (C := RX6) (T := TX6) (N := 11) (sp := (6, 8, 512, 12)) hx hb htl inX6 hown hK hG ht_a0 (by decide) tk_no rfl 0 (by decide) (htl _ mw_132) (fun _ h9 => h9) rfl dX6_readPlain_156 (fun v9 hf1031 hV9 => ?_)
                obtain ⟨b1032, rfl, ht_b1032⟩ := hV9
                have ht_b1032 : t b1032 = (8, 512, 12) := ht_b1032
                refine lv_iconst (v := 3) hx hb dX6_readPlain_159 (by decide) ?_
                refine lv_iconst (v := 0) hx hb dX6_readPlain_160 (by decide) ?_
                have hk_3 : (3 : Int32).toInt = 3 := by decide
                have hk_0 : (0 : Int32).toInt = 0 := by decide
                refine tk_Vv (As := [.int 3, .int 0]) (rest := []) (ci := 7) ⟨hx, hb, hml, hown, hts⟩ hK hG hZ hS (k_X7_put l D cy ld t b1032 3 0 ht_b1032) trivial ⟨callB_of 2 hts (wl_in mw_594) rfl rfl rfl (htl _ mw_131) (htl _ mw_591) hd_yX7_put ⟨(Nat.le_of_ble_eq_true rfl), (Nat.le_of_ble_eq_true rfl)⟩, htl _ mw_592, htl _ mw_593⟩ ht_b1032 (by decide) tk_no rfl (tk_w.pick [1, 2] rfl) rfl hl.1 rfl (Nat.le_of_ble_eq_true rfl) dX6_readPlain_161 ⟨(Nat.le_of_ble_eq_true rfl), (Nat.le_of_ble_eq_true rfl)⟩ (fun H locs hpo hG hS hq9 => ?_)
                have hf1026 := hf1026.call hq9 (tk_w.no ht_a0 (by decide))
                exact tk_vret hx hb hr hlocks (show tk_f D H a0 6 9 (.int 0) from hf1026) hG hS dX6_readPlain_164
            · have hc1022 : v1019.toInt = 13 := (fi_eq rfl (show (13 : Int32).toInt = 13 by decide)).mp c9
              refine lv_aload_n hx hb dX6_readPlain_120 rfl (lv_at hl 2 rfl) ?_
              refine lv_bipush (v := 61) hx hb dX6_readPlain_121 (by decide) ?_
              have hk_61 : (61 : Int32).toInt = 61 := by decide
              refine tk_Vi (As := [.int 61]) (rest := []) (ci := 6) ⟨hx, hb, hml, hown, hts⟩ hK hG hZ hS (k_X6_isSign l D cy ld t a0 61 ht_a0) trivial ⟨callB_of 1 hts (wl_in mw_590) rfl rfl rfl (htl _ mw_36) (htl _ mw_587) hd_yX6_isSign ⟨(Nat.le_of_ble_eq_true rfl), (Nat.le_of_ble_eq_true rfl)⟩, htl _ mw_588, htl _ mw_589⟩ ht_a0 (by decide) tk_no rfl (tk_w.pick [] rfl) rfl hl.1 rfl (Nat.le_of_ble_eq_true rfl) dX6_readPlain_123 ⟨(Nat.le_of_ble_eq_true rfl), (Nat.le_of_ble_eq_true rfl)⟩ (fun v1034 H locs hpo hG hS hq9 => ?_)
              have hf1002 := hf1002.call hq9 tk_w.nil
              obtain ⟨hpo1036, hpo1037, hpo1038, hpo1039⟩ := hpo
              refine lv_if_ne (tgt := 134) hx hb dX6_readPlain_126 (by decide) (fun c9 => ?_) (fun c9 => ?_)
              · have hc1040 : ¬ (v1034.toInt = 0) := fun h9 => c9 ((fi_eq rfl (show (0 : Int32).toInt = 0 by decide)).mpr h9)
                refine lv_aload_n hx hb dX6_readPlain_134 rfl (lv_at hl 2 rfl) ?_
                have hk_0 : (0 : Int32).toInt = 0 := by decide
                refine tk_Vv (As := []) (rest := []) (ci := 6) ⟨hx, hb, hml, hown, hts⟩ hK hG hZ hS (k_X6_step l D cy ld t a0 0 ht_a0 (by omega) (by omega)) hf1002 ⟨callB_of 0 hts (wl_in mw_494) rfl rfl rfl (htl _ mw_36) (htl _ mw_491) hd_yX6_step ⟨(Nat.le_of_ble_eq_true rfl), (Nat.le_of_ble_eq_true rfl)⟩, htl _ mw_492, htl _ mw_493⟩ ht_a0 (by decide) tk_no rfl (tk_w.pick [0] rfl) rfl hl.1 rfl (Nat.le_of_ble_eq_true rfl) dX6_readPlain_135 ⟨(Nat.le_of_ble_eq_true rfl), (Nat.le_of_ble_eq_true rfl)⟩ (fun H locs hpo hG hS hq9 => ?_)
                have hf1042 := hpo
                refine lv_aload_n hx hb dX6_readPlain_138 rfl (lv_at hl 2 rfl) ?_
                refine tk_Vv (As := []) (rest := []) (ci := 6) ⟨hx, hb, hml, hown, hts⟩ hK hG hZ hS (k_X6_readSum_0 l D cy ld t a0 ht_a0) hf1042 ⟨callB_of 0 hts (wl_in mw_583) rfl rfl rfl (htl _ mw_36) (htl _ mw_580) hd_yX6_readSum ⟨(Nat.le_of_ble_eq_true rfl), (Nat.le_of_ble_eq_true rfl)⟩, htl _ mw_581, htl _ mw_582⟩ ht_a0 (by decide) tk_no rfl (tk_w.pick [0, 1, 2] rfl) rfl hl.1 rfl (Nat.le_of_ble_eq_true rfl) dX6_readPlain_139 ⟨(Nat.le_of_ble_eq_true rfl), (Nat.le_of_ble_eq_true rfl)⟩ (fun H locs hpo hG hS hq9 => ?_)
                have hf1044 := hpo
                refine lv_aload_n hx hb dX6_readPlain_142 rfl (lv_at hl 2 rfl) ?_
                refine tk_get (ci := 6) (C := RX6) (T := TX6) (N := 11) (sp := (6, 8, 512, 12)) hx hb htl inX6 hown hK hG ht_a0 (by decide) tk_no rfl 0 (by decide) (htl _ mw_132) (fun _ h9 => h9) rfl dX6_readPlain_143 (fun v9 hf1045 hV9 => ?_)
                obtain ⟨b1046, rfl, ht_b1046⟩ := hV9
                have ht_b1046 : t b1046 = (8, 512, 12) := ht_b1046
                refine lv_iload_n hx hb dX6_readPlain_146 rfl (lv_at hl 0 rfl) ?_
                refine lv_iconst (v := 0) hx hb dX6_readPlain_147 (by decide) ?_
                have hk_0 : (0 : Int32).toInt = 0 := by decide
                refine tk_Vv (As := [.int v1019, .int 0]) (rest := []) (ci := 7) ⟨hx, hb, hml, hown, hts⟩ hK hG hZ hS (k_X7_put l D cy ld t b1046 v1019 0 ht_b1046) trivial ⟨callB_of 2 hts (wl_in mw_594) rfl rfl rfl (htl _ mw_131) (htl _ mw_591) hd_yX7_put ⟨(Nat.le_of_ble_eq_true rfl), (Nat.le_of_ble_eq_true rfl)⟩, htl _ mw_592, htl _ mw_593⟩ ht_b1046 (by decide) tk_no rfl (tk_w.pick [1, 2] rfl) rfl hl.1 rfl (Nat.le_of_ble_eq_true rfl) dX6_readPlain_148 ⟨(Nat.le_of_ble_eq_true rfl), (Nat.le_of_ble_eq_true rfl)⟩ (fun H locs hpo hG hS hq9 => ?_)
                have hf1044 := hf1044.call hq9 (tk_w.no ht_a0 (by decide))
                refine lv_iload_n hx hb dX6_readPlain_151 rfl (lv_at hl 1 rfl) ?_
                refine lv_if_eq (tgt := 164) hx hb dX6_readPlain_152 (by decide) (fun c9 => ?_) (fun c9 => ?_)
                · have hc1048 : v2.toInt = 0 := (fi_eq rfl (show (0 : Int32).toInt = 0 by decide)).mp c9
                  exact tk_vret hx hb hr hlocks (show tk_f D H a0 6 9 (.int 0) from hf1044) hG hS dX6_readPlain_164
                · have hc1048 : ¬ (v2.toInt = 0) := fun h9 => c9 ((fi_eq rfl (show (0 : Int32).toInt = 0 by decide)).mpr h9)
                  refine lv_aload_n hx hb dX6_readPlain_155 rfl (lv_at hl 2 rfl) ?_
                  refine tk_get (ci := 6) (C := RX6) (T := TX6) (N := 11) (sp := (6, 8, 512, 12)) hx hb htl inX6 hown hK hG ht_a0 (by decide) tk_no rfl 0 (by decide) (htl _ mw_132) (fun _ h9 => h9) rfl dX6_readPlain_156 (fun v9 hf1049 hV9 => ?_)
                  obtain ⟨b1050, rfl, ht_b1050⟩ := hV9
                  have ht_b1050 : t b1050 = (8, 512, 12) := ht_b1050
                  refine lv_iconst (v := 3) hx hb dX6_readPlain_159 (by decide) ?_
                  refine lv_iconst (v := 0) hx hb dX6_readPlain_160 (by decide) ?_
                  have hk_3 : (3 : Int32).toInt = 3 := by decide
                  have hk_0 : (0 : Int32).toInt = 0 := by decide
                  refine tk_Vv (As := [.int 3, .int 0]) (rest := []) (ci := 7) ⟨hx, hb, hml, hown, hts⟩ hK hG hZ hS (k_X7_put l D cy ld t b1050 3 0 ht_b1050) trivial ⟨callB_of 2 hts (wl_in mw_594) rfl rfl rfl (htl _ mw_131) (htl _ mw_591) hd_yX7_put ⟨(Nat.le_of_ble_eq_true rfl), (Nat.le_of_ble_eq_true rfl)⟩, htl _ mw_592, htl _ mw_593⟩ ht_b1050 (by decide) tk_no rfl (tk_w.pick [1, 2] rfl) rfl hl.1 rfl (Nat.le_of_ble_eq_true rfl) dX6_readPlain_161 ⟨(Nat.le_of_ble_eq_true rfl), (Nat.le_of_ble_eq_true rfl)⟩ (fun H locs hpo hG hS hq9 => ?_)
                  have hf1044 := hf1044.call hq9 (tk_w.no ht_a0 (by decide))
                  exact tk_vret hx hb hr hlocks (show tk_f D H a0 6 9 (.int 0) from hf1044) hG hS dX6_readPlain_164
              · have hc1040 : v1034.toInt = 0 := (fi_eq rfl (show (0 : Int32).toInt = 0 by decide)).mp c9
                refine lv_aload_n hx hb dX6_readPlain_129 rfl (lv_at hl 2 rfl) ?_
                have hk_0 : (0 : Int32).toInt = 0 := by decide
                refine tk_Vv (As := []) (rest := []) (ci := 6) ⟨hx, hb, hml, hown, hts⟩ hK hG hZ hS (k_X6_fail l D cy ld t a0 0 ht_a0 (by omega) (by omega)) hf1002 ⟨callB_of 0 hts (wl_in mw_507) rfl rfl rfl (htl _ mw_36) (htl _ mw_504) hd_yX6_fail ⟨(Nat.le_of_ble_eq_true rfl), (Nat.le_of_ble_eq_true rfl)⟩, htl _ mw_505, htl _ mw_506⟩ ht_a0 (by decide) tk_no rfl (tk_w.pick [0] rfl) rfl hl.1 rfl (Nat.le_of_ble_eq_true rfl) dX6_readPlain_130 ⟨(Nat.le_of_ble_eq_true rfl), (Nat.le_of_ble_eq_true rfl)⟩ (fun H locs hpo hG hS hq9 => ?_)
                have hf1053 := hpo
                exact tk_vret hx hb hr hlocks (show tk_f D H a0 6 9 (.int 0) from hf1053) hG hS dX6_readPlain_133
          refine lv_if_eq (tgt := 97) hx hb dX6_readPlain_89 (by decide) (fun c9 => ?_) (fun c9 => ?_)
          · have hc1009 : v1003.toInt = 0 := (fi_eq rfl (show (0 : Int32).toInt = 0 by decide)).mp c9
            refine lv_aload_n hx hb dX6_readPlain_97 rfl (lv_at hl 1 rfl) ?_
            refine lv_bipush (v := 62) hx hb dX6_readPlain_98 (by decide) ?_
            have hk_62 : (62 : Int32).toInt = 62 := by decide
            refine tk_Vi (As := [.int 62]) (rest := []) (ci := 6) ⟨hx, hb, hml, hown, hts⟩ hK hG hZ hS (k_X6_isSign l D cy ld t a0 62 ht_a0) trivial ⟨callB_of 1 hts (wl_in mw_590) rfl rfl rfl (htl _ mw_36) (htl _ mw_587) hd_yX6_isSign ⟨(Nat.le_of_ble_eq_true rfl), (Nat.le_of_ble_eq_true rfl)⟩, htl _ mw_588, htl _ mw_589⟩ ht_a0 (by decide) tk_no rfl (tk_w.pick [] rfl) rfl hl.1 rfl (Nat.le_of_ble_eq_true rfl) dX6_readPlain_100 ⟨(Nat.le_of_ble_eq_true rfl), (Nat.le_of_ble_eq_true rfl)⟩ (fun v1054 H locs hpo hG hS hq9 => ?_)
            have hf1002 := hf1002.call hq9 tk_w.nil
            obtain ⟨hpo1056, hpo1057, hpo1058, hpo1059⟩ := hpo
            refine lv_if_eq (tgt := 111) hx hb dX6_readPlain_103 (by decide) (fun c9 => ?_) (fun c9 => ?_)
            · have hc1060 : v1054.toInt = 0 := (fi_eq rfl (show (0 : Int32).toInt = 0 by decide)).mp c9
              refine lv_bipush (v := 13) hx hb dX6_readPlain_111 (by decide) ?_
              have hk_13 : (13 : Int32).toInt = 13 := by decide
              exact hj1021 13 _ _ (by omega) (by omega) hG hS hf1002 _ (lv_sub hl [0, 1] rfl)
            · have hc1060 : ¬ (v1054.toInt = 0) := fun h9 => c9 ((fi_eq rfl (show (0 : Int32).toInt = 0 by decide)).mpr h9)
              refine lv_bipush (v := 12) hx hb dX6_readPlain_106 (by decide) ?_
              refine lv_goto (tgt := 113) hx hb dX6_readPlain_108 (by decide) ?_
              have hk_12 : (12 : Int32).toInt = 12 := by decide
              exact hj1021 12 _ _ (by omega) (by omega) hG hS hf1002 _ (lv_sub hl [0, 1] rfl)
          · have hc1009 : ¬ (v1003.toInt = 0) := fun h9 => c9 ((fi_eq rfl (show (0 : Int32).toInt = 0 by decide)).mpr h9)
            refine lv_bipush (v := 11) hx hb dX6_readPlain_92 (by decide) ?_
            refine lv_goto (tgt := 113) hx hb dX6_readPlain_94 (by decide) ?_
            have hk_11 : (11 : Int32).toInt = 11 := by decide
            exact hj1021 11 _ _ (by omega) (by omega) hG hS hf1002 _ (lv_sub hl [0, 1] rfl)
        · have hc1000 : ¬ (v994.toInt = 0) := fun h9 => c9 ((fi_eq rfl (show (0 : Int32).toInt = 0 by decide)).mpr h9)
          refine lv_aload_n hx hb dX6_readPlain_49 rfl (lv_at hl 1 rfl) ?_
          refine tk_Vi (As := []) (rest := []) (ci := 6) ⟨hx, hb, hml, hown, hts⟩ hK hG hZ hS (k_X6_goDeeper_0 l D cy ld t a0 ht_a0) hg_0 ⟨callB_of 0 hts (wl_in mw_599) rfl rfl rfl (htl _ mw_36) (htl _ mw_596) hd_yX6_goDeeper ⟨(Nat.le_of_ble_eq_true rfl), (Nat.le_of_ble_eq_true rfl)⟩, htl _ mw_597, htl _ mw_598⟩ ht_a0 (by decide) tk_no rfl (tk_w.pick [0] rfl) rfl hl.1 rfl (Nat.le_of_ble_eq_true rfl) dX6_readPlain_50 ⟨(Nat.le_of_ble_eq_true rfl), (Nat.le_of_ble_eq_true rfl)⟩ (fun v1061 H locs hpo hG hS hq9 => ?_)
          obtain ⟨hpo1063, hpo1064, hpo1065, hf1066⟩ := hpo
          obtain rfl : v1061 = 1 := (fi_eq (show v1061.toInt = 1 by omega) (by decide)).mpr rfl
          refine lv_if_eq (tgt := 151) hx hb dX6_readPlain_53 (by decide) (fun c9 => absurd c9 (by decide)) (fun _ => ?_)
          refine lv_aload_n hx hb dX6_readPlain_56 rfl (lv_at hl 1 rfl) ?_
          refine tk_Vv (As := []) (rest := []) (ci := 6) ⟨hx, hb, hml, hown, hts⟩ hK hG hZ hS (k_X6_readTest_1 l D cy ld t a0 ht_a0) hf1066 ⟨callB_of 0 hts (wl_in mw_635) rfl rfl rfl (htl _ mw_36) (htl _ mw_632) hd_yX6_readTest ⟨(Nat.le_of_ble_eq_true rfl), (Nat.le_of_ble_eq_true rfl)⟩, htl _ mw_633, htl _ mw_634⟩ ht_a0 (by decide) tk_no rfl (tk_w.pick [0, 1, 2] rfl) rfl hl.1 rfl (Nat.le_of_ble_eq_true rfl) dX6_readPlain_57 ⟨(Nat.le_of_ble_eq_true rfl), (Nat.le_of_ble_eq_true rfl)⟩ (fun H locs hpo hG hS hq9 => ?_)
          have hf1068 := hpo
          refine lv_aload_n hx hb dX6_readPlain_60 rfl (lv_at hl 1 rfl) ?_
          refine lv_bipush (v := 41) hx hb dX6_readPlain_61 (by decide) ?_
          have hk_41 : (41 : Int32).toInt = 41 := by decide
          have hk_1 : (1 : Int32).toInt = 1 := by decide
          refine tk_Vv (As := [.int 41]) (rest := []) (ci := 6) ⟨hx, hb, hml, hown, hts⟩ hK hG hZ hS (k_X6_take l D cy ld t a0 41 1 ht_a0 (by omega) (by omega)) hf1068 ⟨callB_of 1 hts (wl_in mw_603) rfl rfl rfl (htl _ mw_36) (htl _ mw_600) hd_yX6_take ⟨(Nat.le_of_ble_eq_true rfl), (Nat.le_of_ble_eq_true rfl)⟩, htl _ mw_601, htl _ mw_602⟩ ht_a0 (by decide) tk_no rfl (tk_w.pick [0] rfl) rfl hl.1 rfl (Nat.le_of_ble_eq_true rfl) dX6_readPlain_63 ⟨(Nat.le_of_ble_eq_true rfl), (Nat.le_of_ble_eq_true rfl)⟩ (fun H locs hpo hG hS hq9 => ?_)
          have hf1070 := hpo
          refine lv_aload_n hx hb dX6_readPlain_66 rfl (lv_at hl 1 rfl) ?_
          refine lv_dup hx hb dX6_readPlain_67 rfl ?_
          refine tk_getk (ci := 6) (C := RX6) (T := TX6) (N := 11) (sp := (0, 0, 8, 0)) hx hb htl inX6 hown hK hG ht_a0 (by decide) tk_no rfl 9 (by decide) (htl _ mw_480) (fun _ h9 => h9) rfl hf1070 dX6_readPlain_68 ?_
          refine lv_iconst (v := 1) hx hb dX6_readPlain_71 (by decide) ?_
          refine lv_isub hx hb dX6_readPlain_72 ?_
          refine fx_ti (v := 0) (by decide) ?_
          refine tk_put (ci := 6) (v := .int 0) (ty := .int) (C := RX6) (T := TX6) (N := 11) (sp := (0, 0, 8, 0)) hx hb htl inX6 tyX6 tyX6_ok nmX6 hown hK hG hS ht_a0 (by decide) tk_no rfl 9 (by decide) (htl _ mw_480) (fun _ h9 => h9) rfl (tyX6_ok 9 (by decide)) rfl rfl rfl (tk_V0 (by decide) (by decide)) (fun _ h => tk_X7 h (by decide) (by decide)) (tk_w.of ht_a0 (by decide) (List.mem_of_getElem? (i := 0) rfl) (Nat.le_refl _) (Nat.le_refl _)) dX6_readPlain_73 (fun H locs hG hS hf1071 hq9 hj9 => ?_)
          refine lv_goto (tgt := 151) hx hb dX6_readPlain_76 (by decide) ?_
          refine lv_iload_n hx hb dX6_readPlain_151 rfl (lv_at hl 0 rfl) ?_
          refine lv_if_eq (tgt := 164) hx hb dX6_readPlain_152 (by decide) (fun c9 => ?_) (fun c9 => ?_)
          · have hc1073 : v2.toInt = 0 := (fi_eq rfl (show (0 : Int32).toInt = 0 by decide)).mp c9
            exact tk_vret hx hb hr hlocks (show tk_f D H a0 6 9 (.int 0) from hf1071) hG hS dX6_readPlain_164
          · have hc1073 : ¬ (v2.toInt = 0) := fun h9 => c9 ((fi_eq rfl (show (0 : Int32).toInt = 0 by decide)).mpr h9)
            refine lv_aload_n hx hb dX6_readPlain_155 rfl (lv_at hl 1 rfl) ?_
            refine tk_get (ci := 6) (C := RX6) (T := TX6) (N := 11) (sp := (6, 8, 512, 12)) hx hb htl inX6 hown hK hG ht_a0 (by decide) tk_no rfl 0 (by decide) (htl _ mw_132) (fun _ h9 => h9) rfl dX6_readPlain_156 (fun v9 hf1074 hV9 => ?_)
            obtain ⟨b1075, rfl, ht_b1075⟩ := hV9
            have ht_b1075 : t b1075 = (8, 512, 12) := ht_b1075
            refine lv_iconst (v := 3) hx hb dX6_readPlain_159 (by decide) ?_
            refine lv_iconst (v := 0) hx hb dX6_readPlain_160 (by decide) ?_
            have hk_3 : (3 : Int32).toInt = 3 := by decide
            have hk_0 : (0 : Int32).toInt = 0 := by decide
            refine tk_Vv (As := [.int 3, .int 0]) (rest := []) (ci := 7) ⟨hx, hb, hml, hown, hts⟩ hK hG hZ hS (k_X7_put l D cy ld t b1075 3 0 ht_b1075) trivial ⟨callB_of 2 hts (wl_in mw_594) rfl rfl rfl (htl _ mw_131) (htl _ mw_591) hd_yX7_put ⟨(Nat.le_of_ble_eq_true rfl), (Nat.le_of_ble_eq_true rfl)⟩, htl _ mw_592, htl _ mw_593⟩ ht_b1075 (by decide) tk_no rfl (tk_w.pick [1, 2] rfl) rfl hl.1 rfl (Nat.le_of_ble_eq_true rfl) dX6_readPlain_161 ⟨(Nat.le_of_ble_eq_true rfl), (Nat.le_of_ble_eq_true rfl)⟩ (fun H locs hpo hG hS hq9 => ?_)
            have hf1071 := hf1071.call hq9 (tk_w.no ht_a0 (by decide))
            exact tk_vret hx hb hr hlocks (show tk_f D H a0 6 9 (.int 0) from hf1071) hG hS dX6_readPlain_164
      refine lv_icmp_ge (tgt := 40) hx hb dX6_readPlain_8 (by decide) (fun c9 => ?_) (fun c9 => ?_)
      · have hc976 : 400 ≤ v1.toInt := (fi_le (show (400 : Int32).toInt = 400 by decide) rfl).mp c9
        exact hj993 _ _ hG hS hg_0 _ (lv_sub hl [1, 2] rfl)
      · have hc976 : ¬ (400 ≤ v1.toInt) := fun h9 => c9 ((fi_le (show (400 : Int32).toInt = 400 by decide) rfl).mpr h9)
        refine lv_aload_n hx hb dX6_readPlain_11 rfl (lv_at hl 2 rfl) ?_
        refine va_ldcS hx hb hown hK.2.2.2.2.2.2.2.2.2.2.2.2.1 dX6_readPlain_12 ?_
        refine tk_Vi (As := [.ref (ld 8)]) (rest := []) (ci := 6) ⟨hx, hb, hml, hown, hts⟩ hK hG hZ hS (k_X6_isWord_8 l D cy ld t a0 ht_a0) trivial ⟨callB_of 1 hts (wl_in mw_626) rfl rfl rfl (htl _ mw_36) (htl _ mw_623) hd_yX6_isWord ⟨(Nat.le_of_ble_eq_true rfl), (Nat.le_of_ble_eq_true rfl)⟩, htl _ mw_624, htl _ mw_625⟩ ht_a0 (by decide) tk_no rfl (tk_w.pick [] rfl) rfl hl.1 rfl (Nat.le_of_ble_eq_true rfl) dX6_readPlain_14 ⟨(Nat.le_of_ble_eq_true rfl), (Nat.le_of_ble_eq_true rfl)⟩ (fun v1077 H locs hpo hG hS hq9 => ?_)
        have hg_0 := hg_0.call hq9 tk_w.nil
        obtain ⟨hpo1079, hpo1080, hpo1081, hpo1082⟩ := hpo
        refine lv_if_eq (tgt := 40) hx hb dX6_readPlain_17 (by decide) (fun c9 => ?_) (fun c9 => ?_)
        · have hc1083 : v1077.toInt = 0 := (fi_eq rfl (show (0 : Int32).toInt = 0 by decide)).mp c9
          exact hj993 _ _ hG hS hg_0 _ (lv_sub hl [1, 2] rfl)
        · have hc1083 : ¬ (v1077.toInt = 0) := fun h9 => c9 ((fi_eq rfl (show (0 : Int32).toInt = 0 by decide)).mpr h9)
          refine lv_iload_n hx hb dX6_readPlain_20 rfl (lv_at hl 1 rfl) ?_
          have hj1087 : ∀ (v1086 : Int32), 0 ≤ v1086.toInt → v1086.toInt ≤ 1 → ∀ ls : Array Slot, lv_has ls 3 [(2, .int v1), (0, .ref a0)] → W p l e ({ frames := 36, cells := 0, slots := 0, locals := 2450 }) s m args below meth c H locs 0 0 (MQ below (tv D cy ld t [] (fun H => tk_f D H a0 6 9 (.int 0)) (tk_w t [(7, 0, 0), (20, 0, 0), (8, 12, 12)])) args s 0 0 (tk_w t [(7, 0, 0), (20, 0, 0), (8, 12, 12)])) (F0 m 29 ls [.int v1086]) := by
            intro v1086 hq0_j1087 hq1_j1087 ls hl
            refine lv_istore_n (lv' := [(1, .int v1086), (2, .int v1), (0, .ref a0)]) hx hb dX6_readPlain_29 rfl hl (by decide) rfl (fun ls hl => ?_)
            refine lv_aload_n hx hb dX6_readPlain_30 rfl (lv_at hl 2 rfl) ?_
            have hk_0 : (0 : Int32).toInt = 0 := by decide
            refine tk_Vv (As := []) (rest := []) (ci := 6) ⟨hx, hb, hml, hown, hts⟩ hK hG hZ hS (k_X6_step l D cy ld t a0 0 ht_a0 (by omega) (by omega)) hg_0 ⟨callB_of 0 hts (wl_in mw_494) rfl rfl rfl (htl _ mw_36) (htl _ mw_491) hd_yX6_step ⟨(Nat.le_of_ble_eq_true rfl), (Nat.le_of_ble_eq_true rfl)⟩, htl _ mw_492, htl _ mw_493⟩ ht_a0 (by decide) tk_no rfl (tk_w.pick [0] rfl) rfl hl.1 rfl (Nat.le_of_ble_eq_true rfl) dX6_readPlain_31 ⟨(Nat.le_of_ble_eq_true rfl), (Nat.le_of_ble_eq_true rfl)⟩ (fun H locs hpo hG hS hq9 => ?_)
            have hf1089 := hpo
            obtain ⟨v1090, h_v1090, e_v1090⟩ := tk_inc v1 1 (by decide) (by omega) (by omega)
            refine lv_iinc (v := v1090) (lv' := [(2, .int v1090), (1, .int v1086), (0, .ref a0)]) hx hb dX6_readPlain_34 hl (k := 1) rfl e_v1090 (by decide) rfl (fun ls hl => ?_)
            refine lv_goto (tgt := 4) hx hb dX6_readPlain_37 (by decide) ?_
            exact ih_l975 v1090 v1086 _ _ (by omega) (by omega) (by omega) (by omega) (by omega) hG hS hf1089 _ (lv_sub hl [0, 1, 2] rfl)
          refine lv_if_ne (tgt := 28) hx hb dX6_readPlain_21 (by decide) (fun c9 => ?_) (fun c9 => ?_)
          · have hc1084 : ¬ (v2.toInt = 0) := fun h9 => c9 ((fi_eq rfl (show (0 : Int32).toInt = 0 by decide)).mpr h9)
            refine lv_iconst (v := 0) hx hb dX6_readPlain_28 (by decide) ?_
            have hk_0 : (0 : Int32).toInt = 0 := by decide
            exact hj1087 0 (by omega) (by omega) _ (lv_sub hl [0, 2] rfl)
          · have hc1084 : v2.toInt = 0 := (fi_eq rfl (show (0 : Int32).toInt = 0 by decide)).mp c9
            refine lv_iconst (v := 1) hx hb dX6_readPlain_24 (by decide) ?_
            refine lv_goto (tgt := 29) hx hb dX6_readPlain_25 (by decide) ?_
            have hk_1 : (1 : Int32).toInt = 1 := by decide
            exact hj1087 1 (by omega) (by omega) _ (lv_sub hl [0, 2] rfl)
  have hk_0 : (0 : Int32).toInt = 0 := by decide
  have hk_0 : (0 : Int32).toInt = 0 := by decide
  exact hl975 401 0 0 _ _ (by omega) (by omega) (by omega) (by omega) (by omega) hG hS hg_0 _ (lv_sub hl [0, 1, 2] rfl)
set_option maxHeartbeats 4000000 in
set_option maxRecDepth 100000 in
theorem k_X6_readBoth_0 (l : Launch) (D : va_G) (cy : Nat → ClassId) (ld : Nat → Nat) (t : tk_T) (a0 : Nat) (ht_a0 : t a0 = (7, 0, 0)) : Met l yX6_readBoth (wl yX6_readBoth cX6_readBoth 3 none) ({ frames := 37, cells := 0, slots := 0, locals := 2520 }) (tp D cy ld t [] [.ref a0] (fun H => tk_f D H a0 6 9 (.int 0))) (tv D cy ld t [] (fun H => tk_f D H a0 6 9 (.int 0)) (tk_w t [(7, 0, 0), (20, 0, 0), (8, 12, 12)])) 0 0 (tk_w t [(7, 0, 0), (20, 0, 0), (8, 12, 12)]) := by
  refine tk_met (y := yX6_readBoth) (cc := cX6_readBoth) (maxL := 3) (ret := none) (av := [.ref a0]) _ _ (by decide) (Nat.le_of_ble_eq_true rfl) ?_
  intro p e s m args below meth c hx hb hr hml hts htl hown hlocks hK H locs hH hG hS hB hZ ls hl
  have hown : s.vm.findClass RX6 = some m.cls := hown
  have hl : lv_has ls 3 [(0, .ref a0)] := hl
  have hg_0 := hB
  refine lv_aload_n hx hb dX6_readBoth_0 rfl (lv_at hl 0 rfl) ?_
  refine tk_Vv (As := []) (rest := []) (ci := 6) ⟨hx, hb, hml, hown, hts⟩ hK hG hZ hS (k_X6_readPlain_0 l D cy ld t a0 ht_a0) hg_0 ⟨callB_of 0 hts (wl_in mw_648) rfl rfl rfl (htl _ mw_36) (htl _ mw_645) hd_yX6_readPlain ⟨(Nat.le_of_ble_eq_true rfl), (Nat.le_of_ble_eq_true rfl)⟩, htl _ mw_646, htl _ mw_647⟩ ht_a0 (by decide) tk_no rfl (tk_w.pick [0, 1, 2] rfl) rfl hl.1 rfl (Nat.le_of_ble_eq_true rfl) dX6_readBoth_1 ⟨(Nat.le_of_ble_eq_true rfl), (Nat.le_of_ble_eq_true rfl)⟩ (fun H locs hpo hG hS hq9 => ?_)
  have hf2 := hpo
  refine lv_iconst (v := 0) hx hb dX6_readBoth_4 (by decide) ?_
  refine lv_istore_n (lv' := [(1, .int 0), (0, .ref a0)]) hx hb dX6_readBoth_5 rfl hl (by decide) rfl (fun ls hl => ?_)
  have hl170 : ∀ (N_l170 : Nat) (v3 : Int32) (H : Heap) (locs : List Loc), 0 ≤ v3.toInt → v3.toInt ≤ 400 → (-1) * v3.toInt + 400 < (N_l170 : Int) → tk_G D cy ld t [] H → va_S (tk_w t [(7, 0, 0), (20, 0, 0), (8, 12, 12)]) s.heap H locs → tk_f D H a0 6 9 (.int 0) → ∀ ls : Array Slot, lv_has ls 3 [(1, .int v3), (0, .ref a0)] → W p l e ({ frames := 37, cells := 0, slots := 0, locals := 2520 }) s m args below meth c H locs 0 0 (MQ below (tv D cy ld t [] (fun H => tk_f D H a0 6 9 (.int 0)) (tk_w t [(7, 0, 0), (20, 0, 0), (8, 12, 12)])) args s 0 0 (tk_w t [(7, 0, 0), (20, 0, 0), (8, 12, 12)])) (F0 m 6 ls []) := by
    intro N_l170
    induction N_l170 with
    | zero => intro v3 H locs hq0_l170 hq1_l170 hm_l170 hG hS hf2 ls hl; exfalso; omega
    | succ N_l170 ih_l170 =>
      intro v3 H locs hq0_l170 hq1_l170 hm_l170 hG hS hf2 ls hl
      refine lv_iload_n hx hb dX6_readBoth_6 rfl (lv_at hl 0 rfl) ?_
      refine lv_sipush (v := 400) hx hb dX6_readBoth_7 (by decide) ?_
      refine lv_icmp_ge (tgt := 58) hx hb dX6_readBoth_10 (by decide) (fun c9 => ?_) (fun c9 => ?_)
      · have hc171 : 400 ≤ v3.toInt := (fi_le (show (400 : Int32).toInt = 400 by decide) rfl).mp c9
        exact tk_vret hx hb hr hlocks (show tk_f D H a0 6 9 (.int 0) from hf2) hG hS dX6_readBoth_58
      · have hc171 : ¬ (400 ≤ v3.toInt) := fun h9 => c9 ((fi_le (show (400 : Int32).toInt = 400 by decide) rfl).mpr h9)
        refine lv_aload_n hx hb dX6_readBoth_13 rfl (lv_at hl 1 rfl) ?_
        refine va_ldcS hx hb hown hK.2.2.2.2.2.2.2.2.2.2.2.2.2.1 dX6_readBoth_14 ?_
        refine tk_Vi (As := [.ref (ld 9)]) (rest := []) (ci := 6) ⟨hx, hb, hml, hown, hts⟩ hK hG hZ hS (k_X6_isWord_9 l D cy ld t a0 ht_a0) trivial ⟨callB_of 1 hts (wl_in mw_626) rfl rfl rfl (htl _ mw_36) (htl _ mw_623) hd_yX6_isWord ⟨(Nat.le_of_ble_eq_true rfl), (Nat.le_of_ble_eq_true rfl)⟩, htl _ mw_624, htl _ mw_625⟩ ht_a0 (by decide) tk_no rfl (tk_w.pick [] rfl) rfl hl.1 rfl (Nat.le_of_ble_eq_true rfl) dX6_readBoth_16 ⟨(Nat.le_of_ble_eq_true rfl), (Nat.le_of_ble_eq_true rfl)⟩ (fun v172 H locs hpo hG hS hq9 => ?_)
        have hf2 := hf2.call hq9 tk_w.nil
        obtain ⟨hpo174, hpo175, hpo176, hpo177⟩ := hpo
        refine lv_if_eq (tgt := 58) hx hb dX6_readBoth_19 (by decide) (fun c9 => ?_) (fun c9 => ?_)
        · have hc178 : v172.toInt = 0 := (fi_eq rfl (show (0 : Int32).toInt = 0 by decide)).mp c9
          exact tk_vret hx hb hr hlocks (show tk_f D H a0 6 9 (.int 0) from hf2) hG hS dX6_readBoth_58
        · have hc178 : ¬ (v172.toInt = 0) := fun h9 => c9 ((fi_eq rfl (show (0 : Int32).toInt = 0 by decide)).mpr h9)
          refine lv_aload_n hx hb dX6_readBoth_22 rfl (lv_at hl 1 rfl) ?_
          refine tk_get (ci := 6) (C := RX6) (T := TX6) (N := 11) (sp := (6, 8, 512, 12)) hx hb htl inX6 hown hK hG ht_a0 (by decide) tk_no rfl 0 (by decide) (htl _ mw_132) (fun _ h9 => h9) rfl dX6_readBoth_23 (fun v9 hf179 hV9 => ?_)
          obtain ⟨b180, rfl, ht_b180⟩ := hV9
          have ht_b180 : t b180 = (8, 512, 12) := ht_b180
          refine tk_get (ci := 7) (C := RX7) (T := TX7) (N := 10) (sp := (4, 0, 0, 0)) hx hb htl inX7 hown hK hG ht_b180 (by decide) tk_no rfl 6 (by decide) (htl _ mw_513) (fun _ h9 => h9) rfl dX6_readBoth_26 (fun v9 hf181 hV9 => ?_)
          obtain ⟨v182, rfl, (ha_v182 : 0 ≤ v182.toInt), (hb_v182 : v182.toInt ≤ 512)⟩ := hV9
          refine lv_istore_n (lv' := [(2, .int v182), (1, .int v3), (0, .ref a0)]) hx hb dX6_readBoth_29 rfl hl (by decide) rfl (fun ls hl => ?_)
          refine lv_aload_n hx hb dX6_readBoth_30 rfl (lv_at hl 2 rfl) ?_
          refine tk_get (ci := 6) (C := RX6) (T := TX6) (N := 11) (sp := (6, 8, 512, 12)) hx hb htl inX6 hown hK hG ht_a0 (by decide) tk_no rfl 0 (by decide) (htl _ mw_132) (fun _ h9 => h9) rfl dX6_readBoth_31 (fun v9 hf183 hV9 => ?_)
          obtain ⟨b184, rfl, ht_b184⟩ := hV9
          have ht_b184 : t b184 = (8, 512, 12) := ht_b184
          refine lv_iconst (v := 4) hx hb dX6_readBoth_34 (by decide) ?_
          refine lv_iconst (v := 0) hx hb dX6_readBoth_35 (by decide) ?_
          have hk_4 : (4 : Int32).toInt = 4 := by decide
          have hk_0 : (0 : Int32).toInt = 0 := by decide
          refine tk_Vv (As := [.int 4, .int 0]) (rest := []) (ci := 7) ⟨hx, hb, hml, hown, hts⟩ hK hG hZ hS (k_X7_put l D cy ld t b184 4 0 ht_b184) trivial ⟨callB_of 2 hts (wl_in mw_594) rfl rfl rfl (htl _ mw_131) (htl _ mw_591) hd_yX7_put ⟨(Nat.le_of_ble_eq_true rfl), (Nat.le_of_ble_eq_true rfl)⟩, htl _ mw_592, htl _ mw_593⟩ ht_b184 (by decide) tk_no rfl (tk_w.pick [1, 2] rfl) rfl hl.1 rfl (Nat.le_of_ble_eq_true rfl) dX6_readBoth_36 ⟨(Nat.le_of_ble_eq_true rfl), (Nat.le_of_ble_eq_true rfl)⟩ (fun H locs hpo hG hS hq9 => ?_)
          have hf2 := hf2.call hq9 (tk_w.no ht_a0 (by decide))
          refine lv_aload_n hx hb dX6_readBoth_39 rfl (lv_at hl 2 rfl) ?_
          have hk_0 : (0 : Int32).toInt = 0 := by decide
          refine tk_Vv (As := []) (rest := []) (ci := 6) ⟨hx, hb, hml, hown, hts⟩ hK hG hZ hS (k_X6_step l D cy ld t a0 0 ht_a0 (by omega) (by omega)) hf2 ⟨callB_of 0 hts (wl_in mw_494) rfl rfl rfl (htl _ mw_36) (htl _ mw_491) hd_yX6_step ⟨(Nat.le_of_ble_eq_true rfl), (Nat.le_of_ble_eq_true rfl)⟩, htl _ mw_492, htl _ mw_493⟩ ht_a0 (by decide) tk_no rfl (tk_w.pick [0] rfl) rfl hl.1 rfl (Nat.le_of_ble_eq_true rfl) dX6_readBoth_40 ⟨(Nat.le_of_ble_eq_true rfl), (Nat.le_of_ble_eq_true rfl)⟩ (fun H locs hpo hG hS hq9 => ?_)
          have hf187 := hpo
          refine lv_aload_n hx hb dX6_readBoth_43 rfl (lv_at hl 2 rfl) ?_
          refine tk_Vv (As := []) (rest := []) (ci := 6) ⟨hx, hb, hml, hown, hts⟩ hK hG hZ hS (k_X6_readPlain_0 l D cy ld t a0 ht_a0) hf187 ⟨callB_of 0 hts (wl_in mw_648) rfl rfl rfl (htl _ mw_36) (htl _ mw_645) hd_yX6_readPlain ⟨(Nat.le_of_ble_eq_true rfl), (Nat.le_of_ble_eq_true rfl)⟩, htl _ mw_646, htl _ mw_647⟩ ht_a0 (by decide) tk_no rfl (tk_w.pick [0, 1, 2] rfl) rfl hl.1 rfl (Nat.le_of_ble_eq_true rfl) dX6_readBoth_44 ⟨(Nat.le_of_ble_eq_true rfl), (Nat.le_of_ble_eq_true rfl)⟩ (fun H locs hpo hG hS hq9 => ?_)
          have hf189 := hpo
          refine lv_aload_n hx hb dX6_readBoth_47 rfl (lv_at hl 2 rfl) ?_
          refine lv_iload_n hx hb dX6_readBoth_48 rfl (lv_at hl 0 rfl) ?_
          refine tk_Vv (As := [.int v182]) (rest := []) (ci := 6) ⟨hx, hb, hml, hown, hts⟩ hK hG hZ hS (k_X6_landHere l D cy ld t a0 v182 ht_a0 (by omega) (by omega)) trivial ⟨callB_of 1 hts (wl_in mw_642) rfl rfl rfl (htl _ mw_36) (htl _ mw_639) hd_yX6_landHere ⟨(Nat.le_of_ble_eq_true rfl), (Nat.le_of_ble_eq_true rfl)⟩, htl _ mw_640, htl _ mw_641⟩ ht_a0 (by decide) tk_no rfl (tk_w.pick [1] rfl) rfl hl.1 rfl (Nat.le_of_ble_eq_true rfl) dX6_readBoth_49 ⟨(Nat.le_of_ble_eq_true rfl), (Nat.le_of_ble_eq_true rfl)⟩ (fun H locs hpo hG hS hq9 => ?_)
          have hf189 := hf189.call hq9 (tk_w.no ht_a0 (by decide))
          obtain ⟨v191, h_v191, e_v191⟩ := tk_inc v3 1 (by decide) (by omega) (by omega)
          refine lv_iinc (v := v191) (lv' := [(1, .int v191), (2, .int v182), (0, .ref a0)]) hx hb dX6_readBoth_52 hl (k := 1) rfl e_v191 (by decide) rfl (fun ls hl => ?_)
          refine lv_goto (tgt := 6) hx hb dX6_readBoth_55 (by decide) ?_
          exact ih_l170 v191 _ _ (by omega) (by omega) (by omega) hG hS hf189 _ (lv_sub hl [0, 2] rfl)
  have hk_0 : (0 : Int32).toInt = 0 := by decide
  exact hl170 401 0 _ _ (by omega) (by omega) (by omega) hG hS hf2 _ (lv_sub hl [0, 1] rfl)
set_option maxHeartbeats 4000000 in
set_option maxRecDepth 100000 in
theorem k_X6_readTest_0 (l : Launch) (D : va_G) (cy : Nat → ClassId) (ld : Nat → Nat) (t : tk_T) (a0 : Nat) (ht_a0 : t a0 = (7, 0, 0)) : Met l yX6_readTest (wl yX6_readTest cX6_readTest 3 none) ({ frames := 38, cells := 0, slots := 0, locals := 2590 }) (tp D cy ld t [] [.ref a0] (fun H => tk_f D H a0 6 9 (.int 0))) (tv D cy ld t [] (fun H => tk_f D H a0 6 9 (.int 0)) (tk_w t [(7, 0, 0), (20, 0, 0), (8, 12, 12)])) 0 0 (tk_w t [(7, 0, 0), (20, 0, 0), (8, 12, 12)]) := by
  refine tk_met (y := yX6_readTest) (cc := cX6_readTest) (maxL := 3) (ret := none) (av := [.ref a0]) _ _ (by decide) (Nat.le_of_ble_eq_true rfl) ?_
  intro p e s m args below meth c hx hb hr hml hts htl hown hlocks hK H locs hH hG hS hB hZ ls hl
  have hown : s.vm.findClass RX6 = some m.cls := hown
  have hl : lv_has ls 3 [(0, .ref a0)] := hl
  have hg_0 := hB
  refine lv_aload_n hx hb dX6_readTest_0 rfl (lv_at hl 0 rfl) ?_
  refine tk_Vv (As := []) (rest := []) (ci := 6) ⟨hx, hb, hml, hown, hts⟩ hK hG hZ hS (k_X6_readBoth_0 l D cy ld t a0 ht_a0) hg_0 ⟨callB_of 0 hts (wl_in mw_644) rfl rfl rfl (htl _ mw_36) (htl _ mw_636) hd_yX6_readBoth ⟨(Nat.le_of_ble_eq_true rfl), (Nat.le_of_ble_eq_true rfl)⟩, htl _ mw_637, htl _ mw_638⟩ ht_a0 (by decide) tk_no rfl (tk_w.pick [0, 1, 2] rfl) rfl hl.1 rfl (Nat.le_of_ble_eq_true rfl) dX6_readTest_1 ⟨(Nat.le_of_ble_eq_true rfl), (Nat.le_of_ble_eq_true rfl)⟩ (fun H locs hpo hG hS hq9 => ?_)
  have hf2 := hpo
  refine lv_iconst (v := 0) hx hb dX6_readTest_4 (by decide) ?_
  refine lv_istore_n (lv' := [(1, .int 0), (0, .ref a0)]) hx hb dX6_readTest_5 rfl hl (by decide) rfl (fun ls hl => ?_)
  have hl170 : ∀ (N_l170 : Nat) (v3 : Int32) (H : Heap) (locs : List Loc), 0 ≤ v3.toInt → v3.toInt ≤ 400 → (-1) * v3.toInt + 400 < (N_l170 : Int) → tk_G D cy ld t [] H → va_S (tk_w t [(7, 0, 0), (20, 0, 0), (8, 12, 12)]) s.heap H locs → tk_f D H a0 6 9 (.int 0) → ∀ ls : Array Slot, lv_has ls 3 [(1, .int v3), (0, .ref a0)] → W p l e ({ frames := 38, cells := 0, slots := 0, locals := 2590 }) s m args below meth c H locs 0 0 (MQ below (tv D cy ld t [] (fun H => tk_f D H a0 6 9 (.int 0)) (tk_w t [(7, 0, 0), (20, 0, 0), (8, 12, 12)])) args s 0 0 (tk_w t [(7, 0, 0), (20, 0, 0), (8, 12, 12)])) (F0 m 6 ls []) := by
    intro N_l170
    induction N_l170 with
    | zero => intro v3 H locs hq0_l170 hq1_l170 hm_l170 hG hS hf2 ls hl; exfalso; omega
    | succ N_l170 ih_l170 =>
      intro v3 H locs hq0_l170 hq1_l170 hm_l170 hG hS hf2 ls hl
      refine lv_iload_n hx hb dX6_readTest_6 rfl (lv_at hl 0 rfl) ?_
      refine lv_sipush (v := 400) hx hb dX6_readTest_7 (by decide) ?_
      refine lv_icmp_ge (tgt := 58) hx hb dX6_readTest_10 (by decide) (fun c9 => ?_) (fun c9 => ?_)
      · have hc171 : 400 ≤ v3.toInt := (fi_le (show (400 : Int32).toInt = 400 by decide) rfl).mp c9
        exact tk_vret hx hb hr hlocks (show tk_f D H a0 6 9 (.int 0) from hf2) hG hS dX6_readTest_58
      · have hc171 : ¬ (400 ≤ v3.toInt) := fun h9 => c9 ((fi_le (show (400 : Int32).toInt = 400 by decide) rfl).mpr h9)
        refine lv_aload_n hx hb dX6_readTest_13 rfl (lv_at hl 1 rfl) ?_
        refine va_ldcS hx hb hown hK.2.2.2.2.2.2.2.2.2.2.2.2.2.2 dX6_readTest_14 ?_
        refine tk_Vi (As := [.ref (ld 10)]) (rest := []) (ci := 6) ⟨hx, hb, hml, hown, hts⟩ hK hG hZ hS (k_X6_isWord_10 l D cy ld t a0 ht_a0) trivial ⟨callB_of 1 hts (wl_in mw_626) rfl rfl rfl (htl _ mw_36) (htl _ mw_623) hd_yX6_isWord ⟨(Nat.le_of_ble_eq_true rfl), (Nat.le_of_ble_eq_true rfl)⟩, htl _ mw_624, htl _ mw_625⟩ ht_a0 (by decide) tk_no rfl (tk_w.pick [] rfl) rfl hl.1 rfl (Nat.le_of_ble_eq_true rfl) dX6_readTest_16 ⟨(Nat.le_of_ble_eq_true rfl), (Nat.le_of_ble_eq_true rfl)⟩ (fun v172 H locs hpo hG hS hq9 => ?_)
        have hf2 := hf2.call hq9 tk_w.nil
        obtain ⟨hpo174, hpo175, hpo176, hpo177⟩ := hpo
        refine lv_if_eq (tgt := 58) hx hb dX6_readTest_19 (by decide) (fun c9 => ?_) (fun c9 => ?_)
        · have hc178 : v172.toInt = 0 := (fi_eq rfl (show (0 : Int32).toInt = 0 by decide)).mp c9
          exact tk_vret hx hb hr hlocks (show tk_f D H a0 6 9 (.int 0) from hf2) hG hS dX6_readTest_58
        · have hc178 : ¬ (v172.toInt = 0) := fun h9 => c9 ((fi_eq rfl (show (0 : Int32).toInt = 0 by decide)).mpr h9)
          refine lv_aload_n hx hb dX6_readTest_22 rfl (lv_at hl 1 rfl) ?_
          refine tk_get (ci := 6) (C := RX6) (T := TX6) (N := 11) (sp := (6, 8, 512, 12)) hx hb htl inX6 hown hK hG ht_a0 (by decide) tk_no rfl 0 (by decide) (htl _ mw_132) (fun _ h9 => h9) rfl dX6_readTest_23 (fun v9 hf179 hV9 => ?_)
          obtain ⟨b180, rfl, ht_b180⟩ := hV9
          have ht_b180 : t b180 = (8, 512, 12) := ht_b180
          refine tk_get (ci := 7) (C := RX7) (T := TX7) (N := 10) (sp := (4, 0, 0, 0)) hx hb htl inX7 hown hK hG ht_b180 (by decide) tk_no rfl 6 (by decide) (htl _ mw_513) (fun _ h9 => h9) rfl dX6_readTest_26 (fun v9 hf181 hV9 => ?_)
          obtain ⟨v182, rfl, (ha_v182 : 0 ≤ v182.toInt), (hb_v182 : v182.toInt ≤ 512)⟩ := hV9
          refine lv_istore_n (lv' := [(2, .int v182), (1, .int v3), (0, .ref a0)]) hx hb dX6_readTest_29 rfl hl (by decide) rfl (fun ls hl => ?_)
          refine lv_aload_n hx hb dX6_readTest_30 rfl (lv_at hl 2 rfl) ?_
          refine tk_get (ci := 6) (C := RX6) (T := TX6) (N := 11) (sp := (6, 8, 512, 12)) hx hb htl inX6 hown hK hG ht_a0 (by decide) tk_no rfl 0 (by decide) (htl _ mw_132) (fun _ h9 => h9) rfl dX6_readTest_31 (fun v9 hf183 hV9 => ?_)
          obtain ⟨b184, rfl, ht_b184⟩ := hV9
          have ht_b184 : t b184 = (8, 512, 12) := ht_b184
          refine lv_iconst (v := 5) hx hb dX6_readTest_34 (by decide) ?_
          refine lv_iconst (v := 0) hx hb dX6_readTest_35 (by decide) ?_
          have hk_5 : (5 : Int32).toInt = 5 := by decide
          have hk_0 : (0 : Int32).toInt = 0 := by decide
          refine tk_Vv (As := [.int 5, .int 0]) (rest := []) (ci := 7) ⟨hx, hb, hml, hown, hts⟩ hK hG hZ hS (k_X7_put l D cy ld t b184 5 0 ht_b184) trivial ⟨callB_of 2 hts (wl_in mw_594) rfl rfl rfl (htl _ mw_131) (htl _ mw_591) hd_yX7_put ⟨(Nat.le_of_ble_eq_true rfl), (Nat.le_of_ble_eq_true rfl)⟩, htl _ mw_592, htl _ mw_593⟩ ht_b184 (by decide) tk_no rfl (tk_w.pick [1, 2] rfl) rfl hl.1 rfl (Nat.le_of_ble_eq_true rfl) dX6_readTest_36 ⟨(Nat.le_of_ble_eq_true rfl), (Nat.le_of_ble_eq_true rfl)⟩ (fun H locs hpo hG hS hq9 => ?_)
          have hf2 := hf2.call hq9 (tk_w.no ht_a0 (by decide))
          refine lv_aload_n hx hb dX6_readTest_39 rfl (lv_at hl 2 rfl) ?_
          have hk_0 : (0 : Int32).toInt = 0 := by decide
          refine tk_Vv (As := []) (rest := []) (ci := 6) ⟨hx, hb, hml, hown, hts⟩ hK hG hZ hS (k_X6_step l D cy ld t a0 0 ht_a0 (by omega) (by omega)) hf2 ⟨callB_of 0 hts (wl_in mw_494) rfl rfl rfl (htl _ mw_36) (htl _ mw_491) hd_yX6_step ⟨(Nat.le_of_ble_eq_true rfl), (Nat.le_of_ble_eq_true rfl)⟩, htl _ mw_492, htl _ mw_493⟩ ht_a0 (by decide) tk_no rfl (tk_w.pick [0] rfl) rfl hl.1 rfl (Nat.le_of_ble_eq_true rfl) dX6_readTest_40 ⟨(Nat.le_of_ble_eq_true rfl), (Nat.le_of_ble_eq_true rfl)⟩ (fun H locs hpo hG hS hq9 => ?_)
          have hf187 := hpo
          refine lv_aload_n hx hb dX6_readTest_43 rfl (lv_at hl 2 rfl) ?_
          refine tk_Vv (As := []) (rest := []) (ci := 6) ⟨hx, hb, hml, hown, hts⟩ hK hG hZ hS (k_X6_readBoth_0 l D cy ld t a0 ht_a0) hf187 ⟨callB_of 0 hts (wl_in mw_644) rfl rfl rfl (htl _ mw_36) (htl _ mw_636) hd_yX6_readBoth ⟨(Nat.le_of_ble_eq_true rfl), (Nat.le_of_ble_eq_true rfl)⟩, htl _ mw_637, htl _ mw_638⟩ ht_a0 (by decide) tk_no rfl (tk_w.pick [0, 1, 2] rfl) rfl hl.1 rfl (Nat.le_of_ble_eq_true rfl) dX6_readTest_44 ⟨(Nat.le_of_ble_eq_true rfl), (Nat.le_of_ble_eq_true rfl)⟩ (fun H locs hpo hG hS hq9 => ?_)
          have hf189 := hpo
          refine lv_aload_n hx hb dX6_readTest_47 rfl (lv_at hl 2 rfl) ?_
          refine lv_iload_n hx hb dX6_readTest_48 rfl (lv_at hl 0 rfl) ?_
          refine tk_Vv (As := [.int v182]) (rest := []) (ci := 6) ⟨hx, hb, hml, hown, hts⟩ hK hG hZ hS (k_X6_landHere l D cy ld t a0 v182 ht_a0 (by omega) (by omega)) trivial ⟨callB_of 1 hts (wl_in mw_642) rfl rfl rfl (htl _ mw_36) (htl _ mw_639) hd_yX6_landHere ⟨(Nat.le_of_ble_eq_true rfl), (Nat.le_of_ble_eq_true rfl)⟩, htl _ mw_640, htl _ mw_641⟩ ht_a0 (by decide) tk_no rfl (tk_w.pick [1] rfl) rfl hl.1 rfl (Nat.le_of_ble_eq_true rfl) dX6_readTest_49 ⟨(Nat.le_of_ble_eq_true rfl), (Nat.le_of_ble_eq_true rfl)⟩ (fun H locs hpo hG hS hq9 => ?_)
          have hf189 := hf189.call hq9 (tk_w.no ht_a0 (by decide))
          obtain ⟨v191, h_v191, e_v191⟩ := tk_inc v3 1 (by decide) (by omega) (by omega)
          refine lv_iinc (v := v191) (lv' := [(1, .int v191), (2, .int v182), (0, .ref a0)]) hx hb dX6_readTest_52 hl (k := 1) rfl e_v191 (by decide) rfl (fun ls hl => ?_)
          refine lv_goto (tgt := 6) hx hb dX6_readTest_55 (by decide) ?_
          exact ih_l170 v191 _ _ (by omega) (by omega) (by omega) hG hS hf189 _ (lv_sub hl [0, 2] rfl)
  have hk_0 : (0 : Int32).toInt = 0 := by decide
  exact hl170 401 0 _ _ (by omega) (by omega) (by omega) hG hS hf2 _ (lv_sub hl [0, 1] rfl)
set_option maxHeartbeats 4000000 in
set_option maxRecDepth 100000 in
theorem k_J0_isLatin1_aae02_6 (l : Launch) (D : va_G) (cy : Nat → ClassId) (ld : Nat → Nat) (t : tk_T) : Met l yJ0_isLatin1_aae02 (wl yJ0_isLatin1_aae02 cJ0_isLatin1_aae02 1 (some .boolean)) ({ frames := 3, cells := 0, slots := 0, locals := 140 }) (tp D cy ld t [] [.ref (ld 6)] (fun H => True)) (ti D cy ld t [] (fun r H => r.toInt + (-1) = 0 ∧ 0 ≤ r.toInt ∧ r.toInt ≤ 1) (tk_w t [])) 0 0 (tk_w t []) := by
  refine tk_met (y := yJ0_isLatin1_aae02) (cc := cJ0_isLatin1_aae02) (maxL := 1) (ret := (some .boolean)) (av := [.ref (ld 6)]) _ _ (by decide) (Nat.le_of_ble_eq_true rfl) ?_
  intro p e s m args below meth c hx hb hr hml hts htl hown hlocks hK H locs hH hG hS hB hZ ls hl
  have hown : s.vm.findClass RJ0 = some m.cls := hown
  have hl : lv_has ls 1 [(0, .ref (ld 6))] := hl
  refine va_gets hx hb (hZ.2.1.narrow (fun _ h => h.1)) hS hown (htl _ mw_528) (fun _ h9 => h9) dJ0_isLatin1_aae02_0 ?_
  refine lv_if_eq (tgt := 17) hx hb dJ0_isLatin1_aae02_3 (by decide) (fun c9 => absurd c9 (by decide)) (fun _ => ?_)
  refine lv_aload_n hx hb dJ0_isLatin1_aae02_6 rfl (lv_at hl 0 rfl) ?_
  refine vk_getf hx hb ((hZ.1.1 6 (by decide)).2.1.narrow (fun _ h => h.1)) hS hown (htl _ mw_529) (fun _ h9 => h9) dJ0_isLatin1_aae02_7 ?_
  refine lv_if_ne (tgt := 17) hx hb dJ0_isLatin1_aae02_10 (by decide) (fun c9 => absurd (by decide) c9) (fun _ => ?_)
  refine lv_iconst (v := 1) hx hb dJ0_isLatin1_aae02_13 (by decide) ?_
  refine lv_goto (tgt := 18) hx hb dJ0_isLatin1_aae02_14 (by decide) ?_
  have hk_1 : (1 : Int32).toInt = 1 := by decide
  exact tk_iret (v := 1) hx hb hr rfl hlocks (show (1 : Int32).toInt + (-1) = 0 ∧ 0 ≤ (1 : Int32).toInt ∧ (1 : Int32).toInt ≤ 1 from ⟨(by omega), (by omega), (by omega)⟩) hG hS dJ0_isLatin1_aae02_18
set_option maxHeartbeats 4000000 in
set_option maxRecDepth 100000 in
theorem k_J1_charAt_3b067_6 (l : Launch) (D : va_G) (cy : Nat → ClassId) (ld : Nat → Nat) (t : tk_T) (p1 : Int32) (hp_0 : 0 ≤ p1.toInt) (hp_1 : p1.toInt ≤ 4) : Met l yJ1_charAt_3b067 (wl yJ1_charAt_3b067 cJ1_charAt_3b067 2 (some .char)) ({ frames := 5, cells := 0, slots := 0, locals := 280 }) (tp D cy ld t [] [.ref (ld 56), .int p1] (fun H => True)) (ti D cy ld t [] (fun r H => 0 ≤ r.toInt ∧ r.toInt ≤ 255) (tk_w t [])) 0 0 (tk_w t []) := by
  refine tk_met (y := yJ1_charAt_3b067) (cc := cJ1_charAt_3b067) (maxL := 2) (ret := (some .char)) (av := [.ref (ld 56), .int p1]) _ _ (by decide) (Nat.le_of_ble_eq_true rfl) ?_
  intro p e s m args below meth c hx hb hr hml hts htl hown hlocks hK H locs hH hG hS hB hZ ls hl
  have hown : s.vm.findClass RJ1 = some m.cls := hown
  have hl : lv_has ls 2 [(0, .ref (ld 56)), (1, .int p1)] := hl
  have hr_p1 := tk_rng p1
  refine lv_iload_n hx hb dJ1_charAt_3b067_0 rfl (lv_at hl 1 rfl) ?_
  refine lv_aload_n hx hb dJ1_charAt_3b067_1 rfl (lv_at hl 0 rfl) ?_
  refine va_tlen (v := 5) hx hb ((hZ.1.1 6 (by decide)).2.2.2.narrow (fun _ h => h.1)) hS rfl dJ1_charAt_3b067_2 ?_
  have hk_5 : (5 : Int32).toInt = 5 := by decide
  refine tk_Sv (As := [.int p1, .int 5]) (rest := []) ⟨hx, hb, hml, hown, hts⟩ hK hG hZ hS (k_J0_checkIndex_df160 l D cy ld t p1 5 (by omega) (by omega) (by omega) (by omega) (by omega)) trivial ⟨callB_of 2 hts (wl_in mw_544) rfl rfl rfl (htl _ mw_521) (htl _ mw_542) hd_yJ0_checkIndex_df160 ⟨(Nat.le_of_ble_eq_true rfl), (Nat.le_of_ble_eq_true rfl)⟩, htl _ mw_543⟩ (tk_w.pick [] rfl) rfl hl.1 rfl (Nat.le_of_ble_eq_true rfl) dJ1_charAt_3b067_3 ⟨(Nat.le_of_ble_eq_true rfl), (Nat.le_of_ble_eq_true rfl)⟩ (fun H locs hpo hG hS hq9 => ?_)
  refine lv_aload_n hx hb dJ1_charAt_3b067_6 rfl (lv_at hl 0 rfl) ?_
  refine lv_iload_n hx hb dJ1_charAt_3b067_7 rfl (lv_at hl 1 rfl) ?_
  refine va_tb hx hb ((hZ.1.1 6 (by decide)).2.2.2.narrow (fun _ h => h.1)) hS (vp_in_iff.mpr ⟨by omega, show _ < ((5 : Nat) : Int) by omega⟩) rfl dJ1_charAt_3b067_8 ?_
  refine tk_any (fun v2 => ?_)
  refine lv_sipush (v := 255) hx hb dJ1_charAt_3b067_9 (by decide) ?_
  refine lv_iand hx hb dJ1_charAt_3b067_12 ?_
  refine tk_say (P := fun z => 0 ≤ z.toInt ∧ z.toInt ≤ 255) (tk_and v2 8 (by decide) (by decide)) (fun v3 h_v3 => ?_)
  obtain ⟨v4, e_v4, h_v4⟩ := tk_i2c (x := v3) (by omega) (by omega)
  refine lv_i2c (v := v4) hx hb dJ1_charAt_3b067_13 e_v4 ?_
  exact tk_iret (v := v4) hx hb hr (tk_nc (by omega) (by omega)) hlocks (show 0 ≤ v4.toInt ∧ v4.toInt ≤ 255 from ⟨(by omega), (by omega)⟩) hG hS dJ1_charAt_3b067_14
set_option maxHeartbeats 4000000 in
set_option maxRecDepth 100000 in
theorem k_J0_charAt_5068e_6 (l : Launch) (D : va_G) (cy : Nat → ClassId) (ld : Nat → Nat) (t : tk_T) (p1 : Int32) (hp_0 : 0 ≤ p1.toInt) (hp_1 : p1.toInt ≤ 4) : Met l yJ0_charAt_5068e (wl yJ0_charAt_5068e cJ0_charAt_5068e 2 (some .char)) ({ frames := 6, cells := 0, slots := 0, locals := 350 }) (tp D cy ld t [] [.ref (ld 6), .int p1] (fun H => True)) (ti D cy ld t [] (fun r H => 0 ≤ r.toInt ∧ r.toInt ≤ 255) (tk_w t [])) 0 0 (tk_w t []) := by
  refine tk_met (y := yJ0_charAt_5068e) (cc := cJ0_charAt_5068e) (maxL := 2) (ret := (some .char)) (av := [.ref (ld 6), .int p1]) _ _ (by decide) (Nat.le_of_ble_eq_true rfl) ?_
  intro p e s m args below meth c hx hb hr hml hts htl hown hlocks hK H locs hH hG hS hB hZ ls hl
  have hown : s.vm.findClass RJ0 = some m.cls := hown
  have hl : lv_has ls 2 [(0, .ref (ld 6)), (1, .int p1)] := hl
  have hr_p1 := tk_rng p1
  refine lv_aload_n hx hb dJ0_charAt_5068e_0 rfl (lv_at hl 0 rfl) ?_
  refine tk_Ti (As := []) (rest := []) (j := 6) ⟨hx, hb, hml, hown, hts⟩ hK hG hZ hS (k_J0_isLatin1_aae02_6 l D cy ld t) trivial ⟨callB_of 0 hts (wl_in mw_537) rfl rfl rfl (htl _ mw_521) (htl _ mw_534) hd_yJ0_isLatin1_aae02 ⟨(Nat.le_of_ble_eq_true rfl), (Nat.le_of_ble_eq_true rfl)⟩, htl _ mw_535, htl _ mw_536⟩ (by decide) (tk_w.pick [] rfl) rfl hl.1 rfl (Nat.le_of_ble_eq_true rfl) dJ0_charAt_5068e_1 ⟨(Nat.le_of_ble_eq_true rfl), (Nat.le_of_ble_eq_true rfl)⟩ (fun v1 H locs hpo hG hS hq9 => ?_)
  obtain ⟨hpo3, hpo4, hpo5⟩ := hpo
  obtain rfl : v1 = 1 := (fi_eq (show v1.toInt = 1 by omega) (by decide)).mpr rfl
  refine lv_if_eq (tgt := 16) hx hb dJ0_charAt_5068e_4 (by decide) (fun c9 => absurd c9 (by decide)) (fun _ => ?_)
  refine lv_aload_n hx hb dJ0_charAt_5068e_7 rfl (lv_at hl 0 rfl) ?_
  refine vk_getf hx hb ((hZ.1.1 6 (by decide)).2.2.1.narrow (fun _ h => h.1)) hS hown (htl _ mw_523) (fun _ h9 => h9) dJ0_charAt_5068e_8 ?_
  refine lv_iload_n hx hb dJ0_charAt_5068e_11 rfl (lv_at hl 1 rfl) ?_
  refine tk_Si (As := [.ref (ld 56), .int p1]) (rest := []) ⟨hx, hb, hml, hown, hts⟩ hK hG hZ hS (k_J1_charAt_3b067_6 l D cy ld t p1 (by omega) (by omega)) trivial ⟨callB_of 2 hts (wl_in mw_541) rfl rfl rfl (htl _ mw_540) (htl _ mw_538) hd_yJ1_charAt_3b067 ⟨(Nat.le_of_ble_eq_true rfl), (Nat.le_of_ble_eq_true rfl)⟩, htl _ mw_539⟩ (tk_w.pick [] rfl) rfl hl.1 rfl (Nat.le_of_ble_eq_true rfl) dJ0_charAt_5068e_12 ⟨(Nat.le_of_ble_eq_true rfl), (Nat.le_of_ble_eq_true rfl)⟩ (fun v6 H locs hpo hG hS hq9 => ?_)
  obtain ⟨hpo8, hpo9⟩ := hpo
  exact tk_iret (v := v6) hx hb hr (tk_nc (by omega) (by omega)) hlocks (show 0 ≤ v6.toInt ∧ v6.toInt ≤ 255 from ⟨(by omega), (by omega)⟩) hG hS dJ0_charAt_5068e_15
set_option maxHeartbeats 4000000 in
set_option maxRecDepth 100000 in
theorem k_J0_coder_7d493_6 (l : Launch) (D : va_G) (cy : Nat → ClassId) (ld : Nat → Nat) (t : tk_T) : Met l yJ0_coder_7d493 (wl yJ0_coder_7d493 cJ0_coder_7d493 1 (some .byte)) ({ frames := 3, cells := 0, slots := 0, locals := 140 }) (tp D cy ld t [] [.ref (ld 6)] (fun H => True)) (ti D cy ld t [] (fun r H => r.toInt = 0) (tk_w t [])) 0 0 (tk_w t []) := by
  refine tk_met (y := yJ0_coder_7d493) (cc := cJ0_coder_7d493) (maxL := 1) (ret := (some .byte)) (av := [.ref (ld 6)]) _ _ (by decide) (Nat.le_of_ble_eq_true rfl) ?_
  intro p e s m args below meth c hx hb hr hml hts htl hown hlocks hK H locs hH hG hS hB hZ ls hl
  have hown : s.vm.findClass RJ0 = some m.cls := hown
  have hl : lv_has ls 1 [(0, .ref (ld 6))] := hl
  refine va_gets hx hb (hZ.2.1.narrow (fun _ h => h.1)) hS hown (htl _ mw_528) (fun _ h9 => h9) dJ0_coder_7d493_0 ?_
  refine lv_if_eq (tgt := 13) hx hb dJ0_coder_7d493_3 (by decide) (fun c9 => absurd c9 (by decide)) (fun _ => ?_)
  refine lv_aload_n hx hb dJ0_coder_7d493_6 rfl (lv_at hl 0 rfl) ?_
  refine vk_getf hx hb ((hZ.1.1 6 (by decide)).2.1.narrow (fun _ h => h.1)) hS hown (htl _ mw_529) (fun _ h9 => h9) dJ0_coder_7d493_7 ?_
  refine lv_goto (tgt := 14) hx hb dJ0_coder_7d493_10 (by decide) ?_
  have hk_0 : (0 : Int32).toInt = 0 := by decide
  exact tk_iret (v := 0) hx hb hr rfl hlocks (show (0 : Int32).toInt = 0 from (by omega)) hG hS dJ0_coder_7d493_14
set_option maxHeartbeats 4000000 in
set_option maxRecDepth 100000 in
theorem k_J0_length_8abf5_6 (l : Launch) (D : va_G) (cy : Nat → ClassId) (ld : Nat → Nat) (t : tk_T) : Met l yJ0_length_8abf5 (wl yJ0_length_8abf5 cJ0_length_8abf5 1 (some .int)) ({ frames := 4, cells := 0, slots := 0, locals := 210 }) (tp D cy ld t [] [.ref (ld 6)] (fun H => True)) (ti D cy ld t [] (fun r H => r.toInt + (-5) = 0) (tk_w t [])) 0 0 (tk_w t []) := by
  refine tk_met (y := yJ0_length_8abf5) (cc := cJ0_length_8abf5) (maxL := 1) (ret := (some .int)) (av := [.ref (ld 6)]) _ _ (by decide) (Nat.le_of_ble_eq_true rfl) ?_
  intro p e s m args below meth c hx hb hr hml hts htl hown hlocks hK H locs hH hG hS hB hZ ls hl
  have hown : s.vm.findClass RJ0 = some m.cls := hown
  have hl : lv_has ls 1 [(0, .ref (ld 6))] := hl
  refine lv_aload_n hx hb dJ0_length_8abf5_0 rfl (lv_at hl 0 rfl) ?_
  refine vk_getf hx hb ((hZ.1.1 6 (by decide)).2.2.1.narrow (fun _ h => h.1)) hS hown (htl _ mw_523) (fun _ h9 => h9) dJ0_length_8abf5_1 ?_
  refine va_tlen (v := 5) hx hb ((hZ.1.1 6 (by decide)).2.2.2.narrow (fun _ h => h.1)) hS rfl dJ0_length_8abf5_4 ?_
  refine lv_aload_n hx hb dJ0_length_8abf5_5 rfl (lv_at hl 0 rfl) ?_
  refine tk_Ti (As := []) (rest := [.int 5]) (j := 6) ⟨hx, hb, hml, hown, hts⟩ hK hG hZ hS (k_J0_coder_7d493_6 l D cy ld t) trivial ⟨callB_of 0 hts (wl_in mw_527) rfl rfl rfl (htl _ mw_521) (htl _ mw_524) hd_yJ0_coder_7d493 ⟨(Nat.le_of_ble_eq_true rfl), (Nat.le_of_ble_eq_true rfl)⟩, htl _ mw_525, htl _ mw_526⟩ (by decide) (tk_w.pick [] rfl) rfl hl.1 rfl (Nat.le_of_ble_eq_true rfl) dJ0_length_8abf5_6 ⟨(Nat.le_of_ble_eq_true rfl), (Nat.le_of_ble_eq_true rfl)⟩ (fun v1 H locs hpo hG hS hq9 => ?_)
  have hpo3 := hpo
  obtain rfl : v1 = 0 := (fi_eq (show v1.toInt = 0 by omega) (by decide)).mpr rfl
  refine lv_ishr hx hb dJ0_length_8abf5_9 ?_
  refine fx_ti (v := 5) (by decide) ?_
  have hk_5 : (5 : Int32).toInt = 5 := by decide
  exact tk_iret (v := 5) hx hb hr rfl hlocks (show (5 : Int32).toInt + (-5) = 0 from (by omega)) hG hS dJ0_length_8abf5_10
set_option maxHeartbeats 4000000 in
set_option maxRecDepth 100000 in
theorem k_X6_isToken_6 (l : Launch) (D : va_G) (cy : Nat → ClassId) (ld : Nat → Nat) (t : tk_T) (a0 : Nat) (p2 : Int32) (p3 : Int32) (ht_a0 : t a0 = (7, 0, 0)) (hp_0 : 0 ≤ p2.toInt) (hp_1 : p2.toInt ≤ 5) (hp_2 : 0 ≤ p3.toInt) (hp_3 : p3.toInt ≤ 5) : Met l yX6_isToken (wl yX6_isToken cX6_isToken 5 (some .boolean)) ({ frames := 7, cells := 0, slots := 0, locals := 420 }) (tp D cy ld t [] [.ref a0, .ref (ld 6), .int p2, .int p3] (fun H => True)) (ti D cy ld t [] (fun r H => 0 ≤ r.toInt ∧ r.toInt ≤ 1 ∧ 0 ≤ r.toInt ∧ r.toInt ≤ 1) (tk_w t [])) 0 0 (tk_w t []) := by
  refine tk_met (y := yX6_isToken) (cc := cX6_isToken) (maxL := 5) (ret := (some .boolean)) (av := [.ref a0, .ref (ld 6), .int p2, .int p3]) _ _ (by decide) (Nat.le_of_ble_eq_true rfl) ?_
  intro p e s m args below meth c hx hb hr hml hts htl hown hlocks hK H locs hH hG hS hB hZ ls hl
  have hown : s.vm.findClass RX6 = some m.cls := hown
  have hl : lv_has ls 5 [(0, .ref a0), (1, .ref (ld 6)), (2, .int p2), (3, .int p3)] := hl
  have hr_p2 := tk_rng p2
  have hr_p3 := tk_rng p3
  refine lv_iload_n hx hb dX6_isToken_0 rfl (lv_at hl 3 rfl) ?_
  refine lv_iload_n hx hb dX6_isToken_1 rfl (lv_at hl 2 rfl) ?_
  refine lv_isub hx hb dX6_isToken_2 ?_
  refine tk_sub rfl rfl (by omega) (by omega) (fun v1 h_v1 => ?_)
  refine lv_aload_n hx hb dX6_isToken_3 rfl (lv_at hl 0 rfl) ?_
  refine tk_get (ci := 6) (C := RX6) (T := TX6) (N := 11) (sp := (0, 0, 400, 0)) hx hb htl inX6 hown hK hG ht_a0 (by decide) tk_no rfl 5 (by decide) (htl _ mw_478) (fun _ h9 => h9) rfl dX6_isToken_4 (fun v9 hf2 hV9 => ?_)
  obtain ⟨v3, rfl, (ha_v3 : 0 ≤ v3.toInt), (hb_v3 : v3.toInt ≤ 400)⟩ := hV9
  refine lv_aload_n hx hb dX6_isToken_7 rfl (lv_at hl 0 rfl) ?_
  refine tk_get (ci := 6) (C := RX6) (T := TX6) (N := 11) (sp := (0, 0, 400, 0)) hx hb htl inX6 hown hK hG ht_a0 (by decide) tk_no rfl 4 (by decide) (htl _ mw_495) (fun _ h9 => h9) rfl dX6_isToken_8 (fun v9 hf4 hV9 => ?_)
  obtain ⟨v5, rfl, (ha_v5 : 0 ≤ v5.toInt), (hb_v5 : v5.toInt ≤ 400)⟩ := hV9
  refine lv_isub hx hb dX6_isToken_11 ?_
  refine tk_sub rfl rfl (by omega) (by omega) (fun v6 h_v6 => ?_)
  refine lv_icmp_eq (tgt := 17) hx hb dX6_isToken_12 (by decide) (fun c9 => ?_) (fun c9 => ?_)
  · have hc7 : v1.toInt = v6.toInt := (fi_eq rfl rfl).mp c9
    refine lv_iload_n hx hb dX6_isToken_17 rfl (lv_at hl 2 rfl) ?_
    refine lv_istore (lv' := [(4, .int p2), (0, .ref a0), (1, .ref (ld 6)), (2, .int p2), (3, .int p3)]) hx hb dX6_isToken_18 hl (by decide) rfl (fun ls hl => ?_)
    have hl82 : ∀ (N_l82 : Nat) (v8 : Int32) (H : Heap) (locs : List Loc), v8.toInt ≤ 5 → 0 ≤ (-1) * p2.toInt + v8.toInt → (-1) * v8.toInt + 5 < (N_l82 : Int) → tk_G D cy ld t [] H → va_S (tk_w t []) s.heap H locs → tk_f D H a0 6 5 (.int v3) → tk_f D H a0 6 4 (.int v5) → ∀ ls : Array Slot, lv_has ls 5 [(4, .int v8), (0, .ref a0), (1, .ref (ld 6)), (2, .int p2), (3, .int p3)] → W p l e ({ frames := 7, cells := 0, slots := 0, locals := 420 }) s m args below meth c H locs 0 0 (MQ below (ti D cy ld t [] (fun r H => 0 ≤ r.toInt ∧ r.toInt ≤ 1 ∧ 0 ≤ r.toInt ∧ r.toInt ≤ 1) (tk_w t [])) args s 0 0 (tk_w t [])) (F0 m 20 ls []) := by
      intro N_l82
      induction N_l82 with
      | zero => intro v8 H locs hq0_l82 hq1_l82 hm_l82 hG hS hf2 hf4 ls hl; exfalso; omega
      | succ N_l82 ih_l82 =>
        intro v8 H locs hq0_l82 hq1_l82 hm_l82 hG hS hf2 hf4 ls hl
        refine lv_iload hx hb dX6_isToken_20 (lv_at hl 0 rfl) ?_
        refine lv_iload_n hx hb dX6_isToken_22 rfl (lv_at hl 4 rfl) ?_
        refine lv_icmp_ge (tgt := 57) hx hb dX6_isToken_23 (by decide) (fun c9 => ?_) (fun c9 => ?_)
        · have hc83 : p3.toInt ≤ v8.toInt := (fi_le rfl rfl).mp c9
          refine lv_iconst (v := 1) hx hb dX6_isToken_57 (by decide) ?_
          have hk_1 : (1 : Int32).toInt = 1 := by decide
          exact tk_iret (v := 1) hx hb hr rfl hlocks (show 0 ≤ (1 : Int32).toInt ∧ (1 : Int32).toInt ≤ 1 ∧ 0 ≤ (1 : Int32).toInt ∧ (1 : Int32).toInt ≤ 1 from ⟨(by omega), (by omega), (by omega), (by omega)⟩) hG hS dX6_isToken_58
        · have hc83 : ¬ (p3.toInt ≤ v8.toInt) := fun h9 => c9 ((fi_le rfl rfl).mpr h9)
          refine lv_aload_n hx hb dX6_isToken_26 rfl (lv_at hl 2 rfl) ?_
          refine lv_iload hx hb dX6_isToken_27 (lv_at hl 0 rfl) ?_
          refine tk_Ti (As := [.int v8]) (rest := []) (j := 6) ⟨hx, hb, hml, hown, hts⟩ hK hG hZ hS (k_J0_charAt_5068e_6 l D cy ld t v8 (by omega) (by omega)) trivial ⟨callB_of 1 hts (wl_in mw_533) rfl rfl rfl (htl _ mw_521) (htl _ mw_530) hd_yJ0_charAt_5068e ⟨(Nat.le_of_ble_eq_true rfl), (Nat.le_of_ble_eq_true rfl)⟩, htl _ mw_531, htl _ mw_532⟩ (by decide) (tk_w.pick [] rfl) rfl hl.1 rfl (Nat.le_of_ble_eq_true rfl) dX6_isToken_29 ⟨(Nat.le_of_ble_eq_true rfl), (Nat.le_of_ble_eq_true rfl)⟩ (fun v84 H locs hpo hG hS hq9 => ?_)
          have hf2 := hf2.call hq9 tk_w.nil
          have hf4 := hf4.call hq9 tk_w.nil
          obtain ⟨hpo86, hpo87⟩ := hpo
          refine lv_aload_n hx hb dX6_isToken_32 rfl (lv_at hl 1 rfl) ?_
          refine tk_get (ci := 6) (C := RX6) (T := TX6) (N := 11) (sp := (6, 20, 400, 9)) hx hb htl inX6 hown hK hG ht_a0 (by decide) tk_no rfl 1 (by decide) (htl _ mw_133) (fun _ h9 => h9) rfl dX6_isToken_33 (fun v9 hf88 hV9 => ?_)
          obtain ⟨b89, rfl, ht_b89⟩ := hV9
          have ht_b89 : t b89 = (20, 400, 9) := ht_b89
          refine lv_aload_n hx hb dX6_isToken_36 rfl (lv_at hl 1 rfl) ?_
          refine tk_getk (ci := 6) (C := RX6) (T := TX6) (N := 11) (sp := (0, 0, 400, 0)) hx hb htl inX6 hown hK hG ht_a0 (by decide) tk_no rfl 4 (by decide) (htl _ mw_495) (fun _ h9 => h9) rfl hf4 dX6_isToken_37 ?_
          refine lv_iload hx hb dX6_isToken_40 (lv_at hl 0 rfl) ?_
          refine lv_iadd hx hb dX6_isToken_42 ?_
          refine tk_add rfl rfl (by omega) (by omega) (fun v90 h_v90 => ?_)
          refine lv_iload_n hx hb dX6_isToken_43 rfl (lv_at hl 3 rfl) ?_
          refine lv_isub hx hb dX6_isToken_44 ?_
          refine tk_sub rfl rfl (by omega) (by omega) (fun v91 h_v91 => ?_)
          refine tk_iald hx hb hK hG ht_b89 (by decide) (fun _ h => h) tk_no rfl (by omega) (by omega) dX6_isToken_45 (fun v92 _ _ => ?_)
          have hr_v92 := tk_rng v92
          refine lv_icmp_eq (tgt := 51) hx hb dX6_isToken_46 (by decide) (fun c9 => ?_) (fun c9 => ?_)
          · have hc93 : v84.toInt = v92.toInt := (fi_eq rfl rfl).mp c9
            obtain ⟨v94, h_v94, e_v94⟩ := tk_inc v8 1 (by decide) (by omega) (by omega)
            refine lv_iinc (v := v94) (lv' := [(4, .int v94), (0, .ref a0), (1, .ref (ld 6)), (2, .int p2), (3, .int p3)]) hx hb dX6_isToken_51 hl (k := 0) rfl e_v94 (by decide) rfl (fun ls hl => ?_)
            refine lv_goto (tgt := 20) hx hb dX6_isToken_54 (by decide) ?_
            exact ih_l82 v94 _ _ (by omega) (by omega) (by omega) hG hS hf2 hf4 _ (lv_sub hl [0, 1, 2, 3, 4] rfl)
          · have hc93 : ¬ (v84.toInt = v92.toInt) := fun h9 => c9 ((fi_eq rfl rfl).mpr h9)
            refine lv_iconst (v := 0) hx hb dX6_isToken_49 (by decide) ?_
            have hk_0 : (0 : Int32).toInt = 0 := by decide
            exact tk_iret (v := 0) hx hb hr rfl hlocks (show 0 ≤ (0 : Int32).toInt ∧ (0 : Int32).toInt ≤ 1 ∧ 0 ≤ (0 : Int32).toInt ∧ (0 : Int32).toInt ≤ 1 from ⟨(by omega), (by omega), (by omega), (by omega)⟩) hG hS dX6_isToken_50
    exact hl82 6 p2 _ _ (by omega) (by omega) (by omega) hG hS hf2 hf4 _ (lv_sub hl [0, 1, 2, 3, 4] rfl)
  · have hc7 : ¬ (v1.toInt = v6.toInt) := fun h9 => c9 ((fi_eq rfl rfl).mpr h9)
    refine lv_iconst (v := 0) hx hb dX6_isToken_15 (by decide) ?_
    have hk_0 : (0 : Int32).toInt = 0 := by decide
    exact tk_iret (v := 0) hx hb hr rfl hlocks (show 0 ≤ (0 : Int32).toInt ∧ (0 : Int32).toInt ≤ 1 ∧ 0 ≤ (0 : Int32).toInt ∧ (0 : Int32).toInt ≤ 1 from ⟨(by omega), (by omega), (by omega), (by omega)⟩) hG hS dX6_isToken_16
set_option maxHeartbeats 4000000 in
set_option maxRecDepth 100000 in
theorem k_X6_wordAmong_6 (l : Launch) (D : va_G) (cy : Nat → ClassId) (ld : Nat → Nat) (t : tk_T) (a0 : Nat) (ht_a0 : t a0 = (7, 0, 0)) : Met l yX6_wordAmong (wl yX6_wordAmong cX6_wordAmong 5 (some .int)) ({ frames := 8, cells := 0, slots := 0, locals := 490 }) (tp D cy ld t [] [.ref a0, .ref (ld 6)] (fun H => True)) (ti D cy ld t [] (fun r H => (-1) ≤ r.toInt ∧ r.toInt ≤ 5) (tk_w t [])) 0 0 (tk_w t []) := by
  refine tk_met (y := yX6_wordAmong) (cc := cX6_wordAmong) (maxL := 5) (ret := (some .int)) (av := [.ref a0, .ref (ld 6)]) _ _ (by decide) (Nat.le_of_ble_eq_true rfl) ?_
  intro p e s m args below meth c hx hb hr hml hts htl hown hlocks hK H locs hH hG hS hB hZ ls hl
  have hown : s.vm.findClass RX6 = some m.cls := hown
  have hl : lv_has ls 5 [(0, .ref a0), (1, .ref (ld 6))] := hl
  refine lv_aload_n hx hb dX6_wordAmong_0 rfl (lv_at hl 0 rfl) ?_
  refine tk_Vi (As := []) (rest := []) (ci := 6) ⟨hx, hb, hml, hown, hts⟩ hK hG hZ hS (k_X6_isGood l D cy ld t a0 ht_a0) trivial ⟨callB_of 0 hts (wl_in mw_503) rfl rfl rfl (htl _ mw_36) (htl _ mw_500) hd_yX6_isGood ⟨(Nat.le_of_ble_eq_true rfl), (Nat.le_of_ble_eq_true rfl)⟩, htl _ mw_501, htl _ mw_502⟩ ht_a0 (by decide) tk_no rfl (tk_w.pick [] rfl) rfl hl.1 rfl (Nat.le_of_ble_eq_true rfl) dX6_wordAmong_1 ⟨(Nat.le_of_ble_eq_true rfl), (Nat.le_of_ble_eq_true rfl)⟩ (fun v1 H locs hpo hG hS hq9 => ?_)
  obtain ⟨hpo3, hpo4, hpo5, hpo6⟩ := hpo
  refine lv_if_eq (tgt := 15) hx hb dX6_wordAmong_4 (by decide) (fun c9 => ?_) (fun c9 => ?_)
  · have hc7 : v1.toInt = 0 := (fi_eq rfl (show (0 : Int32).toInt = 0 by decide)).mp c9
    refine lv_iconst (v := (-1)) hx hb dX6_wordAmong_15 (by decide) ?_
    have hk_m1 : ((-1) : Int32).toInt = (-1) := by decide
    exact tk_iret (v := (-1)) hx hb hr rfl hlocks (show (-1) ≤ ((-1) : Int32).toInt ∧ ((-1) : Int32).toInt ≤ 5 from ⟨(by omega), (by omega)⟩) hG hS dX6_wordAmong_16
  · have hc7 : ¬ (v1.toInt = 0) := fun h9 => c9 ((fi_eq rfl (show (0 : Int32).toInt = 0 by decide)).mpr h9)
    refine lv_aload_n hx hb dX6_wordAmong_7 rfl (lv_at hl 0 rfl) ?_
    refine tk_get (ci := 6) (C := RX6) (T := TX6) (N := 11) (sp := (0, (-2147483648), 2147483647, 0)) hx hb htl inX6 hown hK hG ht_a0 (by decide) tk_no rfl 6 (by decide) (htl _ mw_482) (fun _ h9 => h9) rfl dX6_wordAmong_8 (fun v9 hf8 hV9 => ?_)
    obtain ⟨v9, rfl, (ha_v9 : (-2147483648) ≤ v9.toInt), (hb_v9 : v9.toInt ≤ 2147483647)⟩ := hV9
    refine lv_iconst (v := 1) hx hb dX6_wordAmong_11 (by decide) ?_
    refine lv_icmp_eq (tgt := 17) hx hb dX6_wordAmong_12 (by decide) (fun c9 => ?_) (fun c9 => ?_)
    · have hc10 : v9.toInt = 1 := (fi_eq rfl (show (1 : Int32).toInt = 1 by decide)).mp c9
      refine lv_iconst (v := 0) hx hb dX6_wordAmong_17 (by decide) ?_
      refine lv_istore_n (lv' := [(2, .int 0), (0, .ref a0), (1, .ref (ld 6))]) hx hb dX6_wordAmong_18 rfl hl (by decide) rfl (fun ls hl => ?_)
      refine lv_iconst (v := 0) hx hb dX6_wordAmong_19 (by decide) ?_
      refine lv_istore_n (lv' := [(3, .int 0), (2, .int 0), (0, .ref a0), (1, .ref (ld 6))]) hx hb dX6_wordAmong_20 rfl hl (by decide) rfl (fun ls hl => ?_)
      refine lv_iconst (v := 0) hx hb dX6_wordAmong_21 (by decide) ?_
      refine lv_istore (lv' := [(4, .int 0), (3, .int 0), (2, .int 0), (0, .ref a0), (1, .ref (ld 6))]) hx hb dX6_wordAmong_22 hl (by decide) rfl (fun ls hl => ?_)
      have hl275 : ∀ (N_l275 : Nat) (v11 : Int32) (v12 : Int32) (v13 : Int32) (H : Heap) (locs : List Loc), v11.toInt ≤ 6 → 0 ≤ v13.toInt → 0 ≤ v11.toInt + (-1) * v12.toInt → 0 ≤ v12.toInt + (-1) * v13.toInt → (-1) * v11.toInt + 6 < (N_l275 : Int) → tk_G D cy ld t [] H → va_S (tk_w t []) s.heap H locs → tk_f D H a0 6 6 (.int v9) → ∀ ls : Array Slot, lv_has ls 5 [(4, .int v11), (3, .int v12), (2, .int v13), (0, .ref a0), (1, .ref (ld 6))] → W p l e ({ frames := 8, cells := 0, slots := 0, locals := 490 }) s m args below meth c H locs 0 0 (MQ below (ti D cy ld t [] (fun r H => (-1) ≤ r.toInt ∧ r.toInt ≤ 5) (tk_w t [])) args s 0 0 (tk_w t [])) (F0 m 24 ls []) := by
        intro N_l275
        induction N_l275 with
        | zero => intro v11 v12 v13 H locs hq0_l275 hq1_l275 hq2_l275 hq3_l275 hm_l275 hG hS hf8 ls hl; exfalso; omega
        | succ N_l275 ih_l275 =>
          intro v11 v12 v13 H locs hq0_l275 hq1_l275 hq2_l275 hq3_l275 hm_l275 hG hS hf8 ls hl
          refine lv_iload hx hb dX6_wordAmong_24 (lv_at hl 0 rfl) ?_
          refine lv_aload_n hx hb dX6_wordAmong_26 rfl (lv_at hl 4 rfl) ?_
          refine tk_Ti (As := []) (rest := [.int v11]) (j := 6) ⟨hx, hb, hml, hown, hts⟩ hK hG hZ hS (k_J0_length_8abf5_6 l D cy ld t) trivial ⟨callB_of 0 hts (wl_in mw_522) rfl rfl rfl (htl _ mw_521) (htl _ mw_518) hd_yJ0_length_8abf5 ⟨(Nat.le_of_ble_eq_true rfl), (Nat.le_of_ble_eq_true rfl)⟩, htl _ mw_519, htl _ mw_520⟩ (by decide) (tk_w.pick [] rfl) rfl hl.1 rfl (Nat.le_of_ble_eq_true rfl) dX6_wordAmong_27 ⟨(Nat.le_of_ble_eq_true rfl), (Nat.le_of_ble_eq_true rfl)⟩ (fun v276 H locs hpo hG hS hq9 => ?_)
          have hf8 := hf8.call hq9 tk_w.nil
          have hpo278 := hpo
          obtain rfl : v276 = 5 := (fi_eq (show v276.toInt = 5 by omega) (by decide)).mpr rfl
          refine lv_icmp_gt (tgt := 80) hx hb dX6_wordAmong_30 (by decide) (fun c9 => ?_) (fun c9 => ?_)
          · have hc279 : 5 < v11.toInt := (fi_lt (show (5 : Int32).toInt = 5 by decide) rfl).mp c9
            refine lv_iconst (v := (-1)) hx hb dX6_wordAmong_80 (by decide) ?_
            have hk_m1 : ((-1) : Int32).toInt = (-1) := by decide
            exact tk_iret (v := (-1)) hx hb hr rfl hlocks (show (-1) ≤ ((-1) : Int32).toInt ∧ ((-1) : Int32).toInt ≤ 5 from ⟨(by omega), (by omega)⟩) hG hS dX6_wordAmong_81
          · have hc279 : ¬ (5 < v11.toInt) := fun h9 => c9 ((fi_lt (show (5 : Int32).toInt = 5 by decide) rfl).mpr h9)
            refine lv_iload hx hb dX6_wordAmong_33 (lv_at hl 0 rfl) ?_
            refine lv_aload_n hx hb dX6_wordAmong_35 rfl (lv_at hl 4 rfl) ?_
            refine tk_Ti (As := []) (rest := [.int v11]) (j := 6) ⟨hx, hb, hml, hown, hts⟩ hK hG hZ hS (k_J0_length_8abf5_6 l D cy ld t) trivial ⟨callB_of 0 hts (wl_in mw_522) rfl rfl rfl (htl _ mw_521) (htl _ mw_518) hd_yJ0_length_8abf5 ⟨(Nat.le_of_ble_eq_true rfl), (Nat.le_of_ble_eq_true rfl)⟩, htl _ mw_519, htl _ mw_520⟩ (by decide) (tk_w.pick [] rfl) rfl hl.1 rfl (Nat.le_of_ble_eq_true rfl) dX6_wordAmong_36 ⟨(Nat.le_of_ble_eq_true rfl), (Nat.le_of_ble_eq_true rfl)⟩ (fun v280 H locs hpo hG hS hq9 => ?_)
            have hf8 := hf8.call hq9 tk_w.nil
            have hpo282 := hpo
            obtain rfl : v280 = 5 := (fi_eq (show v280.toInt = 5 by omega) (by decide)).mpr rfl
            refine lv_icmp_eq (tgt := 53) hx hb dX6_wordAmong_39 (by decide) (fun c9 => ?_) (fun c9 => ?_)
            · have hc283 : v11.toInt = 5 := (fi_eq rfl (show (5 : Int32).toInt = 5 by decide)).mp c9
              refine lv_aload_n hx hb dX6_wordAmong_53 rfl (lv_at hl 3 rfl) ?_
              refine lv_aload_n hx hb dX6_wordAmong_54 rfl (lv_at hl 4 rfl) ?_
              refine lv_iload_n hx hb dX6_wordAmong_55 rfl (lv_at hl 1 rfl) ?_
              refine lv_iload hx hb dX6_wordAmong_56 (lv_at hl 0 rfl) ?_
              refine tk_Vi (As := [.ref (ld 6), .int v12, .int v11]) (rest := []) (ci := 6) ⟨hx, hb, hml, hown, hts⟩ hK hG hZ hS (k_X6_isToken_6 l D cy ld t a0 v12 v11 ht_a0 (by omega) (by omega) (by omega) (by omega)) trivial ⟨callB_of 3 hts (wl_in mw_570) rfl rfl rfl (htl _ mw_36) (htl _ mw_567) hd_yX6_isToken ⟨(Nat.le_of_ble_eq_true rfl), (Nat.le_of_ble_eq_true rfl)⟩, htl _ mw_568, htl _ mw_569⟩ ht_a0 (by decide) tk_no rfl (tk_w.pick [] rfl) rfl hl.1 rfl (Nat.le_of_ble_eq_true rfl) dX6_wordAmong_58 ⟨(Nat.le_of_ble_eq_true rfl), (Nat.le_of_ble_eq_true rfl)⟩ (fun v284 H locs hpo hG hS hq9 => ?_)
              have hf8 := hf8.call hq9 tk_w.nil
              obtain ⟨hpo286, hpo287, hpo288, hpo289⟩ := hpo
              refine lv_if_eq (tgt := 66) hx hb dX6_wordAmong_61 (by decide) (fun c9 => ?_) (fun c9 => ?_)
              · have hc290 : v284.toInt = 0 := (fi_eq rfl (show (0 : Int32).toInt = 0 by decide)).mp c9
                obtain ⟨v291, h_v291, e_v291⟩ := tk_inc v13 1 (by decide) (by omega) (by omega)
                refine lv_iinc (v := v291) (lv' := [(2, .int v291), (4, .int v11), (3, .int v12), (0, .ref a0), (1, .ref (ld 6))]) hx hb dX6_wordAmong_66 hl (k := 2) rfl e_v291 (by decide) rfl (fun ls hl => ?_)
                refine lv_iload hx hb dX6_wordAmong_69 (lv_at hl 1 rfl) ?_
                refine lv_iconst (v := 1) hx hb dX6_wordAmong_71 (by decide) ?_
                refine lv_iadd hx hb dX6_wordAmong_72 ?_
                refine tk_add rfl (show (1 : Int32).toInt = 1 by decide) (by omega) (by omega) (fun v292 h_v292 => ?_)
                refine lv_istore_n (lv' := [(3, .int v292), (2, .int v291), (4, .int v11), (0, .ref a0), (1, .ref (ld 6))]) hx hb dX6_wordAmong_73 rfl hl (by decide) rfl (fun ls hl => ?_)
                obtain ⟨v293, h_v293, e_v293⟩ := tk_inc v11 1 (by decide) (by omega) (by omega)
                refine lv_iinc (v := v293) (lv' := [(4, .int v293), (3, .int v292), (2, .int v291), (0, .ref a0), (1, .ref (ld 6))]) hx hb dX6_wordAmong_74 hl (k := 2) rfl e_v293 (by decide) rfl (fun ls hl => ?_)
                refine lv_goto (tgt := 24) hx hb dX6_wordAmong_77 (by decide) ?_
                exact ih_l275 v293 v292 v291 _ _ (by omega) (by omega) (by omega) (by omega) (by omega) hG hS hf8 _ (lv_sub hl [0, 1, 2, 3, 4] rfl)
              · have hc290 : ¬ (v284.toInt = 0) := fun h9 => c9 ((fi_eq rfl (show (0 : Int32).toInt = 0 by decide)).mpr h9)
                refine lv_iload_n hx hb dX6_wordAmong_64 rfl (lv_at hl 2 rfl) ?_
                exact tk_iret (v := v13) hx hb hr rfl hlocks (show (-1) ≤ v13.toInt ∧ v13.toInt ≤ 5 from ⟨(by omega), (by omega)⟩) hG hS dX6_wordAmong_65
            · have hc283 : ¬ (v11.toInt = 5) := fun h9 => c9 ((fi_eq rfl (show (5 : Int32).toInt = 5 by decide)).mpr h9)
              refine lv_aload_n hx hb dX6_wordAmong_42 rfl (lv_at hl 4 rfl) ?_
              refine lv_iload hx hb dX6_wordAmong_43 (lv_at hl 0 rfl) ?_
              refine tk_Ti (As := [.int v11]) (rest := []) (j := 6) ⟨hx, hb, hml, hown, hts⟩ hK hG hZ hS (k_J0_charAt_5068e_6 l D cy ld t v11 (by omega) (by omega)) trivial ⟨callB_of 1 hts (wl_in mw_533) rfl rfl rfl (htl _ mw_521) (htl _ mw_530) hd_yJ0_charAt_5068e ⟨(Nat.le_of_ble_eq_true rfl), (Nat.le_of_ble_eq_true rfl)⟩, htl _ mw_531, htl _ mw_532⟩ (by decide) (tk_w.pick [] rfl) rfl hl.1 rfl (Nat.le_of_ble_eq_true rfl) dX6_wordAmong_45 ⟨(Nat.le_of_ble_eq_true rfl), (Nat.le_of_ble_eq_true rfl)⟩ (fun v294 H locs hpo hG hS hq9 => ?_)
              have hf8 := hf8.call hq9 tk_w.nil
              obtain ⟨hpo296, hpo297⟩ := hpo
              refine lv_bipush (v := 32) hx hb dX6_wordAmong_48 (by decide) ?_
              refine lv_icmp_ne (tgt := 74) hx hb dX6_wordAmong_50 (by decide) (fun c9 => ?_) (fun c9 => ?_)
              · have hc298 : ¬ (v294.toInt = 32) := fun h9 => c9 ((fi_eq rfl (show (32 : Int32).toInt = 32 by decide)).mpr h9)
                obtain ⟨v299, h_v299, e_v299⟩ := tk_inc v11 1 (by decide) (by omega) (by omega)
                refine lv_iinc (v := v299) (lv' := [(4, .int v299), (3, .int v12), (2, .int v13), (0, .ref a0), (1, .ref (ld 6))]) hx hb dX6_wordAmong_74 hl (k := 0) rfl e_v299 (by decide) rfl (fun ls hl => ?_)
                refine lv_goto (tgt := 24) hx hb dX6_wordAmong_77 (by decide) ?_
                exact ih_l275 v299 v12 v13 _ _ (by omega) (by omega) (by omega) (by omega) (by omega) hG hS hf8 _ (lv_sub hl [0, 1, 2, 3, 4] rfl)
              · have hc298 : v294.toInt = 32 := (fi_eq rfl (show (32 : Int32).toInt = 32 by decide)).mp c9
                refine lv_aload_n hx hb dX6_wordAmong_53 rfl (lv_at hl 3 rfl) ?_
                refine lv_aload_n hx hb dX6_wordAmong_54 rfl (lv_at hl 4 rfl) ?_
                refine lv_iload_n hx hb dX6_wordAmong_55 rfl (lv_at hl 1 rfl) ?_
                refine lv_iload hx hb dX6_wordAmong_56 (lv_at hl 0 rfl) ?_
                refine tk_Vi (As := [.ref (ld 6), .int v12, .int v11]) (rest := []) (ci := 6) ⟨hx, hb, hml, hown, hts⟩ hK hG hZ hS (k_X6_isToken_6 l D cy ld t a0 v12 v11 ht_a0 (by omega) (by omega) (by omega) (by omega)) trivial ⟨callB_of 3 hts (wl_in mw_570) rfl rfl rfl (htl _ mw_36) (htl _ mw_567) hd_yX6_isToken ⟨(Nat.le_of_ble_eq_true rfl), (Nat.le_of_ble_eq_true rfl)⟩, htl _ mw_568, htl _ mw_569⟩ ht_a0 (by decide) tk_no rfl (tk_w.pick [] rfl) rfl hl.1 rfl (Nat.le_of_ble_eq_true rfl) dX6_wordAmong_58 ⟨(Nat.le_of_ble_eq_true rfl), (Nat.le_of_ble_eq_true rfl)⟩ (fun v300 H locs hpo hG hS hq9 => ?_)
                have hf8 := hf8.call hq9 tk_w.nil
                obtain ⟨hpo302, hpo303, hpo304, hpo305⟩ := hpo
                refine lv_if_eq (tgt := 66) hx hb dX6_wordAmong_61 (by decide) (fun c9 => ?_) (fun c9 => ?_)
                · have hc306 : v300.toInt = 0 := (fi_eq rfl (show (0 : Int32).toInt = 0 by decide)).mp c9
                  obtain ⟨v307, h_v307, e_v307⟩ := tk_inc v13 1 (by decide) (by omega) (by omega)
                  refine lv_iinc (v := v307) (lv' := [(2, .int v307), (4, .int v11), (3, .int v12), (0, .ref a0), (1, .ref (ld 6))]) hx hb dX6_wordAmong_66 hl (k := 2) rfl e_v307 (by decide) rfl (fun ls hl => ?_)
                  refine lv_iload hx hb dX6_wordAmong_69 (lv_at hl 1 rfl) ?_
                  refine lv_iconst (v := 1) hx hb dX6_wordAmong_71 (by decide) ?_
                  refine lv_iadd hx hb dX6_wordAmong_72 ?_
                  refine tk_add rfl (show (1 : Int32).toInt = 1 by decide) (by omega) (by omega) (fun v308 h_v308 => ?_)
                  refine lv_istore_n (lv' := [(3, .int v308), (2, .int v307), (4, .int v11), (0, .ref a0), (1, .ref (ld 6))]) hx hb dX6_wordAmong_73 rfl hl (by decide) rfl (fun ls hl => ?_)
                  obtain ⟨v309, h_v309, e_v309⟩ := tk_inc v11 1 (by decide) (by omega) (by omega)
                  refine lv_iinc (v := v309) (lv' := [(4, .int v309), (3, .int v308), (2, .int v307), (0, .ref a0), (1, .ref (ld 6))]) hx hb dX6_wordAmong_74 hl (k := 2) rfl e_v309 (by decide) rfl (fun ls hl => ?_)
                  refine lv_goto (tgt := 24) hx hb dX6_wordAmong_77 (by decide) ?_
                  exact ih_l275 v309 v308 v307 _ _ (by omega) (by omega) (by omega) (by omega) (by omega) hG hS hf8 _ (lv_sub hl [0, 1, 2, 3, 4] rfl)
                · have hc306 : ¬ (v300.toInt = 0) := fun h9 => c9 ((fi_eq rfl (show (0 : Int32).toInt = 0 by decide)).mpr h9)
                  refine lv_iload_n hx hb dX6_wordAmong_64 rfl (lv_at hl 2 rfl) ?_
                  exact tk_iret (v := v13) hx hb hr rfl hlocks (show (-1) ≤ v13.toInt ∧ v13.toInt ≤ 5 from ⟨(by omega), (by omega)⟩) hG hS dX6_wordAmong_65
      have hk_0 : (0 : Int32).toInt = 0 := by decide
      have hk_0 : (0 : Int32).toInt = 0 := by decide
      have hk_0 : (0 : Int32).toInt = 0 := by decide
      exact hl275 7 0 0 0 _ _ (by omega) (by omega) (by omega) (by omega) (by omega) hG hS hf8 _ (lv_sub hl [0, 1, 2, 3, 4] rfl)
    · have hc10 : ¬ (v9.toInt = 1) := fun h9 => c9 ((fi_eq rfl (show (1 : Int32).toInt = 1 by decide)).mpr h9)
      refine lv_iconst (v := (-1)) hx hb dX6_wordAmong_15 (by decide) ?_
      have hk_m1 : ((-1) : Int32).toInt = (-1) := by decide
      exact tk_iret (v := (-1)) hx hb hr rfl hlocks (show (-1) ≤ ((-1) : Int32).toInt ∧ ((-1) : Int32).toInt ≤ 5 from ⟨(by omega), (by omega)⟩) hG hS dX6_wordAmong_16
set_option maxHeartbeats 4000000 in
set_option maxRecDepth 100000 in
theorem k_X6_isWord_6 (l : Launch) (D : va_G) (cy : Nat → ClassId) (ld : Nat → Nat) (t : tk_T) (a0 : Nat) (ht_a0 : t a0 = (7, 0, 0)) : Met l yX6_isWord (wl yX6_isWord cX6_isWord 2 (some .boolean)) ({ frames := 9, cells := 0, slots := 0, locals := 560 }) (tp D cy ld t [] [.ref a0, .ref (ld 6)] (fun H => True)) (ti D cy ld t [] (fun r H => 0 ≤ r.toInt ∧ r.toInt ≤ 1 ∧ 0 ≤ r.toInt ∧ r.toInt ≤ 1) (tk_w t [])) 0 0 (tk_w t []) := by
  refine tk_met (y := yX6_isWord) (cc := cX6_isWord) (maxL := 2) (ret := (some .boolean)) (av := [.ref a0, .ref (ld 6)]) _ _ (by decide) (Nat.le_of_ble_eq_true rfl) ?_
  intro p e s m args below meth c hx hb hr hml hts htl hown hlocks hK H locs hH hG hS hB hZ ls hl
  have hown : s.vm.findClass RX6 = some m.cls := hown
  have hl : lv_has ls 2 [(0, .ref a0), (1, .ref (ld 6))] := hl
  refine lv_aload_n hx hb dX6_isWord_0 rfl (lv_at hl 0 rfl) ?_
  refine lv_aload_n hx hb dX6_isWord_1 rfl (lv_at hl 1 rfl) ?_
  refine tk_Vi (As := [.ref (ld 6)]) (rest := []) (ci := 6) ⟨hx, hb, hml, hown, hts⟩ hK hG hZ hS (k_X6_wordAmong_6 l D cy ld t a0 ht_a0) trivial ⟨callB_of 1 hts (wl_in mw_517) rfl rfl rfl (htl _ mw_36) (htl _ mw_514) hd_yX6_wordAmong ⟨(Nat.le_of_ble_eq_true rfl), (Nat.le_of_ble_eq_true rfl)⟩, htl _ mw_515, htl _ mw_516⟩ ht_a0 (by decide) tk_no rfl (tk_w.pick [] rfl) rfl hl.1 rfl (Nat.le_of_ble_eq_true rfl) dX6_isWord_2 ⟨(Nat.le_of_ble_eq_true rfl), (Nat.le_of_ble_eq_true rfl)⟩ (fun v1 H locs hpo hG hS hq9 => ?_)
  obtain ⟨hpo3, hpo4⟩ := hpo
  refine lv_if_ne (tgt := 12) hx hb dX6_isWord_5 (by decide) (fun c9 => ?_) (fun c9 => ?_)
  · have hc5 : ¬ (v1.toInt = 0) := fun h9 => c9 ((fi_eq rfl (show (0 : Int32).toInt = 0 by decide)).mpr h9)
    refine lv_iconst (v := 0) hx hb dX6_isWord_12 (by decide) ?_
    have hk_0 : (0 : Int32).toInt = 0 := by decide
    exact tk_iret (v := 0) hx hb hr rfl hlocks (show 0 ≤ (0 : Int32).toInt ∧ (0 : Int32).toInt ≤ 1 ∧ 0 ≤ (0 : Int32).toInt ∧ (0 : Int32).toInt ≤ 1 from ⟨(by omega), (by omega), (by omega), (by omega)⟩) hG hS dX6_isWord_13
  · have hc5 : v1.toInt = 0 := (fi_eq rfl (show (0 : Int32).toInt = 0 by decide)).mp c9
    refine lv_iconst (v := 1) hx hb dX6_isWord_8 (by decide) ?_
    refine lv_goto (tgt := 13) hx hb dX6_isWord_9 (by decide) ?_
    have hk_1 : (1 : Int32).toInt = 1 := by decide
    exact tk_iret (v := 1) hx hb hr rfl hlocks (show 0 ≤ (1 : Int32).toInt ∧ (1 : Int32).toInt ≤ 1 ∧ 0 ≤ (1 : Int32).toInt ∧ (1 : Int32).toInt ≤ 1 from ⟨(by omega), (by omega), (by omega), (by omega)⟩) hG hS dX6_isWord_13
theorem dX6_readTimes_0 : decode cX6_readTimes 0 = .ok (.aload_n 0, 1) := by decide +kernel
theorem dX6_readTimes_1 : decode cX6_readTimes 1 = .ok (.ldc 143, 2) := by decide +kernel
theorem dX6_readTimes_3 : decode cX6_readTimes 3 = .ok (.invokevirtual 104, 3) := by decide +kernel
theorem dX6_readTimes_6 : decode cX6_readTimes 6 = .ok (.ifCond .ne 4, 3) := by decide +kernel
theorem dX6_readTimes_10 : decode cX6_readTimes 10 = .ok (.aload_n 0, 1) := by decide +kernel
theorem dX6_readTimes_11 : decode cX6_readTimes 11 = .ok (.invokevirtual 53, 3) := by decide +kernel
theorem dX6_readTimes_14 : decode cX6_readTimes 14 = .ok (.aload_n 0, 1) := by decide +kernel
theorem dX6_readTimes_15 : decode cX6_readTimes 15 = .ok (.getfield 67, 3) := by decide +kernel
theorem dX6_readTimes_18 : decode cX6_readTimes 18 = .ok (.iconst 2, 1) := by decide +kernel
theorem dX6_readTimes_19 : decode cX6_readTimes 19 = .ok (.if_icmp .ne 16, 3) := by decide +kernel
theorem dX6_readTimes_35 : decode cX6_readTimes 35 = .ok (.aload_n 0, 1) := by decide +kernel
theorem dX6_readTimes_36 : decode cX6_readTimes 36 = .ok (.invokevirtual 60, 3) := by decide +kernel
theorem dX6_readTimes_39 : decode cX6_readTimes 39 = .ok (.return_, 1) := by decide +kernel
theorem dX6_readTimes_22 : decode cX6_readTimes 22 = .ok (.aload_n 0, 1) := by decide +kernel
theorem dX6_readTimes_23 : decode cX6_readTimes 23 = .ok (.getfield 80, 3) := by decide +kernel
theorem dX6_readTimes_26 : decode cX6_readTimes 26 = .ok (.iconst 1, 1) := by decide +kernel
theorem dX6_readTimes_27 : decode cX6_readTimes 27 = .ok (.bipush 20, 2) := by decide +kernel
theorem dX6_readTimes_29 : decode cX6_readTimes 29 = .ok (.invokestatic 145, 3) := by decide +kernel
theorem dX6_readTimes_32 : decode cX6_readTimes 32 = .ok (.ifCond .ne 8, 3) := by decide +kernel
theorem dX6_readTimes_40 : decode cX6_readTimes 40 = .ok (.aload_n 0, 1) := by decide +kernel
theorem dX6_readTimes_41 : decode cX6_readTimes 41 = .ok (.getfield 16, 3) := by decide +kernel
theorem dX6_readTimes_44 : decode cX6_readTimes 44 = .ok (.getfield 149, 3) := by decide +kernel
theorem dX6_readTimes_47 : decode cX6_readTimes 47 = .ok (.iload_n 1, 1) := by decide +kernel
theorem dX6_readTimes_48 : decode cX6_readTimes 48 = .ok (.aload_n 0, 1) := by decide +kernel
theorem dX6_readTimes_49 : decode cX6_readTimes 49 = .ok (.getfield 80, 3) := by decide +kernel
theorem dX6_readTimes_52 : decode cX6_readTimes 52 = .ok (.iastore, 1) := by decide +kernel
theorem dX6_readTimes_53 : decode cX6_readTimes 53 = .ok (.aload_n 0, 1) := by decide +kernel
theorem dX6_readTimes_54 : decode cX6_readTimes 54 = .ok (.invokevirtual 53, 3) := by decide +kernel
theorem dX6_readTimes_57 : decode cX6_readTimes 57 = .ok (.return_, 1) := by decide +kernel
theorem dX6_readTimes_9 : decode cX6_readTimes 9 = .ok (.return_, 1) := by decide +kernel
set_option maxHeartbeats 4000000 in
set_option maxRecDepth 100000 in
theorem k_X6_readTimes (l : Launch) (D : va_G) (cy : Nat → ClassId) (ld : Nat → Nat) (t : tk_T) (a0 : Nat) (p1 : Int32) (g9 : Int32) (ht_a0 : t a0 = (7, 0, 0)) (hp_0 : 0 ≤ p1.toInt) (hp_1 : p1.toInt ≤ 11) (hp_2 : 0 ≤ g9.toInt) (hp_3 : g9.toInt ≤ 8) : Met l yX6_readTimes (wl yX6_readTimes cX6_readTimes 2 none) ({ frames := 10, cells := 0, slots := 0, locals := 630 }) (tp D cy ld t [] [.ref a0, .int p1] (fun H => tk_f D H a0 6 9 (.int g9))) (tv D cy ld t [] (fun H => tk_f D H a0 6 9 (.int g9)) (tk_w t [(7, 0, 0), (23, 0, 0)])) 0 0 (tk_w t [(7, 0, 0), (23, 0, 0)]) := by
  refine tk_met (y := yX6_readTimes) (cc := cX6_readTimes) (maxL := 2) (ret := none) (av := [.ref a0, .int p1]) _ _ (by decide) (Nat.le_of_ble_eq_true rfl) ?_
  intro p e s m args below meth c hx hb hr hml hts htl hown hlocks hK H locs hH hG hS hB hZ ls hl
  have hown : s.vm.findClass RX6 = some m.cls := hown
  have hl : lv_has ls 2 [(0, .ref a0), (1, .int p1)] := hl
  have hg_0 := hB
  have hr_p1 := tk_rng p1
  refine lv_aload_n hx hb dX6_readTimes_0 rfl (lv_at hl 0 rfl) ?_
  refine va_ldcS hx hb hown hK.2.2.2.2.2.2.2.2.2.2.1 dX6_readTimes_1 ?_
  refine tk_Vi (As := [.ref (ld 6)]) (rest := []) (ci := 6) ⟨hx, hb, hml, hown, hts⟩ hK hG hZ hS (k_X6_isWord_6 l D cy ld t a0 ht_a0) trivial ⟨callB_of 1 hts (wl_in mw_626) rfl rfl rfl (htl _ mw_36) (htl _ mw_623) hd_yX6_isWord ⟨(Nat.le_of_ble_eq_true rfl), (Nat.le_of_ble_eq_true rfl)⟩, htl _ mw_624, htl _ mw_625⟩ ht_a0 (by decide) tk_no rfl (tk_w.pick [] rfl) rfl hl.1 rfl (Nat.le_of_ble_eq_true rfl) dX6_readTimes_3 ⟨(Nat.le_of_ble_eq_true rfl), (Nat.le_of_ble_eq_true rfl)⟩ (fun v1 H locs hpo hG hS hq9 => ?_)
  have hg_0 := hg_0.call hq9 tk_w.nil
  obtain ⟨hpo3, hpo4, hpo5, hpo6⟩ := hpo
  refine lv_if_ne (tgt := 10) hx hb dX6_readTimes_6 (by decide) (fun c9 => ?_) (fun c9 => ?_)
  · have hc7 : ¬ (v1.toInt = 0) := fun h9 => c9 ((fi_eq rfl (show (0 : Int32).toInt = 0 by decide)).mpr h9)
    refine lv_aload_n hx hb dX6_readTimes_10 rfl (lv_at hl 0 rfl) ?_
    refine tk_Vv (As := []) (rest := []) (ci := 6) ⟨hx, hb, hml, hown, hts⟩ hK hG hZ hS (k_X6_step l D cy ld t a0 g9 ht_a0 (by omega) (by omega)) hg_0 ⟨callB_of 0 hts (wl_in mw_494) rfl rfl rfl (htl _ mw_36) (htl _ mw_491) hd_yX6_step ⟨(Nat.le_of_ble_eq_true rfl), (Nat.le_of_ble_eq_true rfl)⟩, htl _ mw_492, htl _ mw_493⟩ ht_a0 (by decide) tk_no rfl (tk_w.pick [0] rfl) rfl hl.1 rfl (Nat.le_of_ble_eq_true rfl) dX6_readTimes_11 ⟨(Nat.le_of_ble_eq_true rfl), (Nat.le_of_ble_eq_true rfl)⟩ (fun H locs hpo hG hS hq9 => ?_)
    have hf9 := hpo
    refine lv_aload_n hx hb dX6_readTimes_14 rfl (lv_at hl 0 rfl) ?_
    refine tk_get (ci := 6) (C := RX6) (T := TX6) (N := 11) (sp := (0, (-2147483648), 2147483647, 0)) hx hb htl inX6 hown hK hG ht_a0 (by decide) tk_no rfl 6 (by decide) (htl _ mw_482) (fun _ h9 => h9) rfl dX6_readTimes_15 (fun v9 hf10 hV9 => ?_)
    obtain ⟨v11, rfl, (ha_v11 : (-2147483648) ≤ v11.toInt), (hb_v11 : v11.toInt ≤ 2147483647)⟩ := hV9
    refine lv_iconst (v := 2) hx hb dX6_readTimes_18 (by decide) ?_
    refine lv_icmp_ne (tgt := 35) hx hb dX6_readTimes_19 (by decide) (fun c9 => ?_) (fun c9 => ?_)
    · have hc12 : ¬ (v11.toInt = 2) := fun h9 => c9 ((fi_eq rfl (show (2 : Int32).toInt = 2 by decide)).mpr h9)
      refine lv_aload_n hx hb dX6_readTimes_35 rfl (lv_at hl 0 rfl) ?_
      refine tk_Vv (As := []) (rest := []) (ci := 6) ⟨hx, hb, hml, hown, hts⟩ hK hG hZ hS (k_X6_fail l D cy ld t a0 g9 ht_a0 (by omega) (by omega)) hf9 ⟨callB_of 0 hts (wl_in mw_507) rfl rfl rfl (htl _ mw_36) (htl _ mw_504) hd_yX6_fail ⟨(Nat.le_of_ble_eq_true rfl), (Nat.le_of_ble_eq_true rfl)⟩, htl _ mw_505, htl _ mw_506⟩ ht_a0 (by decide) tk_no rfl (tk_w.pick [0] rfl) rfl hl.1 rfl (Nat.le_of_ble_eq_true rfl) dX6_readTimes_36 ⟨(Nat.le_of_ble_eq_true rfl), (Nat.le_of_ble_eq_true rfl)⟩ (fun H locs hpo hG hS hq9 => ?_)
      have hf14 := hpo
      exact tk_vret hx hb hr hlocks (show tk_f D H a0 6 9 (.int g9) from hf14) hG hS dX6_readTimes_39
    · have hc12 : v11.toInt = 2 := (fi_eq rfl (show (2 : Int32).toInt = 2 by decide)).mp c9
      refine lv_aload_n hx hb dX6_readTimes_22 rfl (lv_at hl 0 rfl) ?_
      refine tk_get (ci := 6) (C := RX6) (T := TX6) (N := 11) (sp := (0, (-2147483648), 2147483647, 0)) hx hb htl inX6 hown hK hG ht_a0 (by decide) tk_no rfl 7 (by decide) (htl _ mw_496) (fun _ h9 => h9) rfl dX6_readTimes_23 (fun v9 hf15 hV9 => ?_)
      obtain ⟨v16, rfl, (ha_v16 : (-2147483648) ≤ v16.toInt), (hb_v16 : v16.toInt ≤ 2147483647)⟩ := hV9
      refine lv_iconst (v := 1) hx hb dX6_readTimes_26 (by decide) ?_
      refine lv_bipush (v := 20) hx hb dX6_readTimes_27 (by decide) ?_
      have hk_1 : (1 : Int32).toInt = 1 := by decide
      have hk_20 : (20 : Int32).toInt = 20 := by decide
      refine tk_Ni (As := [.int v16, .int 1, .int 20]) (rest := []) ⟨hx, hb, hml, hown, hts⟩ hK hG hZ hS (k_X12_within l D cy ld t _ v16 1 20) trivial ⟨va_cnB 3 hts (wl_in mw_262) rfl rfl rfl hK.2.2.2.1.2.2.2 (htl _ mw_2) hd_yX12_within ⟨(Nat.le_of_ble_eq_true rfl), (Nat.le_of_ble_eq_true rfl)⟩, htl _ mw_261, trivial⟩ (tk_w.pick [] rfl) rfl hl.1 rfl (Nat.le_of_ble_eq_true rfl) dX6_readTimes_29 ⟨(Nat.le_of_ble_eq_true rfl), (Nat.le_of_ble_eq_true rfl)⟩ (fun v17 H locs hpo hG hS hq9 => ?_)
      have hf9 := hf9.call hq9 tk_w.nil
      have hf10 := hf10.call hq9 tk_w.nil
      have hf15 := hf15.call hq9 tk_w.nil
      obtain ⟨hpo19, hpo20, hpo21, hpo22, hpo23⟩ := hpo
      refine lv_if_ne (tgt := 40) hx hb dX6_readTimes_32 (by decide) (fun c9 => ?_) (fun c9 => ?_)
      · have hc24 : ¬ (v17.toInt = 0) := fun h9 => c9 ((fi_eq rfl (show (0 : Int32).toInt = 0 by decide)).mpr h9)
        refine lv_aload_n hx hb dX6_readTimes_40 rfl (lv_at hl 0 rfl) ?_
        refine tk_get (ci := 6) (C := RX6) (T := TX6) (N := 11) (sp := (6, 8, 512, 12)) hx hb htl inX6 hown hK hG ht_a0 (by decide) tk_no rfl 0 (by decide) (htl _ mw_132) (fun _ h9 => h9) rfl dX6_readTimes_41 (fun v9 hf25 hV9 => ?_)
        obtain ⟨b26, rfl, ht_b26⟩ := hV9
        have ht_b26 : t b26 = (8, 512, 12) := ht_b26
        refine tk_get (ci := 7) (C := RX7) (T := TX7) (N := 10) (sp := (3, 23, 1, 0)) hx hb htl inX7 hown hK hG ht_b26 (by decide) tk_no rfl 3 (by decide) (htl _ mw_631) (fun _ h9 => h9) rfl dX6_readTimes_44 (fun v9 hf27 hV9 => ?_)
        obtain ⟨b28, rfl, ht_b28⟩ := hV9
        have ht_b28 : t b28 = (23, 12, 0) := ht_b28
        refine lv_iload_n hx hb dX6_readTimes_47 rfl (lv_at hl 1 rfl) ?_
        refine lv_aload_n hx hb dX6_readTimes_48 rfl (lv_at hl 0 rfl) ?_
        refine tk_getk (ci := 6) (C := RX6) (T := TX6) (N := 11) (sp := (0, (-2147483648), 2147483647, 0)) hx hb htl inX6 hown hK hG ht_a0 (by decide) tk_no rfl 7 (by decide) (htl _ mw_496) (fun _ h9 => h9) rfl hf15 dX6_readTimes_49 ?_
        refine tk_iast hx hb hK hG hS ht_b28 (by decide) (fun _ => Iff.rfl) tk_no rfl (by omega) (by omega) (show 0 ≤ (v16 : Int32).toInt ∧ (v16 : Int32).toInt ≤ 20 from ⟨by omega, by omega⟩) (tk_w.of ht_b28 (by decide) (List.mem_of_getElem? (i := 1) rfl) (Nat.le_refl _) (Nat.le_refl _)) dX6_readTimes_52 (fun H locs hG hS hq9 => ?_)
        have hf9 := hf9.kept (hq9 _ (tk_ne ht_a0 ht_b28 (Or.inl (by decide))))
        have hf10 := hf10.kept (hq9 _ (tk_ne ht_a0 ht_b28 (Or.inl (by decide))))
        have hf15 := hf15.kept (hq9 _ (tk_ne ht_a0 ht_b28 (Or.inl (by decide))))
        refine lv_aload_n hx hb dX6_readTimes_53 rfl (lv_at hl 0 rfl) ?_
        refine tk_Vv (As := []) (rest := []) (ci := 6) ⟨hx, hb, hml, hown, hts⟩ hK hG hZ hS (k_X6_step l D cy ld t a0 g9 ht_a0 (by omega) (by omega)) hf9 ⟨callB_of 0 hts (wl_in mw_494) rfl rfl rfl (htl _ mw_36) (htl _ mw_491) hd_yX6_step ⟨(Nat.le_of_ble_eq_true rfl), (Nat.le_of_ble_eq_true rfl)⟩, htl _ mw_492, htl _ mw_493⟩ ht_a0 (by decide) tk_no rfl (tk_w.pick [0] rfl) rfl hl.1 rfl (Nat.le_of_ble_eq_true rfl) dX6_readTimes_54 ⟨(Nat.le_of_ble_eq_true rfl), (Nat.le_of_ble_eq_true rfl)⟩ (fun H locs hpo hG hS hq9 => ?_)
        have hf31 := hpo
        exact tk_vret hx hb hr hlocks (show tk_f D H a0 6 9 (.int g9) from hf31) hG hS dX6_readTimes_57
      · have hc24 : v17.toInt = 0 := (fi_eq rfl (show (0 : Int32).toInt = 0 by decide)).mp c9
        refine lv_aload_n hx hb dX6_readTimes_35 rfl (lv_at hl 0 rfl) ?_
        refine tk_Vv (As := []) (rest := []) (ci := 6) ⟨hx, hb, hml, hown, hts⟩ hK hG hZ hS (k_X6_fail l D cy ld t a0 g9 ht_a0 (by omega) (by omega)) hf9 ⟨callB_of 0 hts (wl_in mw_507) rfl rfl rfl (htl _ mw_36) (htl _ mw_504) hd_yX6_fail ⟨(Nat.le_of_ble_eq_true rfl), (Nat.le_of_ble_eq_true rfl)⟩, htl _ mw_505, htl _ mw_506⟩ ht_a0 (by decide) tk_no rfl (tk_w.pick [0] rfl) rfl hl.1 rfl (Nat.le_of_ble_eq_true rfl) dX6_readTimes_36 ⟨(Nat.le_of_ble_eq_true rfl), (Nat.le_of_ble_eq_true rfl)⟩ (fun H locs hpo hG hS hq9 => ?_)
        have hf33 := hpo
        exact tk_vret hx hb hr hlocks (show tk_f D H a0 6 9 (.int g9) from hf33) hG hS dX6_readTimes_39
  · have hc7 : v1.toInt = 0 := (fi_eq rfl (show (0 : Int32).toInt = 0 by decide)).mp c9
    exact tk_vret hx hb hr hlocks (show tk_f D H a0 6 9 (.int g9) from hg_0) hG hS dX6_readTimes_9
theorem dX6_readWholeSum_0 : decode cX6_readWholeSum 0 = .ok (.aload_n 0, 1) := by decide +kernel
theorem dX6_readWholeSum_1 : decode cX6_readWholeSum 1 = .ok (.getfield 16, 3) := by decide +kernel
theorem dX6_readWholeSum_4 : decode cX6_readWholeSum 4 = .ok (.getfield 151, 3) := by decide +kernel
theorem dX6_readWholeSum_7 : decode cX6_readWholeSum 7 = .ok (.iload_n 1, 1) := by decide +kernel
theorem dX6_readWholeSum_8 : decode cX6_readWholeSum 8 = .ok (.iconst 3, 1) := by decide +kernel
theorem dX6_readWholeSum_9 : decode cX6_readWholeSum 9 = .ok (.imul, 1) := by decide +kernel
theorem dX6_readWholeSum_10 : decode cX6_readWholeSum 10 = .ok (.iload_n 2, 1) := by decide +kernel
theorem dX6_readWholeSum_11 : decode cX6_readWholeSum 11 = .ok (.iadd, 1) := by decide +kernel
theorem dX6_readWholeSum_12 : decode cX6_readWholeSum 12 = .ok (.aload_n 0, 1) := by decide +kernel
theorem dX6_readWholeSum_13 : decode cX6_readWholeSum 13 = .ok (.getfield 16, 3) := by decide +kernel
theorem dX6_readWholeSum_16 : decode cX6_readWholeSum 16 = .ok (.getfield 136, 3) := by decide +kernel
theorem dX6_readWholeSum_19 : decode cX6_readWholeSum 19 = .ok (.iastore, 1) := by decide +kernel
theorem dX6_readWholeSum_20 : decode cX6_readWholeSum 20 = .ok (.aload_n 0, 1) := by decide +kernel
theorem dX6_readWholeSum_21 : decode cX6_readWholeSum 21 = .ok (.invokevirtual 154, 3) := by decide +kernel
theorem dX6_readWholeSum_24 : decode cX6_readWholeSum 24 = .ok (.aload_n 0, 1) := by decide +kernel
theorem dX6_readWholeSum_25 : decode cX6_readWholeSum 25 = .ok (.getfield 16, 3) := by decide +kernel
theorem dX6_readWholeSum_28 : decode cX6_readWholeSum 28 = .ok (.iconst 0, 1) := by decide +kernel
theorem dX6_readWholeSum_29 : decode cX6_readWholeSum 29 = .ok (.iconst 0, 1) := by decide +kernel
theorem dX6_readWholeSum_30 : decode cX6_readWholeSum 30 = .ok (.invokevirtual 140, 3) := by decide +kernel
theorem dX6_readWholeSum_33 : decode cX6_readWholeSum 33 = .ok (.return_, 1) := by decide +kernel
set_option maxHeartbeats 4000000 in
set_option maxRecDepth 100000 in
theorem k_X6_readWholeSum_0 (l : Launch) (D : va_G) (cy : Nat → ClassId) (ld : Nat → Nat) (t : tk_T) (a0 : Nat) (p1 : Int32) (p2 : Int32) (ht_a0 : t a0 = (7, 0, 0)) (hp_0 : 0 ≤ p1.toInt) (hp_1 : p1.toInt ≤ 11) (hp_2 : 0 ≤ p2.toInt) (hp_3 : p2.toInt ≤ 2) : Met l yX6_readWholeSum (wl yX6_readWholeSum cX6_readWholeSum 3 none) ({ frames := 36, cells := 0, slots := 0, locals := 2450 }) (tp D cy ld t [] [.ref a0, .int p1, .int p2] (fun H => tk_f D H a0 6 9 (.int 0))) (tv D cy ld t [] (fun H => tk_f D H a0 6 9 (.int 0)) (tk_w t [(20, 0, 0), (7, 0, 0), (8, 12, 12)])) 0 0 (tk_w t [(20, 0, 0), (7, 0, 0), (8, 12, 12)]) := by
  refine tk_met (y := yX6_readWholeSum) (cc := cX6_readWholeSum) (maxL := 3) (ret := none) (av := [.ref a0, .int p1, .int p2]) _ _ (by decide) (Nat.le_of_ble_eq_true rfl) ?_
  intro p e s m args below meth c hx hb hr hml hts htl hown hlocks hK H locs hH hG hS hB hZ ls hl
  have hown : s.vm.findClass RX6 = some m.cls := hown
  have hl : lv_has ls 3 [(0, .ref a0), (1, .int p1), (2, .int p2)] := hl
  have hg_0 := hB
  have hr_p1 := tk_rng p1
  have hr_p2 := tk_rng p2
  refine lv_aload_n hx hb dX6_readWholeSum_0 rfl (lv_at hl 0 rfl) ?_
  refine tk_get (ci := 6) (C := RX6) (T := TX6) (N := 11) (sp := (6, 8, 512, 12)) hx hb htl inX6 hown hK hG ht_a0 (by decide) tk_no rfl 0 (by decide) (htl _ mw_132) (fun _ h9 => h9) rfl dX6_readWholeSum_1 (fun v9 hf1 hV9 => ?_)
  obtain ⟨b2, rfl, ht_b2⟩ := hV9
  have ht_b2 : t b2 = (8, 512, 12) := ht_b2
  refine tk_get (ci := 7) (C := RX7) (T := TX7) (N := 10) (sp := (3, 20, 3, 0)) hx hb htl inX7 hown hK hG ht_b2 (by decide) tk_no rfl 5 (by decide) (htl _ mw_579) (fun _ h9 => h9) rfl dX6_readWholeSum_4 (fun v9 hf3 hV9 => ?_)
  obtain ⟨b4, rfl, ht_b4⟩ := hV9
  have ht_b4 : t b4 = (20, 36, 0) := ht_b4
  refine lv_iload_n hx hb dX6_readWholeSum_7 rfl (lv_at hl 1 rfl) ?_
  refine lv_iconst (v := 3) hx hb dX6_readWholeSum_8 (by decide) ?_
  refine lv_imul hx hb dX6_readWholeSum_9 ?_
  refine tk_mul rfl (show (3 : Int32).toInt = 3 by decide) (by omega) (by omega) (fun v5 h_v5 => ?_)
  refine lv_iload_n hx hb dX6_readWholeSum_10 rfl (lv_at hl 2 rfl) ?_
  refine lv_iadd hx hb dX6_readWholeSum_11 ?_
  refine tk_add rfl rfl (by omega) (by omega) (fun v6 h_v6 => ?_)
  refine lv_aload_n hx hb dX6_readWholeSum_12 rfl (lv_at hl 0 rfl) ?_
  refine tk_get (ci := 6) (C := RX6) (T := TX6) (N := 11) (sp := (6, 8, 512, 12)) hx hb htl inX6 hown hK hG ht_a0 (by decide) tk_no rfl 0 (by decide) (htl _ mw_132) (fun _ h9 => h9) rfl dX6_readWholeSum_13 (fun v9 hf7 hV9 => ?_)
  obtain ⟨b8, rfl, ht_b8⟩ := hV9
  have ht_b8 : t b8 = (8, 512, 12) := ht_b8
  refine tk_get (ci := 7) (C := RX7) (T := TX7) (N := 10) (sp := (4, 0, 0, 0)) hx hb htl inX7 hown hK hG ht_b8 (by decide) tk_no rfl 6 (by decide) (htl _ mw_513) (fun _ h9 => h9) rfl dX6_readWholeSum_16 (fun v9 hf9 hV9 => ?_)
  obtain ⟨v10, rfl, (ha_v10 : 0 ≤ v10.toInt), (hb_v10 : v10.toInt ≤ 512)⟩ := hV9
  refine tk_iast hx hb hK hG hS ht_b4 (by decide) (fun _ => Iff.rfl) tk_no rfl (by omega) (by omega) trivial (tk_w.of ht_b4 (by decide) (List.mem_of_getElem? (i := 0) rfl) (Nat.le_refl _) (Nat.le_refl _)) dX6_readWholeSum_19 (fun H locs hG hS hq9 => ?_)
  have hg_0 := hg_0.kept (hq9 _ (tk_ne ht_a0 ht_b4 (Or.inl (by decide))))
  have hf9 := hf9.kept (hq9 _ (tk_ne ht_b8 ht_b4 (Or.inl (by decide))))
  refine lv_aload_n hx hb dX6_readWholeSum_20 rfl (lv_at hl 0 rfl) ?_
  refine tk_Vv (As := []) (rest := []) (ci := 6) ⟨hx, hb, hml, hown, hts⟩ hK hG hZ hS (k_X6_readSum_0 l D cy ld t a0 ht_a0) hg_0 ⟨callB_of 0 hts (wl_in mw_583) rfl rfl rfl (htl _ mw_36) (htl _ mw_580) hd_yX6_readSum ⟨(Nat.le_of_ble_eq_true rfl), (Nat.le_of_ble_eq_true rfl)⟩, htl _ mw_581, htl _ mw_582⟩ ht_a0 (by decide) tk_no rfl (tk_w.pick [1, 0, 2] rfl) rfl hl.1 rfl (Nat.le_of_ble_eq_true rfl) dX6_readWholeSum_21 ⟨(Nat.le_of_ble_eq_true rfl), (Nat.le_of_ble_eq_true rfl)⟩ (fun H locs hpo hG hS hq9 => ?_)
  have hf13 := hpo
  refine lv_aload_n hx hb dX6_readWholeSum_24 rfl (lv_at hl 0 rfl) ?_
  refine tk_get (ci := 6) (C := RX6) (T := TX6) (N := 11) (sp := (6, 8, 512, 12)) hx hb htl inX6 hown hK hG ht_a0 (by decide) tk_no rfl 0 (by decide) (htl _ mw_132) (fun _ h9 => h9) rfl dX6_readWholeSum_25 (fun v9 hf14 hV9 => ?_)
  obtain ⟨b15, rfl, ht_b15⟩ := hV9
  have ht_b15 : t b15 = (8, 512, 12) := ht_b15
  refine lv_iconst (v := 0) hx hb dX6_readWholeSum_28 (by decide) ?_
  refine lv_iconst (v := 0) hx hb dX6_readWholeSum_29 (by decide) ?_
  have hk_0 : (0 : Int32).toInt = 0 := by decide
  have hk_0 : (0 : Int32).toInt = 0 := by decide
  refine tk_Vv (As := [.int 0, .int 0]) (rest := []) (ci := 7) ⟨hx, hb, hml, hown, hts⟩ hK hG hZ hS (k_X7_put l D cy ld t b15 0 0 ht_b15) trivial ⟨callB_of 2 hts (wl_in mw_594) rfl rfl rfl (htl _ mw_131) (htl _ mw_591) hd_yX7_put ⟨(Nat.le_of_ble_eq_true rfl), (Nat.le_of_ble_eq_true rfl)⟩, htl _ mw_592, htl _ mw_593⟩ ht_b15 (by decide) tk_no rfl (tk_w.pick [0, 2] rfl) rfl hl.1 rfl (Nat.le_of_ble_eq_true rfl) dX6_readWholeSum_30 ⟨(Nat.le_of_ble_eq_true rfl), (Nat.le_of_ble_eq_true rfl)⟩ (fun H locs hpo hG hS hq9 => ?_)
  have hf13 := hf13.call hq9 (tk_w.no ht_a0 (by decide))
  exact tk_vret hx hb hr hlocks (show tk_f D H a0 6 9 (.int 0) from hf13) hG hS dX6_readWholeSum_33
set_option maxHeartbeats 4000000 in
set_option maxRecDepth 100000 in
theorem k_J0_isLatin1_aae02_4 (l : Launch) (D : va_G) (cy : Nat → ClassId) (ld : Nat → Nat) (t : tk_T) : Met l yJ0_isLatin1_aae02 (wl yJ0_isLatin1_aae02 cJ0_isLatin1_aae02 1 (some .boolean)) ({ frames := 3, cells := 0, slots := 0, locals := 140 }) (tp D cy ld t [] [.ref (ld 4)] (fun H => True)) (ti D cy ld t [] (fun r H => r.toInt + (-1) = 0 ∧ 0 ≤ r.toInt ∧ r.toInt ≤ 1) (tk_w t [])) 0 0 (tk_w t []) := by
  refine tk_met (y := yJ0_isLatin1_aae02) (cc := cJ0_isLatin1_aae02) (maxL := 1) (ret := (some .boolean)) (av := [.ref (ld 4)]) _ _ (by decide) (Nat.le_of_ble_eq_true rfl) ?_
  intro p e s m args below meth c hx hb hr hml hts htl hown hlocks hK H locs hH hG hS hB hZ ls hl
  have hown : s.vm.findClass RJ0 = some m.cls := hown
  have hl : lv_has ls 1 [(0, .ref (ld 4))] := hl
  refine va_gets hx hb (hZ.2.1.narrow (fun _ h => h.1)) hS hown (htl _ mw_528) (fun _ h9 => h9) dJ0_isLatin1_aae02_0 ?_
  refine lv_if_eq (tgt := 17) hx hb dJ0_isLatin1_aae02_3 (by decide) (fun c9 => absurd c9 (by decide)) (fun _ => ?_)
  refine lv_aload_n hx hb dJ0_isLatin1_aae02_6 rfl (lv_at hl 0 rfl) ?_
  refine vk_getf hx hb ((hZ.1.1 4 (by decide)).2.1.narrow (fun _ h => h.1)) hS hown (htl _ mw_529) (fun _ h9 => h9) dJ0_isLatin1_aae02_7 ?_
  refine lv_if_ne (tgt := 17) hx hb dJ0_isLatin1_aae02_10 (by decide) (fun c9 => absurd (by decide) c9) (fun _ => ?_)
  refine lv_iconst (v := 1) hx hb dJ0_isLatin1_aae02_13 (by decide) ?_
  refine lv_goto (tgt := 18) hx hb dJ0_isLatin1_aae02_14 (by decide) ?_
  have hk_1 : (1 : Int32).toInt = 1 := by decide
  exact tk_iret (v := 1) hx hb hr rfl hlocks (show (1 : Int32).toInt + (-1) = 0 ∧ 0 ≤ (1 : Int32).toInt ∧ (1 : Int32).toInt ≤ 1 from ⟨(by omega), (by omega), (by omega)⟩) hG hS dJ0_isLatin1_aae02_18
set_option maxHeartbeats 4000000 in
set_option maxRecDepth 100000 in
theorem k_J1_charAt_3b067_4 (l : Launch) (D : va_G) (cy : Nat → ClassId) (ld : Nat → Nat) (t : tk_T) (p1 : Int32) (hp_0 : 0 ≤ p1.toInt) (hp_1 : p1.toInt ≤ 3) : Met l yJ1_charAt_3b067 (wl yJ1_charAt_3b067 cJ1_charAt_3b067 2 (some .char)) ({ frames := 5, cells := 0, slots := 0, locals := 280 }) (tp D cy ld t [] [.ref (ld 54), .int p1] (fun H => True)) (ti D cy ld t [] (fun r H => 0 ≤ r.toInt ∧ r.toInt ≤ 255) (tk_w t [])) 0 0 (tk_w t []) := by
  refine tk_met (y := yJ1_charAt_3b067) (cc := cJ1_charAt_3b067) (maxL := 2) (ret := (some .char)) (av := [.ref (ld 54), .int p1]) _ _ (by decide) (Nat.le_of_ble_eq_true rfl) ?_
  intro p e s m args below meth c hx hb hr hml hts htl hown hlocks hK H locs hH hG hS hB hZ ls hl
  have hown : s.vm.findClass RJ1 = some m.cls := hown
  have hl : lv_has ls 2 [(0, .ref (ld 54)), (1, .int p1)] := hl
  have hr_p1 := tk_rng p1
  refine lv_iload_n hx hb dJ1_charAt_3b067_0 rfl (lv_at hl 1 rfl) ?_
  refine lv_aload_n hx hb dJ1_charAt_3b067_1 rfl (lv_at hl 0 rfl) ?_
  refine va_tlen (v := 4) hx hb ((hZ.1.1 4 (by decide)).2.2.2.narrow (fun _ h => h.1)) hS rfl dJ1_charAt_3b067_2 ?_
  have hk_4 : (4 : Int32).toInt = 4 := by decide
  refine tk_Sv (As := [.int p1, .int 4]) (rest := []) ⟨hx, hb, hml, hown, hts⟩ hK hG hZ hS (k_J0_checkIndex_df160 l D cy ld t p1 4 (by omega) (by omega) (by omega) (by omega) (by omega)) trivial ⟨callB_of 2 hts (wl_in mw_544) rfl rfl rfl (htl _ mw_521) (htl _ mw_542) hd_yJ0_checkIndex_df160 ⟨(Nat.le_of_ble_eq_true rfl), (Nat.le_of_ble_eq_true rfl)⟩, htl _ mw_543⟩ (tk_w.pick [] rfl) rfl hl.1 rfl (Nat.le_of_ble_eq_true rfl) dJ1_charAt_3b067_3 ⟨(Nat.le_of_ble_eq_true rfl), (Nat.le_of_ble_eq_true rfl)⟩ (fun H locs hpo hG hS hq9 => ?_)
  refine lv_aload_n hx hb dJ1_charAt_3b067_6 rfl (lv_at hl 0 rfl) ?_
  refine lv_iload_n hx hb dJ1_charAt_3b067_7 rfl (lv_at hl 1 rfl) ?_
  refine va_tb hx hb ((hZ.1.1 4 (by decide)).2.2.2.narrow (fun _ h => h.1)) hS (vp_in_iff.mpr ⟨by omega, show _ < ((4 : Nat) : Int) by omega⟩) rfl dJ1_charAt_3b067_8 ?_
  refine tk_any (fun v2 => ?_)
  refine lv_sipush (v := 255) hx hb dJ1_charAt_3b067_9 (by decide) ?_
  refine lv_iand hx hb dJ1_charAt_3b067_12 ?_
  refine tk_say (P := fun z => 0 ≤ z.toInt ∧ z.toInt ≤ 255) (tk_and v2 8 (by decide) (by decide)) (fun v3 h_v3 => ?_)
  obtain ⟨v4, e_v4, h_v4⟩ := tk_i2c (x := v3) (by omega) (by omega)
  refine lv_i2c (v := v4) hx hb dJ1_charAt_3b067_13 e_v4 ?_
  exact tk_iret (v := v4) hx hb hr (tk_nc (by omega) (by omega)) hlocks (show 0 ≤ v4.toInt ∧ v4.toInt ≤ 255 from ⟨(by omega), (by omega)⟩) hG hS dJ1_charAt_3b067_14
set_option maxHeartbeats 4000000 in
set_option maxRecDepth 100000 in
theorem k_J0_charAt_5068e_4 (l : Launch) (D : va_G) (cy : Nat → ClassId) (ld : Nat → Nat) (t : tk_T) (p1 : Int32) (hp_0 : 0 ≤ p1.toInt) (hp_1 : p1.toInt ≤ 3) : Met l yJ0_charAt_5068e (wl yJ0_charAt_5068e cJ0_charAt_5068e 2 (some .char)) ({ frames := 6, cells := 0, slots := 0, locals := 350 }) (tp D cy ld t [] [.ref (ld 4), .int p1] (fun H => True)) (ti D cy ld t [] (fun r H => 0 ≤ r.toInt ∧ r.toInt ≤ 255) (tk_w t [])) 0 0 (tk_w t []) := by
  refine tk_met (y := yJ0_charAt_5068e) (cc := cJ0_charAt_5068e) (maxL := 2) (ret := (some .char)) (av := [.ref (ld 4), .int p1]) _ _ (by decide) (Nat.le_of_ble_eq_true rfl) ?_
  intro p e s m args below meth c hx hb hr hml hts htl hown hlocks hK H locs hH hG hS hB hZ ls hl
  have hown : s.vm.findClass RJ0 = some m.cls := hown
  have hl : lv_has ls 2 [(0, .ref (ld 4)), (1, .int p1)] := hl
  have hr_p1 := tk_rng p1
  refine lv_aload_n hx hb dJ0_charAt_5068e_0 rfl (lv_at hl 0 rfl) ?_
  refine tk_Ti (As := []) (rest := []) (j := 4) ⟨hx, hb, hml, hown, hts⟩ hK hG hZ hS (k_J0_isLatin1_aae02_4 l D cy ld t) trivial ⟨callB_of 0 hts (wl_in mw_537) rfl rfl rfl (htl _ mw_521) (htl _ mw_534) hd_yJ0_isLatin1_aae02 ⟨(Nat.le_of_ble_eq_true rfl), (Nat.le_of_ble_eq_true rfl)⟩, htl _ mw_535, htl _ mw_536⟩ (by decide) (tk_w.pick [] rfl) rfl hl.1 rfl (Nat.le_of_ble_eq_true rfl) dJ0_charAt_5068e_1 ⟨(Nat.le_of_ble_eq_true rfl), (Nat.le_of_ble_eq_true rfl)⟩ (fun v1 H locs hpo hG hS hq9 => ?_)
  obtain ⟨hpo3, hpo4, hpo5⟩ := hpo
  obtain rfl : v1 = 1 := (fi_eq (show v1.toInt = 1 by omega) (by decide)).mpr rfl
  refine lv_if_eq (tgt := 16) hx hb dJ0_charAt_5068e_4 (by decide) (fun c9 => absurd c9 (by decide)) (fun _ => ?_)
  refine lv_aload_n hx hb dJ0_charAt_5068e_7 rfl (lv_at hl 0 rfl) ?_
  refine vk_getf hx hb ((hZ.1.1 4 (by decide)).2.2.1.narrow (fun _ h => h.1)) hS hown (htl _ mw_523) (fun _ h9 => h9) dJ0_charAt_5068e_8 ?_
  refine lv_iload_n hx hb dJ0_charAt_5068e_11 rfl (lv_at hl 1 rfl) ?_
  refine tk_Si (As := [.ref (ld 54), .int p1]) (rest := []) ⟨hx, hb, hml, hown, hts⟩ hK hG hZ hS (k_J1_charAt_3b067_4 l D cy ld t p1 (by omega) (by omega)) trivial ⟨callB_of 2 hts (wl_in mw_541) rfl rfl rfl (htl _ mw_540) (htl _ mw_538) hd_yJ1_charAt_3b067 ⟨(Nat.le_of_ble_eq_true rfl), (Nat.le_of_ble_eq_true rfl)⟩, htl _ mw_539⟩ (tk_w.pick [] rfl) rfl hl.1 rfl (Nat.le_of_ble_eq_true rfl) dJ0_charAt_5068e_12 ⟨(Nat.le_of_ble_eq_true rfl), (Nat.le_of_ble_eq_true rfl)⟩ (fun v6 H locs hpo hG hS hq9 => ?_)
  obtain ⟨hpo8, hpo9⟩ := hpo
  exact tk_iret (v := v6) hx hb hr (tk_nc (by omega) (by omega)) hlocks (show 0 ≤ v6.toInt ∧ v6.toInt ≤ 255 from ⟨(by omega), (by omega)⟩) hG hS dJ0_charAt_5068e_15
set_option maxHeartbeats 4000000 in
set_option maxRecDepth 100000 in
theorem k_J0_coder_7d493_4 (l : Launch) (D : va_G) (cy : Nat → ClassId) (ld : Nat → Nat) (t : tk_T) : Met l yJ0_coder_7d493 (wl yJ0_coder_7d493 cJ0_coder_7d493 1 (some .byte)) ({ frames := 3, cells := 0, slots := 0, locals := 140 }) (tp D cy ld t [] [.ref (ld 4)] (fun H => True)) (ti D cy ld t [] (fun r H => r.toInt = 0) (tk_w t [])) 0 0 (tk_w t []) := by
  refine tk_met (y := yJ0_coder_7d493) (cc := cJ0_coder_7d493) (maxL := 1) (ret := (some .byte)) (av := [.ref (ld 4)]) _ _ (by decide) (Nat.le_of_ble_eq_true rfl) ?_
  intro p e s m args below meth c hx hb hr hml hts htl hown hlocks hK H locs hH hG hS hB hZ ls hl
  have hown : s.vm.findClass RJ0 = some m.cls := hown
  have hl : lv_has ls 1 [(0, .ref (ld 4))] := hl
  refine va_gets hx hb (hZ.2.1.narrow (fun _ h => h.1)) hS hown (htl _ mw_528) (fun _ h9 => h9) dJ0_coder_7d493_0 ?_
  refine lv_if_eq (tgt := 13) hx hb dJ0_coder_7d493_3 (by decide) (fun c9 => absurd c9 (by decide)) (fun _ => ?_)
  refine lv_aload_n hx hb dJ0_coder_7d493_6 rfl (lv_at hl 0 rfl) ?_
  refine vk_getf hx hb ((hZ.1.1 4 (by decide)).2.1.narrow (fun _ h => h.1)) hS hown (htl _ mw_529) (fun _ h9 => h9) dJ0_coder_7d493_7 ?_
  refine lv_goto (tgt := 14) hx hb dJ0_coder_7d493_10 (by decide) ?_
  have hk_0 : (0 : Int32).toInt = 0 := by decide
  exact tk_iret (v := 0) hx hb hr rfl hlocks (show (0 : Int32).toInt = 0 from (by omega)) hG hS dJ0_coder_7d493_14
set_option maxHeartbeats 4000000 in
set_option maxRecDepth 100000 in
theorem k_J0_length_8abf5_4 (l : Launch) (D : va_G) (cy : Nat → ClassId) (ld : Nat → Nat) (t : tk_T) : Met l yJ0_length_8abf5 (wl yJ0_length_8abf5 cJ0_length_8abf5 1 (some .int)) ({ frames := 4, cells := 0, slots := 0, locals := 210 }) (tp D cy ld t [] [.ref (ld 4)] (fun H => True)) (ti D cy ld t [] (fun r H => r.toInt + (-4) = 0) (tk_w t [])) 0 0 (tk_w t []) := by
  refine tk_met (y := yJ0_length_8abf5) (cc := cJ0_length_8abf5) (maxL := 1) (ret := (some .int)) (av := [.ref (ld 4)]) _ _ (by decide) (Nat.le_of_ble_eq_true rfl) ?_
  intro p e s m args below meth c hx hb hr hml hts htl hown hlocks hK H locs hH hG hS hB hZ ls hl
  have hown : s.vm.findClass RJ0 = some m.cls := hown
  have hl : lv_has ls 1 [(0, .ref (ld 4))] := hl
  refine lv_aload_n hx hb dJ0_length_8abf5_0 rfl (lv_at hl 0 rfl) ?_
  refine vk_getf hx hb ((hZ.1.1 4 (by decide)).2.2.1.narrow (fun _ h => h.1)) hS hown (htl _ mw_523) (fun _ h9 => h9) dJ0_length_8abf5_1 ?_
  refine va_tlen (v := 4) hx hb ((hZ.1.1 4 (by decide)).2.2.2.narrow (fun _ h => h.1)) hS rfl dJ0_length_8abf5_4 ?_
  refine lv_aload_n hx hb dJ0_length_8abf5_5 rfl (lv_at hl 0 rfl) ?_
  refine tk_Ti (As := []) (rest := [.int 4]) (j := 4) ⟨hx, hb, hml, hown, hts⟩ hK hG hZ hS (k_J0_coder_7d493_4 l D cy ld t) trivial ⟨callB_of 0 hts (wl_in mw_527) rfl rfl rfl (htl _ mw_521) (htl _ mw_524) hd_yJ0_coder_7d493 ⟨(Nat.le_of_ble_eq_true rfl), (Nat.le_of_ble_eq_true rfl)⟩, htl _ mw_525, htl _ mw_526⟩ (by decide) (tk_w.pick [] rfl) rfl hl.1 rfl (Nat.le_of_ble_eq_true rfl) dJ0_length_8abf5_6 ⟨(Nat.le_of_ble_eq_true rfl), (Nat.le_of_ble_eq_true rfl)⟩ (fun v1 H locs hpo hG hS hq9 => ?_)
  have hpo3 := hpo
  obtain rfl : v1 = 0 := (fi_eq (show v1.toInt = 0 by omega) (by decide)).mpr rfl
  refine lv_ishr hx hb dJ0_length_8abf5_9 ?_
  refine fx_ti (v := 4) (by decide) ?_
  have hk_4 : (4 : Int32).toInt = 4 := by decide
  exact tk_iret (v := 4) hx hb hr rfl hlocks (show (4 : Int32).toInt + (-4) = 0 from (by omega)) hG hS dJ0_length_8abf5_10
set_option maxHeartbeats 4000000 in
set_option maxRecDepth 100000 in
theorem k_X6_isToken_4 (l : Launch) (D : va_G) (cy : Nat → ClassId) (ld : Nat → Nat) (t : tk_T) (a0 : Nat) (p2 : Int32) (p3 : Int32) (ht_a0 : t a0 = (7, 0, 0)) (hp_0 : 0 ≤ p2.toInt) (hp_1 : p2.toInt ≤ 4) (hp_2 : 0 ≤ p3.toInt) (hp_3 : p3.toInt ≤ 4) : Met l yX6_isToken (wl yX6_isToken cX6_isToken 5 (some .boolean)) ({ frames := 7, cells := 0, slots := 0, locals := 420 }) (tp D cy ld t [] [.ref a0, .ref (ld 4), .int p2, .int p3] (fun H => True)) (ti D cy ld t [] (fun r H => 0 ≤ r.toInt ∧ r.toInt ≤ 1 ∧ 0 ≤ r.toInt ∧ r.toInt ≤ 1) (tk_w t [])) 0 0 (tk_w t []) := by
  refine tk_met (y := yX6_isToken) (cc := cX6_isToken) (maxL := 5) (ret := (some .boolean)) (av := [.ref a0, .ref (ld 4), .int p2, .int p3]) _ _ (by decide) (Nat.le_of_ble_eq_true rfl) ?_
  intro p e s m args below meth c hx hb hr hml hts htl hown hlocks hK H locs hH hG hS hB hZ ls hl
  have hown : s.vm.findClass RX6 = some m.cls := hown
  have hl : lv_has ls 5 [(0, .ref a0), (1, .ref (ld 4)), (2, .int p2), (3, .int p3)] := hl
  have hr_p2 := tk_rng p2
  have hr_p3 := tk_rng p3
  refine lv_iload_n hx hb dX6_isToken_0 rfl (lv_at hl 3 rfl) ?_
  refine lv_iload_n hx hb dX6_isToken_1 rfl (lv_at hl 2 rfl) ?_
  refine lv_isub hx hb dX6_isToken_2 ?_
  refine tk_sub rfl rfl (by omega) (by omega) (fun v1 h_v1 => ?_)
  refine lv_aload_n hx hb dX6_isToken_3 rfl (lv_at hl 0 rfl) ?_
  refine tk_get (ci := 6) (C := RX6) (T := TX6) (N := 11) (sp := (0, 0, 400, 0)) hx hb htl inX6 hown hK hG ht_a0 (by decide) tk_no rfl 5 (by decide) (htl _ mw_478) (fun _ h9 => h9) rfl dX6_isToken_4 (fun v9 hf2 hV9 => ?_)
  obtain ⟨v3, rfl, (ha_v3 : 0 ≤ v3.toInt), (hb_v3 : v3.toInt ≤ 400)⟩ := hV9
  refine lv_aload_n hx hb dX6_isToken_7 rfl (lv_at hl 0 rfl) ?_
  refine tk_get (ci := 6) (C := RX6) (T := TX6) (N := 11) (sp := (0, 0, 400, 0)) hx hb htl inX6 hown hK hG ht_a0 (by decide) tk_no rfl 4 (by decide) (htl _ mw_495) (fun _ h9 => h9) rfl dX6_isToken_8 (fun v9 hf4 hV9 => ?_)
  obtain ⟨v5, rfl, (ha_v5 : 0 ≤ v5.toInt), (hb_v5 : v5.toInt ≤ 400)⟩ := hV9
  refine lv_isub hx hb dX6_isToken_11 ?_
  refine tk_sub rfl rfl (by omega) (by omega) (fun v6 h_v6 => ?_)
  refine lv_icmp_eq (tgt := 17) hx hb dX6_isToken_12 (by decide) (fun c9 => ?_) (fun c9 => ?_)
  · have hc7 : v1.toInt = v6.toInt := (fi_eq rfl rfl).mp c9
    refine lv_iload_n hx hb dX6_isToken_17 rfl (lv_at hl 2 rfl) ?_
    refine lv_istore (lv' := [(4, .int p2), (0, .ref a0), (1, .ref (ld 4)), (2, .int p2), (3, .int p3)]) hx hb dX6_isToken_18 hl (by decide) rfl (fun ls hl => ?_)
    have hl82 : ∀ (N_l82 : Nat) (v8 : Int32) (H : Heap) (locs : List Loc), v8.toInt ≤ 4 → 0 ≤ (-1) * p2.toInt + v8.toInt → (-1) * v8.toInt + 4 < (N_l82 : Int) → tk_G D cy ld t [] H → va_S (tk_w t []) s.heap H locs → tk_f D H a0 6 5 (.int v3) → tk_f D H a0 6 4 (.int v5) → ∀ ls : Array Slot, lv_has ls 5 [(4, .int v8), (0, .ref a0), (1, .ref (ld 4)), (2, .int p2), (3, .int p3)] → W p l e ({ frames := 7, cells := 0, slots := 0, locals := 420 }) s m args below meth c H locs 0 0 (MQ below (ti D cy ld t [] (fun r H => 0 ≤ r.toInt ∧ r.toInt ≤ 1 ∧ 0 ≤ r.toInt ∧ r.toInt ≤ 1) (tk_w t [])) args s 0 0 (tk_w t [])) (F0 m 20 ls []) := by
      intro N_l82
      induction N_l82 with
      | zero => intro v8 H locs hq0_l82 hq1_l82 hm_l82 hG hS hf2 hf4 ls hl; exfalso; omega
      | succ N_l82 ih_l82 =>
        intro v8 H locs hq0_l82 hq1_l82 hm_l82 hG hS hf2 hf4 ls hl
        refine lv_iload hx hb dX6_isToken_20 (lv_at hl 0 rfl) ?_
        refine lv_iload_n hx hb dX6_isToken_22 rfl (lv_at hl 4 rfl) ?_
        refine lv_icmp_ge (tgt := 57) hx hb dX6_isToken_23 (by decide) (fun c9 => ?_) (fun c9 => ?_)
        · have hc83 : p3.toInt ≤ v8.toInt := (fi_le rfl rfl).mp c9
          refine lv_iconst (v := 1) hx hb dX6_isToken_57 (by decide) ?_
          have hk_1 : (1 : Int32).toInt = 1 := by decide
          exact tk_iret (v := 1) hx hb hr rfl hlocks (show 0 ≤ (1 : Int32).toInt ∧ (1 : Int32).toInt ≤ 1 ∧ 0 ≤ (1 : Int32).toInt ∧ (1 : Int32).toInt ≤ 1 from ⟨(by omega), (by omega), (by omega), (by omega)⟩) hG hS dX6_isToken_58
        · have hc83 : ¬ (p3.toInt ≤ v8.toInt) := fun h9 => c9 ((fi_le rfl rfl).mpr h9)
          refine lv_aload_n hx hb dX6_isToken_26 rfl (lv_at hl 2 rfl) ?_
          refine lv_iload hx hb dX6_isToken_27 (lv_at hl 0 rfl) ?_
          refine tk_Ti (As := [.int v8]) (rest := []) (j := 4) ⟨hx, hb, hml, hown, hts⟩ hK hG hZ hS (k_J0_charAt_5068e_4 l D cy ld t v8 (by omega) (by omega)) trivial ⟨callB_of 1 hts (wl_in mw_533) rfl rfl rfl (htl _ mw_521) (htl _ mw_530) hd_yJ0_charAt_5068e ⟨(Nat.le_of_ble_eq_true rfl), (Nat.le_of_ble_eq_true rfl)⟩, htl _ mw_531, htl _ mw_532⟩ (by decide) (tk_w.pick [] rfl) rfl hl.1 rfl (Nat.le_of_ble_eq_true rfl) dX6_isToken_29 ⟨(Nat.le_of_ble_eq_true rfl), (Nat.le_of_ble_eq_true rfl)⟩ (fun v84 H locs hpo hG hS hq9 => ?_)
          have hf2 := hf2.call hq9 tk_w.nil
          have hf4 := hf4.call hq9 tk_w.nil
          obtain ⟨hpo86, hpo87⟩ := hpo
          refine lv_aload_n hx hb dX6_isToken_32 rfl (lv_at hl 1 rfl) ?_
          refine tk_get (ci := 6) (C := RX6) (T := TX6) (N := 11) (sp := (6, 20, 400, 9)) hx hb htl inX6 hown hK hG ht_a0 (by decide) tk_no rfl 1 (by decide) (htl _ mw_133) (fun _ h9 => h9) rfl dX6_isToken_33 (fun v9 hf88 hV9 => ?_)
          obtain ⟨b89, rfl, ht_b89⟩ := hV9
          have ht_b89 : t b89 = (20, 400, 9) := ht_b89
          refine lv_aload_n hx hb dX6_isToken_36 rfl (lv_at hl 1 rfl) ?_
          refine tk_getk (ci := 6) (C := RX6) (T := TX6) (N := 11) (sp := (0, 0, 400, 0)) hx hb htl inX6 hown hK hG ht_a0 (by decide) tk_no rfl 4 (by decide) (htl _ mw_495) (fun _ h9 => h9) rfl hf4 dX6_isToken_37 ?_
          refine lv_iload hx hb dX6_isToken_40 (lv_at hl 0 rfl) ?_
          refine lv_iadd hx hb dX6_isToken_42 ?_
          refine tk_add rfl rfl (by omega) (by omega) (fun v90 h_v90 => ?_)
          refine lv_iload_n hx hb dX6_isToken_43 rfl (lv_at hl 3 rfl) ?_
          refine lv_isub hx hb dX6_isToken_44 ?_
          refine tk_sub rfl rfl (by omega) (by omega) (fun v91 h_v91 => ?_)
          refine tk_iald hx hb hK hG ht_b89 (by decide) (fun _ h => h) tk_no rfl (by omega) (by omega) dX6_isToken_45 (fun v92 _ _ => ?_)
          have hr_v92 := tk_rng v92
          refine lv_icmp_eq (tgt := 51) hx hb dX6_isToken_46 (by decide) (fun c9 => ?_) (fun c9 => ?_)
          · have hc93 : v84.toInt = v92.toInt := (fi_eq rfl rfl).mp c9
            obtain ⟨v94, h_v94, e_v94⟩ := tk_inc v8 1 (by decide) (by omega) (by omega)
            refine lv_iinc (v := v94) (lv' := [(4, .int v94), (0, .ref a0), (1, .ref (ld 4)), (2, .int p2), (3, .int p3)]) hx hb dX6_isToken_51 hl (k := 0) rfl e_v94 (by decide) rfl (fun ls hl => ?_)
            refine lv_goto (tgt := 20) hx hb dX6_isToken_54 (by decide) ?_
            exact ih_l82 v94 _ _ (by omega) (by omega) (by omega) hG hS hf2 hf4 _ (lv_sub hl [0, 1, 2, 3, 4] rfl)
          · have hc93 : ¬ (v84.toInt = v92.toInt) := fun h9 => c9 ((fi_eq rfl rfl).mpr h9)
            refine lv_iconst (v := 0) hx hb dX6_isToken_49 (by decide) ?_
            have hk_0 : (0 : Int32).toInt = 0 := by decide
            exact tk_iret (v := 0) hx hb hr rfl hlocks (show 0 ≤ (0 : Int32).toInt ∧ (0 : Int32).toInt ≤ 1 ∧ 0 ≤ (0 : Int32).toInt ∧ (0 : Int32).toInt ≤ 1 from ⟨(by omega), (by omega), (by omega), (by omega)⟩) hG hS dX6_isToken_50
    exact hl82 5 p2 _ _ (by omega) (by omega) (by omega) hG hS hf2 hf4 _ (lv_sub hl [0, 1, 2, 3, 4] rfl)
  · have hc7 : ¬ (v1.toInt = v6.toInt) := fun h9 => c9 ((fi_eq rfl rfl).mpr h9)
    refine lv_iconst (v := 0) hx hb dX6_isToken_15 (by decide) ?_
    have hk_0 : (0 : Int32).toInt = 0 := by decide
    exact tk_iret (v := 0) hx hb hr rfl hlocks (show 0 ≤ (0 : Int32).toInt ∧ (0 : Int32).toInt ≤ 1 ∧ 0 ≤ (0 : Int32).toInt ∧ (0 : Int32).toInt ≤ 1 from ⟨(by omega), (by omega), (by omega), (by omega)⟩) hG hS dX6_isToken_16
set_option maxHeartbeats 4000000 in
set_option maxRecDepth 100000 in
theorem k_X6_wordAmong_4 (l : Launch) (D : va_G) (cy : Nat → ClassId) (ld : Nat → Nat) (t : tk_T) (a0 : Nat) (ht_a0 : t a0 = (7, 0, 0)) : Met l yX6_wordAmong (wl yX6_wordAmong cX6_wordAmong 5 (some .int)) ({ frames := 8, cells := 0, slots := 0, locals := 490 }) (tp D cy ld t [] [.ref a0, .ref (ld 4)] (fun H => True)) (ti D cy ld t [] (fun r H => (-1) ≤ r.toInt ∧ r.toInt ≤ 4) (tk_w t [])) 0 0 (tk_w t []) := by
  refine tk_met (y := yX6_wordAmong) (cc := cX6_wordAmong) (maxL := 5) (ret := (some .int)) (av := [.ref a0, .ref (ld 4)]) _ _ (by decide) (Nat.le_of_ble_eq_true rfl) ?_
  intro p e s m args below meth c hx hb hr hml hts htl hown hlocks hK H locs hH hG hS hB hZ ls hl
  have hown : s.vm.findClass RX6 = some m.cls := hown
  have hl : lv_has ls 5 [(0, .ref a0), (1, .ref (ld 4))] := hl
  refine lv_aload_n hx hb dX6_wordAmong_0 rfl (lv_at hl 0 rfl) ?_
  refine tk_Vi (As := []) (rest := []) (ci := 6) ⟨hx, hb, hml, hown, hts⟩ hK hG hZ hS (k_X6_isGood l D cy ld t a0 ht_a0) trivial ⟨callB_of 0 hts (wl_in mw_503) rfl rfl rfl (htl _ mw_36) (htl _ mw_500) hd_yX6_isGood ⟨(Nat.le_of_ble_eq_true rfl), (Nat.le_of_ble_eq_true rfl)⟩, htl _ mw_501, htl _ mw_502⟩ ht_a0 (by decide) tk_no rfl (tk_w.pick [] rfl) rfl hl.1 rfl (Nat.le_of_ble_eq_true rfl) dX6_wordAmong_1 ⟨(Nat.le_of_ble_eq_true rfl), (Nat.le_of_ble_eq_true rfl)⟩ (fun v1 H locs hpo hG hS hq9 => ?_)
  obtain ⟨hpo3, hpo4, hpo5, hpo6⟩ := hpo
  refine lv_if_eq (tgt := 15) hx hb dX6_wordAmong_4 (by decide) (fun c9 => ?_) (fun c9 => ?_)
  · have hc7 : v1.toInt = 0 := (fi_eq rfl (show (0 : Int32).toInt = 0 by decide)).mp c9
    refine lv_iconst (v := (-1)) hx hb dX6_wordAmong_15 (by decide) ?_
    have hk_m1 : ((-1) : Int32).toInt = (-1) := by decide
    exact tk_iret (v := (-1)) hx hb hr rfl hlocks (show (-1) ≤ ((-1) : Int32).toInt ∧ ((-1) : Int32).toInt ≤ 4 from ⟨(by omega), (by omega)⟩) hG hS dX6_wordAmong_16
  · have hc7 : ¬ (v1.toInt = 0) := fun h9 => c9 ((fi_eq rfl (show (0 : Int32).toInt = 0 by decide)).mpr h9)
    refine lv_aload_n hx hb dX6_wordAmong_7 rfl (lv_at hl 0 rfl) ?_
    refine tk_get (ci := 6) (C := RX6) (T := TX6) (N := 11) (sp := (0, (-2147483648), 2147483647, 0)) hx hb htl inX6 hown hK hG ht_a0 (by decide) tk_no rfl 6 (by decide) (htl _ mw_482) (fun _ h9 => h9) rfl dX6_wordAmong_8 (fun v9 hf8 hV9 => ?_)
    obtain ⟨v9, rfl, (ha_v9 : (-2147483648) ≤ v9.toInt), (hb_v9 : v9.toInt ≤ 2147483647)⟩ := hV9
    refine lv_iconst (v := 1) hx hb dX6_wordAmong_11 (by decide) ?_
    refine lv_icmp_eq (tgt := 17) hx hb dX6_wordAmong_12 (by decide) (fun c9 => ?_) (fun c9 => ?_)
    · have hc10 : v9.toInt = 1 := (fi_eq rfl (show (1 : Int32).toInt = 1 by decide)).mp c9
      refine lv_iconst (v := 0) hx hb dX6_wordAmong_17 (by decide) ?_
      refine lv_istore_n (lv' := [(2, .int 0), (0, .ref a0), (1, .ref (ld 4))]) hx hb dX6_wordAmong_18 rfl hl (by decide) rfl (fun ls hl => ?_)
      refine lv_iconst (v := 0) hx hb dX6_wordAmong_19 (by decide) ?_
      refine lv_istore_n (lv' := [(3, .int 0), (2, .int 0), (0, .ref a0), (1, .ref (ld 4))]) hx hb dX6_wordAmong_20 rfl hl (by decide) rfl (fun ls hl => ?_)
      refine lv_iconst (v := 0) hx hb dX6_wordAmong_21 (by decide) ?_
      refine lv_istore (lv' := [(4, .int 0), (3, .int 0), (2, .int 0), (0, .ref a0), (1, .ref (ld 4))]) hx hb dX6_wordAmong_22 hl (by decide) rfl (fun ls hl => ?_)
      have hl275 : ∀ (N_l275 : Nat) (v11 : Int32) (v12 : Int32) (v13 : Int32) (H : Heap) (locs : List Loc), v11.toInt ≤ 5 → 0 ≤ v13.toInt → 0 ≤ v11.toInt + (-1) * v12.toInt → 0 ≤ v12.toInt + (-1) * v13.toInt → (-1) * v11.toInt + 5 < (N_l275 : Int) → tk_G D cy ld t [] H → va_S (tk_w t []) s.heap H locs → tk_f D H a0 6 6 (.int v9) → ∀ ls : Array Slot, lv_has ls 5 [(4, .int v11), (3, .int v12), (2, .int v13), (0, .ref a0), (1, .ref (ld 4))] → W p l e ({ frames := 8, cells := 0, slots := 0, locals := 490 }) s m args below meth c H locs 0 0 (MQ below (ti D cy ld t [] (fun r H => (-1) ≤ r.toInt ∧ r.toInt ≤ 4) (tk_w t [])) args s 0 0 (tk_w t [])) (F0 m 24 ls []) := by
        intro N_l275
        induction N_l275 with
        | zero => intro v11 v12 v13 H locs hq0_l275 hq1_l275 hq2_l275 hq3_l275 hm_l275 hG hS hf8 ls hl; exfalso; omega
        | succ N_l275 ih_l275 =>
          intro v11 v12 v13 H locs hq0_l275 hq1_l275 hq2_l275 hq3_l275 hm_l275 hG hS hf8 ls hl
          refine lv_iload hx hb dX6_wordAmong_24 (lv_at hl 0 rfl) ?_
          refine lv_aload_n hx hb dX6_wordAmong_26 rfl (lv_at hl 4 rfl) ?_
          refine tk_Ti (As := []) (rest := [.int v11]) (j := 4) ⟨hx, hb, hml, hown, hts⟩ hK hG hZ hS (k_J0_length_8abf5_4 l D cy ld t) trivial ⟨callB_of 0 hts (wl_in mw_522) rfl rfl rfl (htl _ mw_521) (htl _ mw_518) hd_yJ0_length_8abf5 ⟨(Nat.le_of_ble_eq_true rfl), (Nat.le_of_ble_eq_true rfl)⟩, htl _ mw_519, htl _ mw_520⟩ (by decide) (tk_w.pick [] rfl) rfl hl.1 rfl (Nat.le_of_ble_eq_true rfl) dX6_wordAmong_27 ⟨(Nat.le_of_ble_eq_true rfl), (Nat.le_of_ble_eq_true rfl)⟩ (fun v276 H locs hpo hG hS hq9 => ?_)
          have hf8 := hf8.call hq9 tk_w.nil
          have hpo278 := hpo
          obtain rfl : v276 = 4 := (fi_eq (show v276.toInt = 4 by omega) (by decide)).mpr rfl
          refine lv_icmp_gt (tgt := 80) hx hb dX6_wordAmong_30 (by decide) (fun c9 => ?_) (fun c9 => ?_)
          · have hc279 : 4 < v11.toInt := (fi_lt (show (4 : Int32).toInt = 4 by decide) rfl).mp c9
            refine lv_iconst (v := (-1)) hx hb dX6_wordAmong_80 (by decide) ?_
            have hk_m1 : ((-1) : Int32).toInt = (-1) := by decide
            exact tk_iret (v := (-1)) hx hb hr rfl hlocks (show (-1) ≤ ((-1) : Int32).toInt ∧ ((-1) : Int32).toInt ≤ 4 from ⟨(by omega), (by omega)⟩) hG hS dX6_wordAmong_81
          · have hc279 : ¬ (4 < v11.toInt) := fun h9 => c9 ((fi_lt (show (4 : Int32).toInt = 4 by decide) rfl).mpr h9)
            refine lv_iload hx hb dX6_wordAmong_33 (lv_at hl 0 rfl) ?_
            refine lv_aload_n hx hb dX6_wordAmong_35 rfl (lv_at hl 4 rfl) ?_
            refine tk_Ti (As := []) (rest := [.int v11]) (j := 4) ⟨hx, hb, hml, hown, hts⟩ hK hG hZ hS (k_J0_length_8abf5_4 l D cy ld t) trivial ⟨callB_of 0 hts (wl_in mw_522) rfl rfl rfl (htl _ mw_521) (htl _ mw_518) hd_yJ0_length_8abf5 ⟨(Nat.le_of_ble_eq_true rfl), (Nat.le_of_ble_eq_true rfl)⟩, htl _ mw_519, htl _ mw_520⟩ (by decide) (tk_w.pick [] rfl) rfl hl.1 rfl (Nat.le_of_ble_eq_true rfl) dX6_wordAmong_36 ⟨(Nat.le_of_ble_eq_true rfl), (Nat.le_of_ble_eq_true rfl)⟩ (fun v280 H locs hpo hG hS hq9 => ?_)
            have hf8 := hf8.call hq9 tk_w.nil
            have hpo282 := hpo
            obtain rfl : v280 = 4 := (fi_eq (show v280.toInt = 4 by omega) (by decide)).mpr rfl
            refine lv_icmp_eq (tgt := 53) hx hb dX6_wordAmong_39 (by decide) (fun c9 => ?_) (fun c9 => ?_)
            · have hc283 : v11.toInt = 4 := (fi_eq rfl (show (4 : Int32).toInt = 4 by decide)).mp c9
              refine lv_aload_n hx hb dX6_wordAmong_53 rfl (lv_at hl 3 rfl) ?_
              refine lv_aload_n hx hb dX6_wordAmong_54 rfl (lv_at hl 4 rfl) ?_
              refine lv_iload_n hx hb dX6_wordAmong_55 rfl (lv_at hl 1 rfl) ?_
              refine lv_iload hx hb dX6_wordAmong_56 (lv_at hl 0 rfl) ?_
              refine tk_Vi (As := [.ref (ld 4), .int v12, .int v11]) (rest := []) (ci := 6) ⟨hx, hb, hml, hown, hts⟩ hK hG hZ hS (k_X6_isToken_4 l D cy ld t a0 v12 v11 ht_a0 (by omega) (by omega) (by omega) (by omega)) trivial ⟨callB_of 3 hts (wl_in mw_570) rfl rfl rfl (htl _ mw_36) (htl _ mw_567) hd_yX6_isToken ⟨(Nat.le_of_ble_eq_true rfl), (Nat.le_of_ble_eq_true rfl)⟩, htl _ mw_568, htl _ mw_569⟩ ht_a0 (by decide) tk_no rfl (tk_w.pick [] rfl) rfl hl.1 rfl (Nat.le_of_ble_eq_true rfl) dX6_wordAmong_58 ⟨(Nat.le_of_ble_eq_true rfl), (Nat.le_of_ble_eq_true rfl)⟩ (fun v284 H locs hpo hG hS hq9 => ?_)
              have hf8 := hf8.call hq9 tk_w.nil
              obtain ⟨hpo286, hpo287, hpo288, hpo289⟩ := hpo
              refine lv_if_eq (tgt := 66) hx hb dX6_wordAmong_61 (by decide) (fun c9 => ?_) (fun c9 => ?_)
              · have hc290 : v284.toInt = 0 := (fi_eq rfl (show (0 : Int32).toInt = 0 by decide)).mp c9
                obtain ⟨v291, h_v291, e_v291⟩ := tk_inc v13 1 (by decide) (by omega) (by omega)
                refine lv_iinc (v := v291) (lv' := [(2, .int v291), (4, .int v11), (3, .int v12), (0, .ref a0), (1, .ref (ld 4))]) hx hb dX6_wordAmong_66 hl (k := 2) rfl e_v291 (by decide) rfl (fun ls hl => ?_)
                refine lv_iload hx hb dX6_wordAmong_69 (lv_at hl 1 rfl) ?_
                refine lv_iconst (v := 1) hx hb dX6_wordAmong_71 (by decide) ?_
                refine lv_iadd hx hb dX6_wordAmong_72 ?_
                refine tk_add rfl (show (1 : Int32).toInt = 1 by decide) (by omega) (by omega) (fun v292 h_v292 => ?_)
                refine lv_istore_n (lv' := [(3, .int v292), (2, .int v291), (4, .int v11), (0, .ref a0), (1, .ref (ld 4))]) hx hb dX6_wordAmong_73 rfl hl (by decide) rfl (fun ls hl => ?_)
                obtain ⟨v293, h_v293, e_v293⟩ := tk_inc v11 1 (by decide) (by omega) (by omega)
                refine lv_iinc (v := v293) (lv' := [(4, .int v293), (3, .int v292), (2, .int v291), (0, .ref a0), (1, .ref (ld 4))]) hx hb dX6_wordAmong_74 hl (k := 2) rfl e_v293 (by decide) rfl (fun ls hl => ?_)
                refine lv_goto (tgt := 24) hx hb dX6_wordAmong_77 (by decide) ?_
                exact ih_l275 v293 v292 v291 _ _ (by omega) (by omega) (by omega) (by omega) (by omega) hG hS hf8 _ (lv_sub hl [0, 1, 2, 3, 4] rfl)
              · have hc290 : ¬ (v284.toInt = 0) := fun h9 => c9 ((fi_eq rfl (show (0 : Int32).toInt = 0 by decide)).mpr h9)
                refine lv_iload_n hx hb dX6_wordAmong_64 rfl (lv_at hl 2 rfl) ?_
                exact tk_iret (v := v13) hx hb hr rfl hlocks (show (-1) ≤ v13.toInt ∧ v13.toInt ≤ 4 from ⟨(by omega), (by omega)⟩) hG hS dX6_wordAmong_65
            · have hc283 : ¬ (v11.toInt = 4) := fun h9 => c9 ((fi_eq rfl (show (4 : Int32).toInt = 4 by decide)).mpr h9)
              refine lv_aload_n hx hb dX6_wordAmong_42 rfl (lv_at hl 4 rfl) ?_
              refine lv_iload hx hb dX6_wordAmong_43 (lv_at hl 0 rfl) ?_
              refine tk_Ti (As := [.int v11]) (rest := []) (j := 4) ⟨hx, hb, hml, hown, hts⟩ hK hG hZ hS (k_J0_charAt_5068e_4 l D cy ld t v11 (by omega) (by omega)) trivial ⟨callB_of 1 hts (wl_in mw_533) rfl rfl rfl (htl _ mw_521) (htl _ mw_530) hd_yJ0_charAt_5068e ⟨(Nat.le_of_ble_eq_true rfl), (Nat.le_of_ble_eq_true rfl)⟩, htl _ mw_531, htl _ mw_532⟩ (by decide) (tk_w.pick [] rfl) rfl hl.1 rfl (Nat.le_of_ble_eq_true rfl) dX6_wordAmong_45 ⟨(Nat.le_of_ble_eq_true rfl), (Nat.le_of_ble_eq_true rfl)⟩ (fun v294 H locs hpo hG hS hq9 => ?_)
              have hf8 := hf8.call hq9 tk_w.nil
              obtain ⟨hpo296, hpo297⟩ := hpo
              refine lv_bipush (v := 32) hx hb dX6_wordAmong_48 (by decide) ?_
              refine lv_icmp_ne (tgt := 74) hx hb dX6_wordAmong_50 (by decide) (fun c9 => ?_) (fun c9 => ?_)
              · have hc298 : ¬ (v294.toInt = 32) := fun h9 => c9 ((fi_eq rfl (show (32 : Int32).toInt = 32 by decide)).mpr h9)
                obtain ⟨v299, h_v299, e_v299⟩ := tk_inc v11 1 (by decide) (by omega) (by omega)
                refine lv_iinc (v := v299) (lv' := [(4, .int v299), (3, .int v12), (2, .int v13), (0, .ref a0), (1, .ref (ld 4))]) hx hb dX6_wordAmong_74 hl (k := 0) rfl e_v299 (by decide) rfl (fun ls hl => ?_)
                refine lv_goto (tgt := 24) hx hb dX6_wordAmong_77 (by decide) ?_
                exact ih_l275 v299 v12 v13 _ _ (by omega) (by omega) (by omega) (by omega) (by omega) hG hS hf8 _ (lv_sub hl [0, 1, 2, 3, 4] rfl)
              · have hc298 : v294.toInt = 32 := (fi_eq rfl (show (32 : Int32).toInt = 32 by decide)).mp c9
                refine lv_aload_n hx hb dX6_wordAmong_53 rfl (lv_at hl 3 rfl) ?_
                refine lv_aload_n hx hb dX6_wordAmong_54 rfl (lv_at hl 4 rfl) ?_
                refine lv_iload_n hx hb dX6_wordAmong_55 rfl (lv_at hl 1 rfl) ?_
                refine lv_iload hx hb dX6_wordAmong_56 (lv_at hl 0 rfl) ?_
                refine tk_Vi (As := [.ref (ld 4), .int v12, .int v11]) (rest := []) (ci := 6) ⟨hx, hb, hml, hown, hts⟩ hK hG hZ hS (k_X6_isToken_4 l D cy ld t a0 v12 v11 ht_a0 (by omega) (by omega) (by omega) (by omega)) trivial ⟨callB_of 3 hts (wl_in mw_570) rfl rfl rfl (htl _ mw_36) (htl _ mw_567) hd_yX6_isToken ⟨(Nat.le_of_ble_eq_true rfl), (Nat.le_of_ble_eq_true rfl)⟩, htl _ mw_568, htl _ mw_569⟩ ht_a0 (by decide) tk_no rfl (tk_w.pick [] rfl) rfl hl.1 rfl (Nat.le_of_ble_eq_true rfl) dX6_wordAmong_58 ⟨(Nat.le_of_ble_eq_true rfl), (Nat.le_of_ble_eq_true rfl)⟩ (fun v300 H locs hpo hG hS hq9 => ?_)
                have hf8 := hf8.call hq9 tk_w.nil
                obtain ⟨hpo302, hpo303, hpo304, hpo305⟩ := hpo
                refine lv_if_eq (tgt := 66) hx hb dX6_wordAmong_61 (by decide) (fun c9 => ?_) (fun c9 => ?_)
                · have hc306 : v300.toInt = 0 := (fi_eq rfl (show (0 : Int32).toInt = 0 by decide)).mp c9
                  obtain ⟨v307, h_v307, e_v307⟩ := tk_inc v13 1 (by decide) (by omega) (by omega)
                  refine lv_iinc (v := v307) (lv' := [(2, .int v307), (4, .int v11), (3, .int v12), (0, .ref a0), (1, .ref (ld 4))]) hx hb dX6_wordAmong_66 hl (k := 2) rfl e_v307 (by decide) rfl (fun ls hl => ?_)
                  refine lv_iload hx hb dX6_wordAmong_69 (lv_at hl 1 rfl) ?_
                  refine lv_iconst (v := 1) hx hb dX6_wordAmong_71 (by decide) ?_
                  refine lv_iadd hx hb dX6_wordAmong_72 ?_
                  refine tk_add rfl (show (1 : Int32).toInt = 1 by decide) (by omega) (by omega) (fun v308 h_v308 => ?_)
                  refine lv_istore_n (lv' := [(3, .int v308), (2, .int v307), (4, .int v11), (0, .ref a0), (1, .ref (ld 4))]) hx hb dX6_wordAmong_73 rfl hl (by decide) rfl (fun ls hl => ?_)
                  obtain ⟨v309, h_v309, e_v309⟩ := tk_inc v11 1 (by decide) (by omega) (by omega)
                  refine lv_iinc (v := v309) (lv' := [(4, .int v309), (3, .int v308), (2, .int v307), (0, .ref a0), (1, .ref (ld 4))]) hx hb dX6_wordAmong_74 hl (k := 2) rfl e_v309 (by decide) rfl (fun ls hl => ?_)
                  refine lv_goto (tgt := 24) hx hb dX6_wordAmong_77 (by decide) ?_
                  exact ih_l275 v309 v308 v307 _ _ (by omega) (by omega) (by omega) (by omega) (by omega) hG hS hf8 _ (lv_sub hl [0, 1, 2, 3, 4] rfl)
                · have hc306 : ¬ (v300.toInt = 0) := fun h9 => c9 ((fi_eq rfl (show (0 : Int32).toInt = 0 by decide)).mpr h9)
                  refine lv_iload_n hx hb dX6_wordAmong_64 rfl (lv_at hl 2 rfl) ?_
                  exact tk_iret (v := v13) hx hb hr rfl hlocks (show (-1) ≤ v13.toInt ∧ v13.toInt ≤ 4 from ⟨(by omega), (by omega)⟩) hG hS dX6_wordAmong_65
      have hk_0 : (0 : Int32).toInt = 0 := by decide
      have hk_0 : (0 : Int32).toInt = 0 := by decide
      have hk_0 : (0 : Int32).toInt = 0 := by decide
      exact hl275 6 0 0 0 _ _ (by omega) (by omega) (by omega) (by omega) (by omega) hG hS hf8 _ (lv_sub hl [0, 1, 2, 3, 4] rfl)
    · have hc10 : ¬ (v9.toInt = 1) := fun h9 => c9 ((fi_eq rfl (show (1 : Int32).toInt = 1 by decide)).mpr h9)
      refine lv_iconst (v := (-1)) hx hb dX6_wordAmong_15 (by decide) ?_
      have hk_m1 : ((-1) : Int32).toInt = (-1) := by decide
      exact tk_iret (v := (-1)) hx hb hr rfl hlocks (show (-1) ≤ ((-1) : Int32).toInt ∧ ((-1) : Int32).toInt ≤ 4 from ⟨(by omega), (by omega)⟩) hG hS dX6_wordAmong_16
