set_option maxHeartbeats 4000000 in
set_option maxRecDepth 100000 in
theorem k_X6_readTest_7 (l : Launch) (D : va_G) (cy : Nat → ClassId) (ld : Nat → Nat) (t : tk_T) (a0 : Nat) (ht_a0 : t a0 = (7, 0, 0)) : Met l yX6_readTest (wl yX6_readTest cX6_readTest 3 none) ({ frames := 17, cells := 0, slots := 0, locals := 1120 }) (tp D cy ld t [] [.ref a0] (fun H => tk_f D H a0 6 9 (.int 7))) (tv D cy ld t [] (fun H => tk_f D H a0 6 9 (.int 7)) (tk_w t [(7, 0, 0), (20, 0, 0), (8, 12, 12)])) 0 0 (tk_w t [(7, 0, 0), (20, 0, 0), (8, 12, 12)]) := by
  refine tk_met (y := yX6_readTest) (cc := cX6_readTest) (maxL := 3) (ret := none) (av := [.ref a0]) _ _ (by decide) (Nat.le_of_ble_eq_true rfl) ?_
  intro p e s m args below meth c hx hb hr hml hts htl hown hlocks hK H locs hH hG hS hB hZ ls hl
  have hown : s.vm.findClass RX6 = some m.cls := hown
  have hl : lv_has ls 3 [(0, .ref a0)] := hl
  have hg_0 := hB
  refine lv_aload_n hx hb dX6_readTest_0 rfl (lv_at hl 0 rfl) ?_
  refine tk_Vv (As := []) (rest := []) (ci := 6) ⟨hx, hb, hml, hown, hts⟩ hK hG hZ hS (k_X6_readBoth_7 l D cy ld t a0 ht_a0) hg_0 ⟨callB_of 0 hts (wl_in mw_644) rfl rfl rfl (htl _ mw_36) (htl _ mw_636) hd_yX6_readBoth ⟨(Nat.le_of_ble_eq_true rfl), (Nat.le_of_ble_eq_true rfl)⟩, htl _ mw_637, htl _ mw_638⟩ ht_a0 (by decide) tk_no rfl (tk_w.pick [0, 1, 2] rfl) rfl hl.1 rfl (Nat.le_of_ble_eq_true rfl) dX6_readTest_1 ⟨(Nat.le_of_ble_eq_true rfl), (Nat.le_of_ble_eq_true rfl)⟩ (fun H locs hpo hG hS hq9 => ?_)
  have hf2 := hpo
  refine lv_iconst (v := 0) hx hb dX6_readTest_4 (by decide) ?_
  refine lv_istore_n (lv' := [(1, .int 0), (0, .ref a0)]) hx hb dX6_readTest_5 rfl hl (by decide) rfl (fun ls hl => ?_)
  have hl170 : ∀ (N_l170 : Nat) (v3 : Int32) (H : Heap) (locs : List Loc), 0 ≤ v3.toInt → v3.toInt ≤ 400 → (-1) * v3.toInt + 400 < (N_l170 : Int) → tk_G D cy ld t [] H → va_S (tk_w t [(7, 0, 0), (20, 0, 0), (8, 12, 12)]) s.heap H locs → tk_f D H a0 6 9 (.int 7) → ∀ ls : Array Slot, lv_has ls 3 [(1, .int v3), (0, .ref a0)] → W p l e ({ frames := 17, cells := 0, slots := 0, locals := 1120 }) s m args below meth c H locs 0 0 (MQ below (tv D cy ld t [] (fun H => tk_f D H a0 6 9 (.int 7)) (tk_w t [(7, 0, 0), (20, 0, 0), (8, 12, 12)])) args s 0 0 (tk_w t [(7, 0, 0), (20, 0, 0), (8, 12, 12)])) (F0 m 6 ls []) := by
    intro N_l170
    induction N_l170 with
    | zero => intro v3 H locs hq0_l170 hq1_l170 hm_l170 hG hS hf2 ls hl; exfalso; omega
    | succ N_l170 ih_l170 =>
      intro v3 H locs hq0_l170 hq1_l170 hm_l170 hG hS hf2 ls hl
      refine lv_iload_n hx hb dX6_readTest_6 rfl (lv_at hl 0 rfl) ?_
      refine lv_sipush (v := 400) hx hb dX6_readTest_7 (by decide) ?_
      refine lv_icmp_ge (tgt := 58) hx hb dX6_readTest_10 (by decide) (fun c9 => ?_) (fun c9 => ?_)
      · have hc171 : 400 ≤ v3.toInt := (fi_le (show (400 : Int32).toInt = 400 by decide) rfl).mp c9
        exact tk_vret hx hb hr hlocks (show tk_f D H a0 6 9 (.int 7) from hf2) hG hS dX6_readTest_58
      · have hc171 : ¬ (400 ≤ v3.toInt) := fun h9 => c9 ((fi_le (show (400 : Int32).toInt = 400 by decide) rfl).mpr h9)
        refine lv_aload_n hx hb dX6_readTest_13 rfl (lv_at hl 1 rfl) ?_
        refine va_ldcS hx hb hown hK.2.2.2.2.2.2.2.2.2.2.2.2.2.2 dX6_readTest_14 ?_
        refine tk_Vi (As := [.ref (ld 10)]) (rest := []) (ci := 6) ⟨hx, hb, hml, hown, hts⟩ hK hG hZ hS (k_X6_isWord_10 l D cy ld t a0 ht_a0) trivial ⟨callB_of 1 hts (wl_in mw_626) rfl rfl rfl (htl _ mw_36) (htl _ mw_623) hd_yX6_isWord ⟨(Nat.le_of_ble_eq_true rfl), (Nat.le_of_ble_eq_true rfl)⟩, htl _ mw_624, htl _ mw_625⟩ ht_a0 (by decide) tk_no rfl (tk_w.pick [] rfl) rfl hl.1 rfl (Nat.le_of_ble_eq_true rfl) dX6_readTest_16 ⟨(Nat.le_of_ble_eq_true rfl), (Nat.le_of_ble_eq_true rfl)⟩ (fun v172 H locs hpo hG hS hq9 => ?_)
        have hf2 := hf2.call hq9 tk_w.nil
        obtain ⟨hpo174, hpo175, hpo176, hpo177⟩ := hpo
        refine lv_if_eq (tgt := 58) hx hb dX6_readTest_19 (by decide) (fun c9 => ?_) (fun c9 => ?_)
        · have hc178 : v172.toInt = 0 := (fi_eq rfl (show (0 : Int32).toInt = 0 by decide)).mp c9
          exact tk_vret hx hb hr hlocks (show tk_f D H a0 6 9 (.int 7) from hf2) hG hS dX6_readTest_58
        · have hc178 : ¬ (v172.toInt = 0) := fun h9 => c9 ((fi_eq rfl (show (0 : Int32).toInt = 0 by decide)).mpr h9)
          refine lv_aload_n hx hb dX6_readTest_22 rfl (lv_at hl 1 rfl) ?_
          refine tk_get (ci := 6) (C := RX6) (T := TX6) (N := 11) (sp := (6, 8, 512, 12)) hx hb htl inX6 hown hK hG ht_a0 (by decide) tk_no rfl 0 (by decide) (htl _ mw_132) (fun _ h9 => h9) rfl dX6_readTest_23 (fun v9 hf179 hV9 => ?_)
          obtain ⟨b180, rfl, ht_b180⟩ := hV9
          have ht_b180 : t b180 = (8, 512, 12) := ht_b180
          refine tk_get (ci := 7) (C := RX7) (T := TX7) (N := 10) (sp := (4, 0, 0, 0)) hx hb htl inX7 hown hK hG ht_b180 (by decide) tk_no rfl 6 (by decide) (htl _ mw_513) (fun _ h9 => h9) rfl dX6_readTest_26 (fun v9 hf181 hV9 => ?_)
          obtain ⟨v182, rfl, (ha_v182 : 0 ≤ v182.toInt), (hb_v182 : v182.toInt ≤ 512)⟩ := hV9
          refine lv_istore_n (lv' := [(2, .int v182), (1, .int v3), (0, .ref a0)]) hx hb dX6_readTest_29 rfl hl (by decide) rfl (fun ls hl => ?_)
          refine lv_aload_n hx hb dX6_readTest_30 rfl (lv_at hl 2 rfl) ?_
          refine tk_get (ci := 6) (C := RX6) (T := TX6) (N := 11) (sp := (6, 8, 512, 12)) hx hb htl inX6 hown hK hG ht_a0 (by decide) tk_no rfl 0 (by decide) (htl _ mw_132) (fun _ h9 => h9) rfl dX6_readTest_31 (fun v9 hf183 hV9 => ?_)
          obtain ⟨b184, rfl, ht_b184⟩ := hV9
          have ht_b184 : t b184 = (8, 512, 12) := ht_b184
          refine lv_iconst (v := 5) hx hb dX6_readTest_34 (by decide) ?_
          refine lv_iconst (v := 0) hx hb dX6_readTest_35 (by decide) ?_
          have hk_5 : (5 : Int32).toInt = 5 := by decide
          have hk_0 : (0 : Int32).toInt = 0 := by decide
          refine tk_Vv (As := [.int 5, .int 0]) (rest := []) (ci := 7) ⟨hx, hb, hml, hown, hts⟩ hK hG hZ hS (k_X7_put l D cy ld t b184 5 0 ht_b184) trivial ⟨callB_of 2 hts (wl_in mw_594) rfl rfl rfl (htl _ mw_131) (htl _ mw_591) hd_yX7_put ⟨(Nat.le_of_ble_eq_true rfl), (Nat.le_of_ble_eq_true rfl)⟩, htl _ mw_592, htl _ mw_593⟩ ht_b184 (by decide) tk_no rfl (tk_w.pick [1, 2] rfl) rfl hl.1 rfl (Nat.le_of_ble_eq_true rfl) dX6_readTest_36 ⟨(Nat.le_of_ble_eq_true rfl), (Nat.le_of_ble_eq_true rfl)⟩ (fun H locs hpo hG hS hq9 => ?_)
          have hf2 := hf2.call hq9 (tk_w.no ht_a0 (by decide))
          refine lv_aload_n hx hb dX6_readTest_39 rfl (lv_at hl 2 rfl) ?_
          have hk_7 : (7 : Int32).toInt = 7 := by decide
          refine tk_Vv (As := []) (rest := []) (ci := 6) ⟨hx, hb, hml, hown, hts⟩ hK hG hZ hS (k_X6_step l D cy ld t a0 7 ht_a0 (by omega) (by omega)) hf2 ⟨callB_of 0 hts (wl_in mw_494) rfl rfl rfl (htl _ mw_36) (htl _ mw_491) hd_yX6_step ⟨(Nat.le_of_ble_eq_true rfl), (Nat.le_of_ble_eq_true rfl)⟩, htl _ mw_492, htl _ mw_493⟩ ht_a0 (by decide) tk_no rfl (tk_w.pick [0] rfl) rfl hl.1 rfl (Nat.le_of_ble_eq_true rfl) dX6_readTest_40 ⟨(Nat.le_of_ble_eq_true rfl), (Nat.le_of_ble_eq_true rfl)⟩ (fun H locs hpo hG hS hq9 => ?_)
          have hf187 := hpo
          refine lv_aload_n hx hb dX6_readTest_43 rfl (lv_at hl 2 rfl) ?_
          refine tk_Vv (As := []) (rest := []) (ci := 6) ⟨hx, hb, hml, hown, hts⟩ hK hG hZ hS (k_X6_readBoth_7 l D cy ld t a0 ht_a0) hf187 ⟨callB_of 0 hts (wl_in mw_644) rfl rfl rfl (htl _ mw_36) (htl _ mw_636) hd_yX6_readBoth ⟨(Nat.le_of_ble_eq_true rfl), (Nat.le_of_ble_eq_true rfl)⟩, htl _ mw_637, htl _ mw_638⟩ ht_a0 (by decide) tk_no rfl (tk_w.pick [0, 1, 2] rfl) rfl hl.1 rfl (Nat.le_of_ble_eq_true rfl) dX6_readTest_44 ⟨(Nat.le_of_ble_eq_true rfl), (Nat.le_of_ble_eq_true rfl)⟩ (fun H locs hpo hG hS hq9 => ?_)
          have hf189 := hpo
          refine lv_aload_n hx hb dX6_readTest_47 rfl (lv_at hl 2 rfl) ?_
          refine lv_iload_n hx hb dX6_readTest_48 rfl (lv_at hl 0 rfl) ?_
          refine tk_Vv (As := [.int v182]) (rest := []) (ci := 6) ⟨hx, hb, hml, hown, hts⟩ hK hG hZ hS (k_X6_landHere l D cy ld t a0 v182 ht_a0 (by omega) (by omega)) trivial ⟨callB_of 1 hts (wl_in mw_642) rfl rfl rfl (htl _ mw_36) (htl _ mw_639) hd_yX6_landHere ⟨(Nat.le_of_ble_eq_true rfl), (Nat.le_of_ble_eq_true rfl)⟩, htl _ mw_640, htl _ mw_641⟩ ht_a0 (by decide) tk_no rfl (tk_w.pick [1] rfl) rfl hl.1 rfl (Nat.le_of_ble_eq_true rfl) dX6_readTest_49 ⟨(Nat.le_of_ble_eq_true rfl), (Nat.le_of_ble_eq_true rfl)⟩ (fun H locs hpo hG hS hq9 => ?_)
          have hf189 := hf189.call hq9 (tk_w.no ht_a0 (by decide))
          obtain ⟨v191, h_v191, e_v191⟩ := tk_inc v3 1 (by decide) (by omega) (by omega)
          refine lv_iinc (v := v191) (lv' := [(1, .int v191), (2, .int v182), (0, .ref a0)]) hx hb dX6_readTest_52 hl (k := 1) rfl e_v191 (by decide) rfl (fun ls hl => ?_)
          refine lv_goto (tgt := 6) hx hb dX6_readTest_55 (by decide) ?_
          exact ih_l170 v191 _ _ (by omega) (by omega) (by omega) hG hS hf189 _ (lv_sub hl [0, 2] rfl)
  have hk_0 : (0 : Int32).toInt = 0 := by decide
  exact hl170 401 0 _ _ (by omega) (by omega) (by omega) hG hS hf2 _ (lv_sub hl [0, 1] rfl)
set_option maxHeartbeats 4000000 in
set_option maxRecDepth 100000 in
theorem k_X6_readPlain_6 (l : Launch) (D : va_G) (cy : Nat → ClassId) (ld : Nat → Nat) (t : tk_T) (a0 : Nat) (ht_a0 : t a0 = (7, 0, 0)) : Met l yX6_readPlain (wl yX6_readPlain cX6_readPlain 3 none) ({ frames := 18, cells := 0, slots := 0, locals := 1190 }) (tp D cy ld t [] [.ref a0] (fun H => tk_f D H a0 6 9 (.int 6))) (tv D cy ld t [] (fun H => tk_f D H a0 6 9 (.int 6)) (tk_w t [(7, 0, 0), (20, 0, 0), (8, 12, 12)])) 0 0 (tk_w t [(7, 0, 0), (20, 0, 0), (8, 12, 12)]) := by
  refine tk_met (y := yX6_readPlain) (cc := cX6_readPlain) (maxL := 3) (ret := none) (av := [.ref a0]) _ _ (by decide) (Nat.le_of_ble_eq_true rfl) ?_
  intro p e s m args below meth c hx hb hr hml hts htl hown hlocks hK H locs hH hG hS hB hZ ls hl
  have hown : s.vm.findClass RX6 = some m.cls := hown
  have hl : lv_has ls 3 [(0, .ref a0)] := hl
  have hg_0 := hB
  refine lv_iconst (v := 0) hx hb dX6_readPlain_0 (by decide) ?_
  refine lv_istore_n (lv' := [(1, .int 0), (0, .ref a0)]) hx hb dX6_readPlain_1 rfl hl (by decide) rfl (fun ls hl => ?_)
  refine lv_iconst (v := 0) hx hb dX6_readPlain_2 (by decide) ?_
  refine lv_istore_n (lv' := [(2, .int 0), (1, .int 0), (0, .ref a0)]) hx hb dX6_readPlain_3 rfl hl (by decide) rfl (fun ls hl => ?_)
  have hl975 : ∀ (N_l975 : Nat) (v1 : Int32) (v2 : Int32) (H : Heap) (locs : List Loc), 0 ≤ v2.toInt → v2.toInt ≤ 1 → 0 ≤ v1.toInt + (-1) * v2.toInt → v1.toInt ≤ 400 → (-1) * v1.toInt + 400 < (N_l975 : Int) → tk_G D cy ld t [] H → va_S (tk_w t [(7, 0, 0), (20, 0, 0), (8, 12, 12)]) s.heap H locs → tk_f D H a0 6 9 (.int 6) → ∀ ls : Array Slot, lv_has ls 3 [(2, .int v1), (1, .int v2), (0, .ref a0)] → W p l e ({ frames := 18, cells := 0, slots := 0, locals := 1190 }) s m args below meth c H locs 0 0 (MQ below (tv D cy ld t [] (fun H => tk_f D H a0 6 9 (.int 6)) (tk_w t [(7, 0, 0), (20, 0, 0), (8, 12, 12)])) args s 0 0 (tk_w t [(7, 0, 0), (20, 0, 0), (8, 12, 12)])) (F0 m 4 ls []) := by
    intro N_l975
    induction N_l975 with
    | zero => intro v1 v2 H locs hq0_l975 hq1_l975 hq2_l975 hq3_l975 hm_l975 hG hS hg_0 ls hl; exfalso; omega
    | succ N_l975 ih_l975 =>
      intro v1 v2 H locs hq0_l975 hq1_l975 hq2_l975 hq3_l975 hm_l975 hG hS hg_0 ls hl
      refine lv_iload_n hx hb dX6_readPlain_4 rfl (lv_at hl 0 rfl) ?_
      refine lv_sipush (v := 400) hx hb dX6_readPlain_5 (by decide) ?_
      have hj993 : ∀ (H : Heap) (locs : List Loc), tk_G D cy ld t [] H → va_S (tk_w t [(7, 0, 0), (20, 0, 0), (8, 12, 12)]) s.heap H locs → tk_f D H a0 6 9 (.int 6) → ∀ ls : Array Slot, lv_has ls 3 [(1, .int v2), (0, .ref a0)] → W p l e ({ frames := 18, cells := 0, slots := 0, locals := 1190 }) s m args below meth c H locs 0 0 (MQ below (tv D cy ld t [] (fun H => tk_f D H a0 6 9 (.int 6)) (tk_w t [(7, 0, 0), (20, 0, 0), (8, 12, 12)])) args s 0 0 (tk_w t [(7, 0, 0), (20, 0, 0), (8, 12, 12)])) (F0 m 40 ls []) := by
        intro H locs hG hS hg_0 ls hl
        refine lv_aload_n hx hb dX6_readPlain_40 rfl (lv_at hl 1 rfl) ?_
        refine lv_bipush (v := 40) hx hb dX6_readPlain_41 (by decide) ?_
        have hk_40 : (40 : Int32).toInt = 40 := by decide
        refine tk_Vi (As := [.int 40]) (rest := []) (ci := 6) ⟨hx, hb, hml, hown, hts⟩ hK hG hZ hS (k_X6_isSign l D cy ld t a0 40 ht_a0) trivial ⟨callB_of 1 hts (wl_in mw_590) rfl rfl rfl (htl _ mw_36) (htl _ mw_587) hd_yX6_isSign ⟨(Nat.le_of_ble_eq_true rfl), (Nat.le_of_ble_eq_true rfl)⟩, htl _ mw_588, htl _ mw_589⟩ ht_a0 (by decide) tk_no rfl (tk_w.pick [] rfl) rfl hl.1 rfl (Nat.le_of_ble_eq_true rfl) dX6_readPlain_43 ⟨(Nat.le_of_ble_eq_true rfl), (Nat.le_of_ble_eq_true rfl)⟩ (fun v994 H locs hpo hG hS hq9 => ?_)
        have hg_0 := hg_0.call hq9 tk_w.nil
        obtain ⟨hpo996, hpo997, hpo998, hpo999⟩ := hpo
        refine lv_if_eq (tgt := 79) hx hb dX6_readPlain_46 (by decide) (fun c9 => ?_) (fun c9 => ?_)
        · have hc1000 : v994.toInt = 0 := (fi_eq rfl (show (0 : Int32).toInt = 0 by decide)).mp c9
          refine lv_aload_n hx hb dX6_readPlain_79 rfl (lv_at hl 1 rfl) ?_
          refine tk_Vv (As := []) (rest := []) (ci := 6) ⟨hx, hb, hml, hown, hts⟩ hK hG hZ hS (k_X6_readSum_6 l D cy ld t a0 ht_a0) hg_0 ⟨callB_of 0 hts (wl_in mw_583) rfl rfl rfl (htl _ mw_36) (htl _ mw_580) hd_yX6_readSum ⟨(Nat.le_of_ble_eq_true rfl), (Nat.le_of_ble_eq_true rfl)⟩, htl _ mw_581, htl _ mw_582⟩ ht_a0 (by decide) tk_no rfl (tk_w.pick [0, 1, 2] rfl) rfl hl.1 rfl (Nat.le_of_ble_eq_true rfl) dX6_readPlain_80 ⟨(Nat.le_of_ble_eq_true rfl), (Nat.le_of_ble_eq_true rfl)⟩ (fun H locs hpo hG hS hq9 => ?_)
          have hf1002 := hpo
          refine lv_aload_n hx hb dX6_readPlain_83 rfl (lv_at hl 1 rfl) ?_
          refine lv_bipush (v := 60) hx hb dX6_readPlain_84 (by decide) ?_
          have hk_60 : (60 : Int32).toInt = 60 := by decide
          refine tk_Vi (As := [.int 60]) (rest := []) (ci := 6) ⟨hx, hb, hml, hown, hts⟩ hK hG hZ hS (k_X6_isSign l D cy ld t a0 60 ht_a0) trivial ⟨callB_of 1 hts (wl_in mw_590) rfl rfl rfl (htl _ mw_36) (htl _ mw_587) hd_yX6_isSign ⟨(Nat.le_of_ble_eq_true rfl), (Nat.le_of_ble_eq_true rfl)⟩, htl _ mw_588, htl _ mw_589⟩ ht_a0 (by decide) tk_no rfl (tk_w.pick [] rfl) rfl hl.1 rfl (Nat.le_of_ble_eq_true rfl) dX6_readPlain_86 ⟨(Nat.le_of_ble_eq_true rfl), (Nat.le_of_ble_eq_true rfl)⟩ (fun v1003 H locs hpo hG hS hq9 => ?_)
          have hf1002 := hf1002.call hq9 tk_w.nil
          obtain ⟨hpo1005, hpo1006, hpo1007, hpo1008⟩ := hpo
          have hj1021 : ∀ (v1019 : Int32) (H : Heap) (locs : List Loc), 11 ≤ v1019.toInt → v1019.toInt ≤ 13 → tk_G D cy ld t [] H → va_S (tk_w t [(7, 0, 0), (20, 0, 0), (8, 12, 12)]) s.heap H locs → tk_f D H a0 6 9 (.int 6) → ∀ ls : Array Slot, lv_has ls 3 [(1, .int v2), (0, .ref a0)] → W p l e ({ frames := 18, cells := 0, slots := 0, locals := 1190 }) s m args below meth c H locs 0 0 (MQ below (tv D cy ld t [] (fun H => tk_f D H a0 6 9 (.int 6)) (tk_w t [(7, 0, 0), (20, 0, 0), (8, 12, 12)])) args s 0 0 (tk_w t [(7, 0, 0), (20, 0, 0), (8, 12, 12)])) (F0 m 113 ls [.int v1019]) := by
            intro v1019 H locs hq0_j1021 hq1_j1021 hG hS hf1002 ls hl
            refine lv_istore_n (lv' := [(2, .int v1019), (1, .int v2), (0, .ref a0)]) hx hb dX6_readPlain_113 rfl hl (by decide) rfl (fun ls hl => ?_)
            refine lv_iload_n hx hb dX6_readPlain_114 rfl (lv_at hl 0 rfl) ?_
            refine lv_bipush (v := 13) hx hb dX6_readPlain_115 (by decide) ?_
            refine lv_icmp_ne (tgt := 134) hx hb dX6_readPlain_117 (by decide) (fun c9 => ?_) (fun c9 => ?_)
            · have hc1022 : ¬ (v1019.toInt = 13) := fun h9 => c9 ((fi_eq rfl (show (13 : Int32).toInt = 13 by decide)).mpr h9)
              refine lv_aload_n hx hb dX6_readPlain_134 rfl (lv_at hl 2 rfl) ?_
              have hk_6 : (6 : Int32).toInt = 6 := by decide
              refine tk_Vv (As := []) (rest := []) (ci := 6) ⟨hx, hb, hml, hown, hts⟩ hK hG hZ hS (k_X6_step l D cy ld t a0 6 ht_a0 (by omega) (by omega)) hf1002 ⟨callB_of 0 hts (wl_in mw_494) rfl rfl rfl (htl _ mw_36) (htl _ mw_491) hd_yX6_step ⟨(Nat.le_of_ble_eq_true rfl), (Nat.le_of_ble_eq_true rfl)⟩, htl _ mw_492, htl _ mw_493⟩ ht_a0 (by decide) tk_no rfl (tk_w.pick [0] rfl) rfl hl.1 rfl (Nat.le_of_ble_eq_true rfl) dX6_readPlain_135 ⟨(Nat.le_of_ble_eq_true rfl), (Nat.le_of_ble_eq_true rfl)⟩ (fun H locs hpo hG hS hq9 => ?_)
              have hf1024 := hpo
              refine lv_aload_n hx hb dX6_readPlain_138 rfl (lv_at hl 2 rfl) ?_
              refine tk_Vv (As := []) (rest := []) (ci := 6) ⟨hx, hb, hml, hown, hts⟩ hK hG hZ hS (k_X6_readSum_6 l D cy ld t a0 ht_a0) hf1024 ⟨callB_of 0 hts (wl_in mw_583) rfl rfl rfl (htl _ mw_36) (htl _ mw_580) hd_yX6_readSum ⟨(Nat.le_of_ble_eq_true rfl), (Nat.le_of_ble_eq_true rfl)⟩, htl _ mw_581, htl _ mw_582⟩ ht_a0 (by decide) tk_no rfl (tk_w.pick [0, 1, 2] rfl) rfl hl.1 rfl (Nat.le_of_ble_eq_true rfl) dX6_readPlain_139 ⟨(Nat.le_of_ble_eq_true rfl), (Nat.le_of_ble_eq_true rfl)⟩ (fun H locs hpo hG hS hq9 => ?_)
              have hf1026 := hpo
              refine lv_aload_n hx hb dX6_readPlain_142 rfl (lv_at hl 2 rfl) ?_
              refine tk_get (ci := 6) (C := RX6) (T := TX6) (N := 11) (sp := (6, 8, 512, 12)) hx hb htl inX6 hown hK hG ht_a0 (by decide) tk_no rfl 0 (by decide) (htl _ mw_132) (fun _ h9 => h9) rfl dX6_readPlain_143 (fun v9 hf1027 hV9 => ?_)
              obtain ⟨b1028, rfl, ht_b1028⟩ := hV9
              have ht_b1028 : t b1028 = (8, 512, 12) := ht_b1028
              refine lv_iload_n hx hb dX6_readPlain_146 rfl (lv_at hl 0 rfl) ?_
              refine lv_iconst (v := 0) hx hb dX6_readPlain_147 (by decide) ?_
              have hk_0 : (0 : Int32).toInt = 0 := by decide
              refine tk_Vv (As := [.int v1019, .int 0]) (rest := []) (ci := 7) ⟨hx, hb, hml, hown, hts⟩ hK hG hZ hS (k_X7_put l D cy ld t b1028 v1019 0 ht_b1028) trivial ⟨callB_of 2 hts (wl_in mw_594) rfl rfl rfl (htl _ mw_131) (htl _ mw_591) hd_yX7_put ⟨(Nat.le_of_ble_eq_true rfl), (Nat.le_of_ble_eq_true rfl)⟩, htl _ mw_592, htl _ mw_593⟩ ht_b1028 (by decide) tk_no rfl (tk_w.pick [1, 2] rfl) rfl hl.1 rfl (Nat.le_of_ble_eq_true rfl) dX6_readPlain_148 ⟨(Nat.le_of_ble_eq_true rfl), (Nat.le_of_ble_eq_true rfl)⟩ (fun H locs hpo hG hS hq9 => ?_)
              have hf1026 := hf1026.call hq9 (tk_w.no ht_a0 (by decide))
              refine lv_iload_n hx hb dX6_readPlain_151 rfl (lv_at hl 1 rfl) ?_
              refine lv_if_eq (tgt := 164) hx hb dX6_readPlain_152 (by decide) (fun c9 => ?_) (fun c9 => ?_)
              · have hc1030 : v2.toInt = 0 := (fi_eq rfl (show (0 : Int32).toInt = 0 by decide)).mp c9
                exact tk_vret hx hb hr hlocks (show tk_f D H a0 6 9 (.int 6) from hf1026) hG hS dX6_readPlain_164
              · have hc1030 : ¬ (v2.toInt = 0) := fun h9 => c9 ((fi_eq rfl (show (0 : Int32).toInt = 0 by decide)).mpr h9)
                refine lv_aload_n hx hb dX6_readPlain_155 rfl (lv_at hl 2 rfl) ?_
                refine tk_get (ci := 6) (C := RX6) (T := TX6) (N := 11) (sp := (6, 8, 512, 12)) hx hb htl inX6 hown hK hG ht_a0 (by decide) tk_no rfl 0 (by decide) (htl _ mw_132) (fun _ h9 => h9) rfl dX6_readPlain_156 (fun v9 hf1031 hV9 => ?_)
                obtain ⟨b1032, rfl, ht_b1032⟩ := hV9
                have ht_b1032 : t b1032 = (8, 512, 12) := ht_b1032
                refine lv_iconst (v := 3) hx hb dX6_readPlain_159 (by decide) ?_
                refine lv_iconst (v := 0) hx hb dX6_readPlain_160 (by decide) ?_
                have hk_3 : (3 : Int32).toInt = 3 := by decide
                have hk_0 : (0 : Int32).toInt = 0 := by decide
                refine tk_Vv (As := [.int 3, .int 0]) (rest := []) (ci := 7) ⟨hx, hb, hml, hown, hts⟩ hK hG hZ hS (k_X7_put l D cy ld t b1032 3 0 ht_b1032) trivial ⟨callB_of 2 hts (wl_in mw_594) rfl rfl rfl (htl _ mw_131) (htl _ mw_591) hd_yX7_put ⟨(Nat.le_of_ble_eq_true rfl), (Nat.le_of_ble_eq_true rfl)⟩, htl _ mw_592, htl _ mw_593⟩ ht_b1032 (by decide) tk_no rfl (tk_w.pick [1, 2] rfl) rfl hl.1 rfl (Nat.le_of_ble_eq_true rfl) dX6_readPlain_161 ⟨(Nat.le_of_ble_eq_true rfl), (Nat.le_of_ble_eq_true rfl)⟩ (fun H locs hpo hG hS hq9 => ?_)
                have hf1026 := hf1026.call hq9 (tk_w.no ht_a0 (by decide))
                exact tk_vret hx hb hr hlocks (show tk_f D H a0 6 9 (.int 6) from hf1026) hG hS dX6_readPlain_164
            · have hc1022 : v1019.toInt = 13 := (fi_eq rfl (show (13 : Int32).toInt = 13 by decide)).mp c9
              refine lv_aload_n hx hb dX6_readPlain_120 rfl (lv_at hl 2 rfl) ?_
              refine lv_bipush (v := 61) hx hb dX6_readPlain_121 (by decide) ?_
              have hk_61 : (61 : Int32).toInt = 61 := by decide
              refine tk_Vi (As := [.int 61]) (rest := []) (ci := 6) ⟨hx, hb, hml, hown, hts⟩ hK hG hZ hS (k_X6_isSign l D cy ld t a0 61 ht_a0) trivial ⟨callB_of 1 hts (wl_in mw_590) rfl rfl rfl (htl _ mw_36) (htl _ mw_587) hd_yX6_isSign ⟨(Nat.le_of_ble_eq_true rfl), (Nat.le_of_ble_eq_true rfl)⟩, htl _ mw_588, htl _ mw_589⟩ ht_a0 (by decide) tk_no rfl (tk_w.pick [] rfl) rfl hl.1 rfl (Nat.le_of_ble_eq_true rfl) dX6_readPlain_123 ⟨(Nat.le_of_ble_eq_true rfl), (Nat.le_of_ble_eq_true rfl)⟩ (fun v1034 H locs hpo hG hS hq9 => ?_)
              have hf1002 := hf1002.call hq9 tk_w.nil
              obtain ⟨hpo1036, hpo1037, hpo1038, hpo1039⟩ := hpo
              refine lv_if_ne (tgt := 134) hx hb dX6_readPlain_126 (by decide) (fun c9 => ?_) (fun c9 => ?_)
              · have hc1040 : ¬ (v1034.toInt = 0) := fun h9 => c9 ((fi_eq rfl (show (0 : Int32).toInt = 0 by decide)).mpr h9)
                refine lv_aload_n hx hb dX6_readPlain_134 rfl (lv_at hl 2 rfl) ?_
                have hk_6 : (6 : Int32).toInt = 6 := by decide
                refine tk_Vv (As := []) (rest := []) (ci := 6) ⟨hx, hb, hml, hown, hts⟩ hK hG hZ hS (k_X6_step l D cy ld t a0 6 ht_a0 (by omega) (by omega)) hf1002 ⟨callB_of 0 hts (wl_in mw_494) rfl rfl rfl (htl _ mw_36) (htl _ mw_491) hd_yX6_step ⟨(Nat.le_of_ble_eq_true rfl), (Nat.le_of_ble_eq_true rfl)⟩, htl _ mw_492, htl _ mw_493⟩ ht_a0 (by decide) tk_no rfl (tk_w.pick [0] rfl) rfl hl.1 rfl (Nat.le_of_ble_eq_true rfl) dX6_readPlain_135 ⟨(Nat.le_of_ble_eq_true rfl), (Nat.le_of_ble_eq_true rfl)⟩ (fun H locs hpo hG hS hq9 => ?_)
                have hf1042 := hpo
                refine lv_aload_n hx hb dX6_readPlain_138 rfl (lv_at hl 2 rfl) ?_
                refine tk_Vv (As := []) (rest := []) (ci := 6) ⟨hx, hb, hml, hown, hts⟩ hK hG hZ hS (k_X6_readSum_6 l D cy ld t a0 ht_a0) hf1042 ⟨callB_of 0 hts (wl_in mw_583) rfl rfl rfl (htl _ mw_36) (htl _ mw_580) hd_yX6_readSum ⟨(Nat.le_of_ble_eq_true rfl), (Nat.le_of_ble_eq_true rfl)⟩, htl _ mw_581, htl _ mw_582⟩ ht_a0 (by decide) tk_no rfl (tk_w.pick [0, 1, 2] rfl) rfl hl.1 rfl (Nat.le_of_ble_eq_true rfl) dX6_readPlain_139 ⟨(Nat.le_of_ble_eq_true rfl), (Nat.le_of_ble_eq_true rfl)⟩ (fun H locs hpo hG hS hq9 => ?_)
                have hf1044 := hpo
                refine lv_aload_n hx hb dX6_readPlain_142 rfl (lv_at hl 2 rfl) ?_
                refine tk_get (ci := 6) (C := RX6) (T := TX6) (N := 11) (sp := (6, 8, 512, 12)) hx hb htl inX6 hown hK hG ht_a0 (by decide) tk_no rfl 0 (by decide) (htl _ mw_132) (fun _ h9 => h9) rfl dX6_readPlain_143 (fun v9 hf1045 hV9 => ?_)
                obtain ⟨b1046, rfl, ht_b1046⟩ := hV9
                have ht_b1046 : t b1046 = (8, 512, 12) := ht_b1046
                refine lv_iload_n hx hb dX6_readPlain_146 rfl (lv_at hl 0 rfl) ?_
                refine lv_iconst (v := 0) hx hb dX6_readPlain_147 (by decide) ?_
                have hk_0 : (0 : Int32).toInt = 0 := by decide
                refine tk_Vv (As := [.int v1019, .int 0]) (rest := []) (ci := 7) ⟨hx, hb, hml, hown, hts⟩ hK hG hZ hS (k_X7_put l D cy ld t b1046 v1019 0 ht_b1046) trivial ⟨callB_of 2 hts (wl_in mw_594) rfl rfl rfl (htl _ mw_131) (htl _ mw_591) hd_yX7_put ⟨(Nat.le_of_ble_eq_true rfl), (Nat.le_of_ble_eq_true rfl)⟩, htl _ mw_592, htl _ mw_593⟩ ht_b1046 (by decide) tk_no rfl (tk_w.pick [1, 2] rfl) rfl hl.1 rfl (Nat.le_of_ble_eq_true rfl) dX6_readPlain_148 ⟨(Nat.le_of_ble_eq_true rfl), (Nat.le_of_ble_eq_true rfl)⟩ (fun H locs hpo hG hS hq9 => ?_)
                have hf1044 := hf1044.call hq9 (tk_w.no ht_a0 (by decide))
                refine lv_iload_n hx hb dX6_readPlain_151 rfl (lv_at hl 1 rfl) ?_
                refine lv_if_eq (tgt := 164) hx hb dX6_readPlain_152 (by decide) (fun c9 => ?_) (fun c9 => ?_)
                · have hc1048 : v2.toInt = 0 := (fi_eq rfl (show (0 : Int32).toInt = 0 by decide)).mp c9
                  exact tk_vret hx hb hr hlocks (show tk_f D H a0 6 9 (.int 6) from hf1044) hG hS dX6_readPlain_164
                · have hc1048 : ¬ (v2.toInt = 0) := fun h9 => c9 ((fi_eq rfl (show (0 : Int32).toInt = 0 by decide)).mpr h9)
                  refine lv_aload_n hx hb dX6_readPlain_155 rfl (lv_at hl 2 rfl) ?_
                  refine tk_get (ci := 6) (C := RX6) (T := TX6) (N := 11) (sp := (6, 8, 512, 12)) hx hb htl inX6 hown hK hG ht_a0 (by decide) tk_no rfl 0 (by decide) (htl _ mw_132) (fun _ h9 => h9) rfl dX6_readPlain_156 (fun v9 hf1049 hV9 => ?_)
                  obtain ⟨b1050, rfl, ht_b1050⟩ := hV9
                  have ht_b1050 : t b1050 = (8, 512, 12) := ht_b1050
                  refine lv_iconst (v := 3) hx hb dX6_readPlain_159 (by decide) ?_
                  refine lv_iconst (v := 0) hx hb dX6_readPlain_160 (by decide) ?_
                  have hk_3 : (3 : Int32).toInt = 3 := by decide
                  have hk_0 : (0 : Int32).toInt = 0 := by decide
                  refine tk_Vv (As := [.int 3, .int 0]) (rest := []) (ci := 7) ⟨hx, hb, hml, hown, hts⟩ hK hG hZ hS (k_X7_put l D cy ld t b1050 3 0 ht_b1050) trivial ⟨callB_of 2 hts (wl_in mw_594) rfl rfl rfl (htl _ mw_131) (htl _ mw_591) hd_yX7_put ⟨(Nat.le_of_ble_eq_true rfl), (Nat.le_of_ble_eq_true rfl)⟩, htl _ mw_592, htl _ mw_593⟩ ht_b1050 (by decide) tk_no rfl (tk_w.pick [1, 2] rfl) rfl hl.1 rfl (Nat.le_of_ble_eq_true rfl) dX6_readPlain_161 ⟨(Nat.le_of_ble_eq_true rfl), (Nat.le_of_ble_eq_true rfl)⟩ (fun H locs hpo hG hS hq9 => ?_)
                  have hf1044 := hf1044.call hq9 (tk_w.no ht_a0 (by decide))
                  exact tk_vret hx hb hr hlocks (show tk_f D H a0 6 9 (.int 6) from hf1044) hG hS dX6_readPlain_164
              · have hc1040 : v1034.toInt = 0 := (fi_eq rfl (show (0 : Int32).toInt = 0 by decide)).mp c9
                refine lv_aload_n hx hb dX6_readPlain_129 rfl (lv_at hl 2 rfl) ?_
                have hk_6 : (6 : Int32).toInt = 6 := by decide
                refine tk_Vv (As := []) (rest := []) (ci := 6) ⟨hx, hb, hml, hown, hts⟩ hK hG hZ hS (k_X6_fail l D cy ld t a0 6 ht_a0 (by omega) (by omega)) hf1002 ⟨callB_of 0 hts (wl_in mw_507) rfl rfl rfl (htl _ mw_36) (htl _ mw_504) hd_yX6_fail ⟨(Nat.le_of_ble_eq_true rfl), (Nat.le_of_ble_eq_true rfl)⟩, htl _ mw_505, htl _ mw_506⟩ ht_a0 (by decide) tk_no rfl (tk_w.pick [0] rfl) rfl hl.1 rfl (Nat.le_of_ble_eq_true rfl) dX6_readPlain_130 ⟨(Nat.le_of_ble_eq_true rfl), (Nat.le_of_ble_eq_true rfl)⟩ (fun H locs hpo hG hS hq9 => ?_)
                have hf1053 := hpo
                exact tk_vret hx hb hr hlocks (show tk_f D H a0 6 9 (.int 6) from hf1053) hG hS dX6_readPlain_133
          refine lv_if_eq (tgt := 97) hx hb dX6_readPlain_89 (by decide) (fun c9 => ?_) (fun c9 => ?_)
          · have hc1009 : v1003.toInt = 0 := (fi_eq rfl (show (0 : Int32).toInt = 0 by decide)).mp c9
            refine lv_aload_n hx hb dX6_readPlain_97 rfl (lv_at hl 1 rfl) ?_
            refine lv_bipush (v := 62) hx hb dX6_readPlain_98 (by decide) ?_
            have hk_62 : (62 : Int32).toInt = 62 := by decide
            refine tk_Vi (As := [.int 62]) (rest := []) (ci := 6) ⟨hx, hb, hml, hown, hts⟩ hK hG hZ hS (k_X6_isSign l D cy ld t a0 62 ht_a0) trivial ⟨callB_of 1 hts (wl_in mw_590) rfl rfl rfl (htl _ mw_36) (htl _ mw_587) hd_yX6_isSign ⟨(Nat.le_of_ble_eq_true rfl), (Nat.le_of_ble_eq_true rfl)⟩, htl _ mw_588, htl _ mw_589⟩ ht_a0 (by decide) tk_no rfl (tk_w.pick [] rfl) rfl hl.1 rfl (Nat.le_of_ble_eq_true rfl) dX6_readPlain_100 ⟨(Nat.le_of_ble_eq_true rfl), (Nat.le_of_ble_eq_true rfl)⟩ (fun v1054 H locs hpo hG hS hq9 => ?_)
            have hf1002 := hf1002.call hq9 tk_w.nil
            obtain ⟨hpo1056, hpo1057, hpo1058, hpo1059⟩ := hpo
            refine lv_if_eq (tgt := 111) hx hb dX6_readPlain_103 (by decide) (fun c9 => ?_) (fun c9 => ?_)
            · have hc1060 : v1054.toInt = 0 := (fi_eq rfl (show (0 : Int32).toInt = 0 by decide)).mp c9
              refine lv_bipush (v := 13) hx hb dX6_readPlain_111 (by decide) ?_
              have hk_13 : (13 : Int32).toInt = 13 := by decide
              exact hj1021 13 _ _ (by omega) (by omega) hG hS hf1002 _ (lv_sub hl [0, 1] rfl)
            · have hc1060 : ¬ (v1054.toInt = 0) := fun h9 => c9 ((fi_eq rfl (show (0 : Int32).toInt = 0 by decide)).mpr h9)
              refine lv_bipush (v := 12) hx hb dX6_readPlain_106 (by decide) ?_
              refine lv_goto (tgt := 113) hx hb dX6_readPlain_108 (by decide) ?_
              have hk_12 : (12 : Int32).toInt = 12 := by decide
              exact hj1021 12 _ _ (by omega) (by omega) hG hS hf1002 _ (lv_sub hl [0, 1] rfl)
          · have hc1009 : ¬ (v1003.toInt = 0) := fun h9 => c9 ((fi_eq rfl (show (0 : Int32).toInt = 0 by decide)).mpr h9)
            refine lv_bipush (v := 11) hx hb dX6_readPlain_92 (by decide) ?_
            refine lv_goto (tgt := 113) hx hb dX6_readPlain_94 (by decide) ?_
            have hk_11 : (11 : Int32).toInt = 11 := by decide
            exact hj1021 11 _ _ (by omega) (by omega) hG hS hf1002 _ (lv_sub hl [0, 1] rfl)
        · have hc1000 : ¬ (v994.toInt = 0) := fun h9 => c9 ((fi_eq rfl (show (0 : Int32).toInt = 0 by decide)).mpr h9)
          refine lv_aload_n hx hb dX6_readPlain_49 rfl (lv_at hl 1 rfl) ?_
          refine tk_Vi (As := []) (rest := []) (ci := 6) ⟨hx, hb, hml, hown, hts⟩ hK hG hZ hS (k_X6_goDeeper_6 l D cy ld t a0 ht_a0) hg_0 ⟨callB_of 0 hts (wl_in mw_599) rfl rfl rfl (htl _ mw_36) (htl _ mw_596) hd_yX6_goDeeper ⟨(Nat.le_of_ble_eq_true rfl), (Nat.le_of_ble_eq_true rfl)⟩, htl _ mw_597, htl _ mw_598⟩ ht_a0 (by decide) tk_no rfl (tk_w.pick [0] rfl) rfl hl.1 rfl (Nat.le_of_ble_eq_true rfl) dX6_readPlain_50 ⟨(Nat.le_of_ble_eq_true rfl), (Nat.le_of_ble_eq_true rfl)⟩ (fun v1061 H locs hpo hG hS hq9 => ?_)
          obtain ⟨hpo1063, hpo1064, hpo1065, hf1066⟩ := hpo
          obtain rfl : v1061 = 1 := (fi_eq (show v1061.toInt = 1 by omega) (by decide)).mpr rfl
          refine lv_if_eq (tgt := 151) hx hb dX6_readPlain_53 (by decide) (fun c9 => absurd c9 (by decide)) (fun _ => ?_)
          refine lv_aload_n hx hb dX6_readPlain_56 rfl (lv_at hl 1 rfl) ?_
          refine tk_Vv (As := []) (rest := []) (ci := 6) ⟨hx, hb, hml, hown, hts⟩ hK hG hZ hS (k_X6_readTest_7 l D cy ld t a0 ht_a0) hf1066 ⟨callB_of 0 hts (wl_in mw_635) rfl rfl rfl (htl _ mw_36) (htl _ mw_632) hd_yX6_readTest ⟨(Nat.le_of_ble_eq_true rfl), (Nat.le_of_ble_eq_true rfl)⟩, htl _ mw_633, htl _ mw_634⟩ ht_a0 (by decide) tk_no rfl (tk_w.pick [0, 1, 2] rfl) rfl hl.1 rfl (Nat.le_of_ble_eq_true rfl) dX6_readPlain_57 ⟨(Nat.le_of_ble_eq_true rfl), (Nat.le_of_ble_eq_true rfl)⟩ (fun H locs hpo hG hS hq9 => ?_)
          have hf1068 := hpo
          refine lv_aload_n hx hb dX6_readPlain_60 rfl (lv_at hl 1 rfl) ?_
          refine lv_bipush (v := 41) hx hb dX6_readPlain_61 (by decide) ?_
          have hk_41 : (41 : Int32).toInt = 41 := by decide
          have hk_7 : (7 : Int32).toInt = 7 := by decide
          refine tk_Vv (As := [.int 41]) (rest := []) (ci := 6) ⟨hx, hb, hml, hown, hts⟩ hK hG hZ hS (k_X6_take l D cy ld t a0 41 7 ht_a0 (by omega) (by omega)) hf1068 ⟨callB_of 1 hts (wl_in mw_603) rfl rfl rfl (htl _ mw_36) (htl _ mw_600) hd_yX6_take ⟨(Nat.le_of_ble_eq_true rfl), (Nat.le_of_ble_eq_true rfl)⟩, htl _ mw_601, htl _ mw_602⟩ ht_a0 (by decide) tk_no rfl (tk_w.pick [0] rfl) rfl hl.1 rfl (Nat.le_of_ble_eq_true rfl) dX6_readPlain_63 ⟨(Nat.le_of_ble_eq_true rfl), (Nat.le_of_ble_eq_true rfl)⟩ (fun H locs hpo hG hS hq9 => ?_)
          have hf1070 := hpo
          refine lv_aload_n hx hb dX6_readPlain_66 rfl (lv_at hl 1 rfl) ?_
          refine lv_dup hx hb dX6_readPlain_67 rfl ?_
          refine tk_getk (ci := 6) (C := RX6) (T := TX6) (N := 11) (sp := (0, 0, 8, 0)) hx hb htl inX6 hown hK hG ht_a0 (by decide) tk_no rfl 9 (by decide) (htl _ mw_480) (fun _ h9 => h9) rfl hf1070 dX6_readPlain_68 ?_
          refine lv_iconst (v := 1) hx hb dX6_readPlain_71 (by decide) ?_
          refine lv_isub hx hb dX6_readPlain_72 ?_
          refine fx_ti (v := 6) (by decide) ?_
          refine tk_put (ci := 6) (v := .int 6) (ty := .int) (C := RX6) (T := TX6) (N := 11) (sp := (0, 0, 8, 0)) hx hb htl inX6 tyX6 tyX6_ok nmX6 hown hK hG hS ht_a0 (by decide) tk_no rfl 9 (by decide) (htl _ mw_480) (fun _ h9 => h9) rfl (tyX6_ok 9 (by decide)) rfl rfl rfl (tk_V0 (by decide) (by decide)) (fun _ h => tk_X7 h (by decide) (by decide)) (tk_w.of ht_a0 (by decide) (List.mem_of_getElem? (i := 0) rfl) (Nat.le_refl _) (Nat.le_refl _)) dX6_readPlain_73 (fun H locs hG hS hf1071 hq9 hj9 => ?_)
          refine lv_goto (tgt := 151) hx hb dX6_readPlain_76 (by decide) ?_
          refine lv_iload_n hx hb dX6_readPlain_151 rfl (lv_at hl 0 rfl) ?_
          refine lv_if_eq (tgt := 164) hx hb dX6_readPlain_152 (by decide) (fun c9 => ?_) (fun c9 => ?_)
          · have hc1073 : v2.toInt = 0 := (fi_eq rfl (show (0 : Int32).toInt = 0 by decide)).mp c9
            exact tk_vret hx hb hr hlocks (show tk_f D H a0 6 9 (.int 6) from hf1071) hG hS dX6_readPlain_164
          · have hc1073 : ¬ (v2.toInt = 0) := fun h9 => c9 ((fi_eq rfl (show (0 : Int32).toInt = 0 by decide)).mpr h9)
            refine lv_aload_n hx hb dX6_readPlain_155 rfl (lv_at hl 1 rfl) ?_
            refine tk_get (ci := 6) (C := RX6) (T := TX6) (N := 11) (sp := (6, 8, 512, 12)) hx hb htl inX6 hown hK hG ht_a0 (by decide) tk_no rfl 0 (by decide) (htl _ mw_132) (fun _ h9 => h9) rfl dX6_readPlain_156 (fun v9 hf1074 hV9 => ?_)
            obtain ⟨b1075, rfl, ht_b1075⟩ := hV9
            have ht_b1075 : t b1075 = (8, 512, 12) := ht_b1075
            refine lv_iconst (v := 3) hx hb dX6_readPlain_159 (by decide) ?_
            refine lv_iconst (v := 0) hx hb dX6_readPlain_160 (by decide) ?_
            have hk_3 : (3 : Int32).toInt = 3 := by decide
            have hk_0 : (0 : Int32).toInt = 0 := by decide
            refine tk_Vv (As := [.int 3, .int 0]) (rest := []) (ci := 7) ⟨hx, hb, hml, hown, hts⟩ hK hG hZ hS (k_X7_put l D cy ld t b1075 3 0 ht_b1075) trivial ⟨callB_of 2 hts (wl_in mw_594) rfl rfl rfl (htl _ mw_131) (htl _ mw_591) hd_yX7_put ⟨(Nat.le_of_ble_eq_true rfl), (Nat.le_of_ble_eq_true rfl)⟩, htl _ mw_592, htl _ mw_593⟩ ht_b1075 (by decide) tk_no rfl (tk_w.pick [1, 2] rfl) rfl hl.1 rfl (Nat.le_of_ble_eq_true rfl) dX6_readPlain_161 ⟨(Nat.le_of_ble_eq_true rfl), (Nat.le_of_ble_eq_true rfl)⟩ (fun H locs hpo hG hS hq9 => ?_)
            have hf1071 := hf1071.call hq9 (tk_w.no ht_a0 (by decide))
            exact tk_vret hx hb hr hlocks (show tk_f D H a0 6 9 (.int 6) from hf1071) hG hS dX6_readPlain_164
      refine lv_icmp_ge (tgt := 40) hx hb dX6_readPlain_8 (by decide) (fun c9 => ?_) (fun c9 => ?_)
      · have hc976 : 400 ≤ v1.toInt := (fi_le (show (400 : Int32).toInt = 400 by decide) rfl).mp c9
        exact hj993 _ _ hG hS hg_0 _ (lv_sub hl [1, 2] rfl)
      · have hc976 : ¬ (400 ≤ v1.toInt) := fun h9 => c9 ((fi_le (show (400 : Int32).toInt = 400 by decide) rfl).mpr h9)
        refine lv_aload_n hx hb dX6_readPlain_11 rfl (lv_at hl 2 rfl) ?_
        refine va_ldcS hx hb hown hK.2.2.2.2.2.2.2.2.2.2.2.2.1 dX6_readPlain_12 ?_
        refine tk_Vi (As := [.ref (ld 8)]) (rest := []) (ci := 6) ⟨hx, hb, hml, hown, hts⟩ hK hG hZ hS (k_X6_isWord_8 l D cy ld t a0 ht_a0) trivial ⟨callB_of 1 hts (wl_in mw_626) rfl rfl rfl (htl _ mw_36) (htl _ mw_623) hd_yX6_isWord ⟨(Nat.le_of_ble_eq_true rfl), (Nat.le_of_ble_eq_true rfl)⟩, htl _ mw_624, htl _ mw_625⟩ ht_a0 (by decide) tk_no rfl (tk_w.pick [] rfl) rfl hl.1 rfl (Nat.le_of_ble_eq_true rfl) dX6_readPlain_14 ⟨(Nat.le_of_ble_eq_true rfl), (Nat.le_of_ble_eq_true rfl)⟩ (fun v1077 H locs hpo hG hS hq9 => ?_)
        have hg_0 := hg_0.call hq9 tk_w.nil
        obtain ⟨hpo1079, hpo1080, hpo1081, hpo1082⟩ := hpo
        refine lv_if_eq (tgt := 40) hx hb dX6_readPlain_17 (by decide) (fun c9 => ?_) (fun c9 => ?_)
        · have hc1083 : v1077.toInt = 0 := (fi_eq rfl (show (0 : Int32).toInt = 0 by decide)).mp c9
          exact hj993 _ _ hG hS hg_0 _ (lv_sub hl [1, 2] rfl)
        · have hc1083 : ¬ (v1077.toInt = 0) := fun h9 => c9 ((fi_eq rfl (show (0 : Int32).toInt = 0 by decide)).mpr h9)
          refine lv_iload_n hx hb dX6_readPlain_20 rfl (lv_at hl 1 rfl) ?_
          have hj1087 : ∀ (v1086 : Int32), 0 ≤ v1086.toInt → v1086.toInt ≤ 1 → ∀ ls : Array Slot, lv_has ls 3 [(2, .int v1), (0, .ref a0)] → W p l e ({ frames := 18, cells := 0, slots := 0, locals := 1190 }) s m args below meth c H locs 0 0 (MQ below (tv D cy ld t [] (fun H => tk_f D H a0 6 9 (.int 6)) (tk_w t [(7, 0, 0), (20, 0, 0), (8, 12, 12)])) args s 0 0 (tk_w t [(7, 0, 0), (20, 0, 0), (8, 12, 12)])) (F0 m 29 ls [.int v1086]) := by
            intro v1086 hq0_j1087 hq1_j1087 ls hl
            refine lv_istore_n (lv' := [(1, .int v1086), (2, .int v1), (0, .ref a0)]) hx hb dX6_readPlain_29 rfl hl (by decide) rfl (fun ls hl => ?_)
            refine lv_aload_n hx hb dX6_readPlain_30 rfl (lv_at hl 2 rfl) ?_
            have hk_6 : (6 : Int32).toInt = 6 := by decide
            refine tk_Vv (As := []) (rest := []) (ci := 6) ⟨hx, hb, hml, hown, hts⟩ hK hG hZ hS (k_X6_step l D cy ld t a0 6 ht_a0 (by omega) (by omega)) hg_0 ⟨callB_of 0 hts (wl_in mw_494) rfl rfl rfl (htl _ mw_36) (htl _ mw_491) hd_yX6_step ⟨(Nat.le_of_ble_eq_true rfl), (Nat.le_of_ble_eq_true rfl)⟩, htl _ mw_492, htl _ mw_493⟩ ht_a0 (by decide) tk_no rfl (tk_w.pick [0] rfl) rfl hl.1 rfl (Nat.le_of_ble_eq_true rfl) dX6_readPlain_31 ⟨(Nat.le_of_ble_eq_true rfl), (Nat.le_of_ble_eq_true rfl)⟩ (fun H locs hpo hG hS hq9 => ?_)
            have hf1089 := hpo
            obtain ⟨v1090, h_v1090, e_v1090⟩ := tk_inc v1 1 (by decide) (by omega) (by omega)
            refine lv_iinc (v := v1090) (lv' := [(2, .int v1090), (1, .int v1086), (0, .ref a0)]) hx hb dX6_readPlain_34 hl (k := 1) rfl e_v1090 (by decide) rfl (fun ls hl => ?_)
            refine lv_goto (tgt := 4) hx hb dX6_readPlain_37 (by decide) ?_
            exact ih_l975 v1090 v1086 _ _ (by omega) (by omega) (by omega) (by omega) (by omega) hG hS hf1089 _ (lv_sub hl [0, 1, 2] rfl)
          refine lv_if_ne (tgt := 28) hx hb dX6_readPlain_21 (by decide) (fun c9 => ?_) (fun c9 => ?_)
          · have hc1084 : ¬ (v2.toInt = 0) := fun h9 => c9 ((fi_eq rfl (show (0 : Int32).toInt = 0 by decide)).mpr h9)
            refine lv_iconst (v := 0) hx hb dX6_readPlain_28 (by decide) ?_
            have hk_0 : (0 : Int32).toInt = 0 := by decide
            exact hj1087 0 (by omega) (by omega) _ (lv_sub hl [0, 2] rfl)
          · have hc1084 : v2.toInt = 0 := (fi_eq rfl (show (0 : Int32).toInt = 0 by decide)).mp c9
            refine lv_iconst (v := 1) hx hb dX6_readPlain_24 (by decide) ?_
            refine lv_goto (tgt := 29) hx hb dX6_readPlain_25 (by decide) ?_
            have hk_1 : (1 : Int32).toInt = 1 := by decide
            exact hj1087 1 (by omega) (by omega) _ (lv_sub hl [0, 2] rfl)
  have hk_0 : (0 : Int32).toInt = 0 := by decide
  have hk_0 : (0 : Int32).toInt = 0 := by decide
  exact hl975 401 0 0 _ _ (by omega) (by omega) (by omega) (by omega) (by omega) hG hS hg_0 _ (lv_sub hl [0, 1, 2] rfl)
set_option maxHeartbeats 4000000 in
set_option maxRecDepth 100000 in
theorem k_X6_readBoth_6 (l : Launch) (D : va_G) (cy : Nat → ClassId) (ld : Nat → Nat) (t : tk_T) (a0 : Nat) (ht_a0 : t a0 = (7, 0, 0)) : Met l yX6_readBoth (wl yX6_readBoth cX6_readBoth 3 none) ({ frames := 19, cells := 0, slots := 0, locals := 1260 }) (tp D cy ld t [] [.ref a0] (fun H => tk_f D H a0 6 9 (.int 6))) (tv D cy ld t [] (fun H => tk_f D H a0 6 9 (.int 6)) (tk_w t [(7, 0, 0), (20, 0, 0), (8, 12, 12)])) 0 0 (tk_w t [(7, 0, 0), (20, 0, 0), (8, 12, 12)]) := by
  refine tk_met (y := yX6_readBoth) (cc := cX6_readBoth) (maxL := 3) (ret := none) (av := [.ref a0]) _ _ (by decide) (Nat.le_of_ble_eq_true rfl) ?_
  intro p e s m args below meth c hx hb hr hml hts htl hown hlocks hK H locs hH hG hS hB hZ ls hl
  have hown : s.vm.findClass RX6 = some m.cls := hown
  have hl : lv_has ls 3 [(0, .ref a0)] := hl
  have hg_0 := hB
  refine lv_aload_n hx hb dX6_readBoth_0 rfl (lv_at hl 0 rfl) ?_
  refine tk_Vv (As := []) (rest := []) (ci := 6) ⟨hx, hb, hml, hown, hts⟩ hK hG hZ hS (k_X6_readPlain_6 l D cy ld t a0 ht_a0) hg_0 ⟨callB_of 0 hts (wl_in mw_648) rfl rfl rfl (htl _ mw_36) (htl _ mw_645) hd_yX6_readPlain ⟨(Nat.le_of_ble_eq_true rfl), (Nat.le_of_ble_eq_true rfl)⟩, htl _ mw_646, htl _ mw_647⟩ ht_a0 (by decide) tk_no rfl (tk_w.pick [0, 1, 2] rfl) rfl hl.1 rfl (Nat.le_of_ble_eq_true rfl) dX6_readBoth_1 ⟨(Nat.le_of_ble_eq_true rfl), (Nat.le_of_ble_eq_true rfl)⟩ (fun H locs hpo hG hS hq9 => ?_)
  have hf2 := hpo
  refine lv_iconst (v := 0) hx hb dX6_readBoth_4 (by decide) ?_
  refine lv_istore_n (lv' := [(1, .int 0), (0, .ref a0)]) hx hb dX6_readBoth_5 rfl hl (by decide) rfl (fun ls hl => ?_)
  have hl170 : ∀ (N_l170 : Nat) (v3 : Int32) (H : Heap) (locs : List Loc), 0 ≤ v3.toInt → v3.toInt ≤ 400 → (-1) * v3.toInt + 400 < (N_l170 : Int) → tk_G D cy ld t [] H → va_S (tk_w t [(7, 0, 0), (20, 0, 0), (8, 12, 12)]) s.heap H locs → tk_f D H a0 6 9 (.int 6) → ∀ ls : Array Slot, lv_has ls 3 [(1, .int v3), (0, .ref a0)] → W p l e ({ frames := 19, cells := 0, slots := 0, locals := 1260 }) s m args below meth c H locs 0 0 (MQ below (tv D cy ld t [] (fun H => tk_f D H a0 6 9 (.int 6)) (tk_w t [(7, 0, 0), (20, 0, 0), (8, 12, 12)])) args s 0 0 (tk_w t [(7, 0, 0), (20, 0, 0), (8, 12, 12)])) (F0 m 6 ls []) := by
    intro N_l170
    induction N_l170 with
    | zero => intro v3 H locs hq0_l170 hq1_l170 hm_l170 hG hS hf2 ls hl; exfalso; omega
    | succ N_l170 ih_l170 =>
      intro v3 H locs hq0_l170 hq1_l170 hm_l170 hG hS hf2 ls hl
      refine lv_iload_n hx hb dX6_readBoth_6 rfl (lv_at hl 0 rfl) ?_
      refine lv_sipush (v := 400) hx hb dX6_readBoth_7 (by decide) ?_
      refine lv_icmp_ge (tgt := 58) hx hb dX6_readBoth_10 (by decide) (fun c9 => ?_) (fun c9 => ?_)
      · have hc171 : 400 ≤ v3.toInt := (fi_le (show (400 : Int32).toInt = 400 by decide) rfl).mp c9
        exact tk_vret hx hb hr hlocks (show tk_f D H a0 6 9 (.int 6) from hf2) hG hS dX6_readBoth_58
      · have hc171 : ¬ (400 ≤ v3.toInt) := fun h9 => c9 ((fi_le (show (400 : Int32).toInt = 400 by decide) rfl).mpr h9)
        refine lv_aload_n hx hb dX6_readBoth_13 rfl (lv_at hl 1 rfl) ?_
        refine va_ldcS hx hb hown hK.2.2.2.2.2.2.2.2.2.2.2.2.2.1 dX6_readBoth_14 ?_
        refine tk_Vi (As := [.ref (ld 9)]) (rest := []) (ci := 6) ⟨hx, hb, hml, hown, hts⟩ hK hG hZ hS (k_X6_isWord_9 l D cy ld t a0 ht_a0) trivial ⟨callB_of 1 hts (wl_in mw_626) rfl rfl rfl (htl _ mw_36) (htl _ mw_623) hd_yX6_isWord ⟨(Nat.le_of_ble_eq_true rfl), (Nat.le_of_ble_eq_true rfl)⟩, htl _ mw_624, htl _ mw_625⟩ ht_a0 (by decide) tk_no rfl (tk_w.pick [] rfl) rfl hl.1 rfl (Nat.le_of_ble_eq_true rfl) dX6_readBoth_16 ⟨(Nat.le_of_ble_eq_true rfl), (Nat.le_of_ble_eq_true rfl)⟩ (fun v172 H locs hpo hG hS hq9 => ?_)
        have hf2 := hf2.call hq9 tk_w.nil
        obtain ⟨hpo174, hpo175, hpo176, hpo177⟩ := hpo
        refine lv_if_eq (tgt := 58) hx hb dX6_readBoth_19 (by decide) (fun c9 => ?_) (fun c9 => ?_)
        · have hc178 : v172.toInt = 0 := (fi_eq rfl (show (0 : Int32).toInt = 0 by decide)).mp c9
          exact tk_vret hx hb hr hlocks (show tk_f D H a0 6 9 (.int 6) from hf2) hG hS dX6_readBoth_58
        · have hc178 : ¬ (v172.toInt = 0) := fun h9 => c9 ((fi_eq rfl (show (0 : Int32).toInt = 0 by decide)).mpr h9)
          refine lv_aload_n hx hb dX6_readBoth_22 rfl (lv_at hl 1 rfl) ?_
          refine tk_get (ci := 6) (C := RX6) (T := TX6) (N := 11) (sp := (6, 8, 512, 12)) hx hb htl inX6 hown hK hG ht_a0 (by decide) tk_no rfl 0 (by decide) (htl _ mw_132) (fun _ h9 => h9) rfl dX6_readBoth_23 (fun v9 hf179 hV9 => ?_)
          obtain ⟨b180, rfl, ht_b180⟩ := hV9
          have ht_b180 : t b180 = (8, 512, 12) := ht_b180
          refine tk_get (ci := 7) (C := RX7) (T := TX7) (N := 10) (sp := (4, 0, 0, 0)) hx hb htl inX7 hown hK hG ht_b180 (by decide) tk_no rfl 6 (by decide) (htl _ mw_513) (fun _ h9 => h9) rfl dX6_readBoth_26 (fun v9 hf181 hV9 => ?_)
          obtain ⟨v182, rfl, (ha_v182 : 0 ≤ v182.toInt), (hb_v182 : v182.toInt ≤ 512)⟩ := hV9
          refine lv_istore_n (lv' := [(2, .int v182), (1, .int v3), (0, .ref a0)]) hx hb dX6_readBoth_29 rfl hl (by decide) rfl (fun ls hl => ?_)
          refine lv_aload_n hx hb dX6_readBoth_30 rfl (lv_at hl 2 rfl) ?_
          refine tk_get (ci := 6) (C := RX6) (T := TX6) (N := 11) (sp := (6, 8, 512, 12)) hx hb htl inX6 hown hK hG ht_a0 (by decide) tk_no rfl 0 (by decide) (htl _ mw_132) (fun _ h9 => h9) rfl dX6_readBoth_31 (fun v9 hf183 hV9 => ?_)
          obtain ⟨b184, rfl, ht_b184⟩ := hV9
          have ht_b184 : t b184 = (8, 512, 12) := ht_b184
          refine lv_iconst (v := 4) hx hb dX6_readBoth_34 (by decide) ?_
          refine lv_iconst (v := 0) hx hb dX6_readBoth_35 (by decide) ?_
          have hk_4 : (4 : Int32).toInt = 4 := by decide
          have hk_0 : (0 : Int32).toInt = 0 := by decide
          refine tk_Vv (As := [.int 4, .int 0]) (rest := []) (ci := 7) ⟨hx, hb, hml, hown, hts⟩ hK hG hZ hS (k_X7_put l D cy ld t b184 4 0 ht_b184) trivial ⟨callB_of 2 hts (wl_in mw_594) rfl rfl rfl (htl _ mw_131) (htl _ mw_591) hd_yX7_put ⟨(Nat.le_of_ble_eq_true rfl), (Nat.le_of_ble_eq_true rfl)⟩, htl _ mw_592, htl _ mw_593⟩ ht_b184 (by decide) tk_no rfl (tk_w.pick [1, 2] rfl) rfl hl.1 rfl (Nat.le_of_ble_eq_true rfl) dX6_readBoth_36 ⟨(Nat.le_of_ble_eq_true rfl), (Nat.le_of_ble_eq_true rfl)⟩ (fun H locs hpo hG hS hq9 => ?_)
          have hf2 := hf2.call hq9 (tk_w.no ht_a0 (by decide))
          refine lv_aload_n hx hb dX6_readBoth_39 rfl (lv_at hl 2 rfl) ?_
          have hk_6 : (6 : Int32).toInt = 6 := by decide
          refine tk_Vv (As := []) (rest := []) (ci := 6) ⟨hx, hb, hml, hown, hts⟩ hK hG hZ hS (k_X6_step l D cy ld t a0 6 ht_a0 (by omega) (by omega)) hf2 ⟨callB_of 0 hts (wl_in mw_494) rfl rfl rfl (htl _ mw_36) (htl _ mw_491) hd_yX6_step ⟨(Nat.le_of_ble_eq_true rfl), (Nat.le_of_ble_eq_true rfl)⟩, htl _ mw_492, htl _ mw_493⟩ ht_a0 (by decide) tk_no rfl (tk_w.pick [0] rfl) rfl hl.1 rfl (Nat.le_of_ble_eq_true rfl) dX6_readBoth_40 ⟨(Nat.le_of_ble_eq_true rfl), (Nat.le_of_ble_eq_true rfl)⟩ (fun H locs hpo hG hS hq9 => ?_)
          have hf187 := hpo
          refine lv_aload_n hx hb dX6_readBoth_43 rfl (lv_at hl 2 rfl) ?_
          refine tk_Vv (As := []) (rest := []) (ci := 6) ⟨hx, hb, hml, hown, hts⟩ hK hG hZ hS (k_X6_readPlain_6 l D cy ld t a0 ht_a0) hf187 ⟨callB_of 0 hts (wl_in mw_648) rfl rfl rfl (htl _ mw_36) (htl _ mw_645) hd_yX6_readPlain ⟨(Nat.le_of_ble_eq_true rfl), (Nat.le_of_ble_eq_true rfl)⟩, htl _ mw_646, htl _ mw_647⟩ ht_a0 (by decide) tk_no rfl (tk_w.pick [0, 1, 2] rfl) rfl hl.1 rfl (Nat.le_of_ble_eq_true rfl) dX6_readBoth_44 ⟨(Nat.le_of_ble_eq_true rfl), (Nat.le_of_ble_eq_true rfl)⟩ (fun H locs hpo hG hS hq9 => ?_)
          have hf189 := hpo
          refine lv_aload_n hx hb dX6_readBoth_47 rfl (lv_at hl 2 rfl) ?_
          refine lv_iload_n hx hb dX6_readBoth_48 rfl (lv_at hl 0 rfl) ?_
          refine tk_Vv (As := [.int v182]) (rest := []) (ci := 6) ⟨hx, hb, hml, hown, hts⟩ hK hG hZ hS (k_X6_landHere l D cy ld t a0 v182 ht_a0 (by omega) (by omega)) trivial ⟨callB_of 1 hts (wl_in mw_642) rfl rfl rfl (htl _ mw_36) (htl _ mw_639) hd_yX6_landHere ⟨(Nat.le_of_ble_eq_true rfl), (Nat.le_of_ble_eq_true rfl)⟩, htl _ mw_640, htl _ mw_641⟩ ht_a0 (by decide) tk_no rfl (tk_w.pick [1] rfl) rfl hl.1 rfl (Nat.le_of_ble_eq_true rfl) dX6_readBoth_49 ⟨(Nat.le_of_ble_eq_true rfl), (Nat.le_of_ble_eq_true rfl)⟩ (fun H locs hpo hG hS hq9 => ?_)
          have hf189 := hf189.call hq9 (tk_w.no ht_a0 (by decide))
          obtain ⟨v191, h_v191, e_v191⟩ := tk_inc v3 1 (by decide) (by omega) (by omega)
          refine lv_iinc (v := v191) (lv' := [(1, .int v191), (2, .int v182), (0, .ref a0)]) hx hb dX6_readBoth_52 hl (k := 1) rfl e_v191 (by decide) rfl (fun ls hl => ?_)
          refine lv_goto (tgt := 6) hx hb dX6_readBoth_55 (by decide) ?_
          exact ih_l170 v191 _ _ (by omega) (by omega) (by omega) hG hS hf189 _ (lv_sub hl [0, 2] rfl)
  have hk_0 : (0 : Int32).toInt = 0 := by decide
  exact hl170 401 0 _ _ (by omega) (by omega) (by omega) hG hS hf2 _ (lv_sub hl [0, 1] rfl)
set_option maxHeartbeats 4000000 in
set_option maxRecDepth 100000 in
theorem k_X6_readTest_6 (l : Launch) (D : va_G) (cy : Nat → ClassId) (ld : Nat → Nat) (t : tk_T) (a0 : Nat) (ht_a0 : t a0 = (7, 0, 0)) : Met l yX6_readTest (wl yX6_readTest cX6_readTest 3 none) ({ frames := 20, cells := 0, slots := 0, locals := 1330 }) (tp D cy ld t [] [.ref a0] (fun H => tk_f D H a0 6 9 (.int 6))) (tv D cy ld t [] (fun H => tk_f D H a0 6 9 (.int 6)) (tk_w t [(7, 0, 0), (20, 0, 0), (8, 12, 12)])) 0 0 (tk_w t [(7, 0, 0), (20, 0, 0), (8, 12, 12)]) := by
  refine tk_met (y := yX6_readTest) (cc := cX6_readTest) (maxL := 3) (ret := none) (av := [.ref a0]) _ _ (by decide) (Nat.le_of_ble_eq_true rfl) ?_
  intro p e s m args below meth c hx hb hr hml hts htl hown hlocks hK H locs hH hG hS hB hZ ls hl
  have hown : s.vm.findClass RX6 = some m.cls := hown
  have hl : lv_has ls 3 [(0, .ref a0)] := hl
  have hg_0 := hB
  refine lv_aload_n hx hb dX6_readTest_0 rfl (lv_at hl 0 rfl) ?_
  refine tk_Vv (As := []) (rest := []) (ci := 6) ⟨hx, hb, hml, hown, hts⟩ hK hG hZ hS (k_X6_readBoth_6 l D cy ld t a0 ht_a0) hg_0 ⟨callB_of 0 hts (wl_in mw_644) rfl rfl rfl (htl _ mw_36) (htl _ mw_636) hd_yX6_readBoth ⟨(Nat.le_of_ble_eq_true rfl), (Nat.le_of_ble_eq_true rfl)⟩, htl _ mw_637, htl _ mw_638⟩ ht_a0 (by decide) tk_no rfl (tk_w.pick [0, 1, 2] rfl) rfl hl.1 rfl (Nat.le_of_ble_eq_true rfl) dX6_readTest_1 ⟨(Nat.le_of_ble_eq_true rfl), (Nat.le_of_ble_eq_true rfl)⟩ (fun H locs hpo hG hS hq9 => ?_)
  have hf2 := hpo
  refine lv_iconst (v := 0) hx hb dX6_readTest_4 (by decide) ?_
  refine lv_istore_n (lv' := [(1, .int 0), (0, .ref a0)]) hx hb dX6_readTest_5 rfl hl (by decide) rfl (fun ls hl => ?_)
  have hl170 : ∀ (N_l170 : Nat) (v3 : Int32) (H : Heap) (locs : List Loc), 0 ≤ v3.toInt → v3.toInt ≤ 400 → (-1) * v3.toInt + 400 < (N_l170 : Int) → tk_G D cy ld t [] H → va_S (tk_w t [(7, 0, 0), (20, 0, 0), (8, 12, 12)]) s.heap H locs → tk_f D H a0 6 9 (.int 6) → ∀ ls : Array Slot, lv_has ls 3 [(1, .int v3), (0, .ref a0)] → W p l e ({ frames := 20, cells := 0, slots := 0, locals := 1330 }) s m args below meth c H locs 0 0 (MQ below (tv D cy ld t [] (fun H => tk_f D H a0 6 9 (.int 6)) (tk_w t [(7, 0, 0), (20, 0, 0), (8, 12, 12)])) args s 0 0 (tk_w t [(7, 0, 0), (20, 0, 0), (8, 12, 12)])) (F0 m 6 ls []) := by
    intro N_l170
    induction N_l170 with
    | zero => intro v3 H locs hq0_l170 hq1_l170 hm_l170 hG hS hf2 ls hl; exfalso; omega
    | succ N_l170 ih_l170 =>
      intro v3 H locs hq0_l170 hq1_l170 hm_l170 hG hS hf2 ls hl
      refine lv_iload_n hx hb dX6_readTest_6 rfl (lv_at hl 0 rfl) ?_
      refine lv_sipush (v := 400) hx hb dX6_readTest_7 (by decide) ?_
      refine lv_icmp_ge (tgt := 58) hx hb dX6_readTest_10 (by decide) (fun c9 => ?_) (fun c9 => ?_)
      · have hc171 : 400 ≤ v3.toInt := (fi_le (show (400 : Int32).toInt = 400 by decide) rfl).mp c9
        exact tk_vret hx hb hr hlocks (show tk_f D H a0 6 9 (.int 6) from hf2) hG hS dX6_readTest_58
      · have hc171 : ¬ (400 ≤ v3.toInt) := fun h9 => c9 ((fi_le (show (400 : Int32).toInt = 400 by decide) rfl).mpr h9)
        refine lv_aload_n hx hb dX6_readTest_13 rfl (lv_at hl 1 rfl) ?_
        refine va_ldcS hx hb hown hK.2.2.2.2.2.2.2.2.2.2.2.2.2.2 dX6_readTest_14 ?_
        refine tk_Vi (As := [.ref (ld 10)]) (rest := []) (ci := 6) ⟨hx, hb, hml, hown, hts⟩ hK hG hZ hS (k_X6_isWord_10 l D cy ld t a0 ht_a0) trivial ⟨callB_of 1 hts (wl_in mw_626) rfl rfl rfl (htl _ mw_36) (htl _ mw_623) hd_yX6_isWord ⟨(Nat.le_of_ble_eq_true rfl), (Nat.le_of_ble_eq_true rfl)⟩, htl _ mw_624, htl _ mw_625⟩ ht_a0 (by decide) tk_no rfl (tk_w.pick [] rfl) rfl hl.1 rfl (Nat.le_of_ble_eq_true rfl) dX6_readTest_16 ⟨(Nat.le_of_ble_eq_true rfl), (Nat.le_of_ble_eq_true rfl)⟩ (fun v172 H locs hpo hG hS hq9 => ?_)
        have hf2 := hf2.call hq9 tk_w.nil
        obtain ⟨hpo174, hpo175, hpo176, hpo177⟩ := hpo
        refine lv_if_eq (tgt := 58) hx hb dX6_readTest_19 (by decide) (fun c9 => ?_) (fun c9 => ?_)
        · have hc178 : v172.toInt = 0 := (fi_eq rfl (show (0 : Int32).toInt = 0 by decide)).mp c9
          exact tk_vret hx hb hr hlocks (show tk_f D H a0 6 9 (.int 6) from hf2) hG hS dX6_readTest_58
        · have hc178 : ¬ (v172.toInt = 0) := fun h9 => c9 ((fi_eq rfl (show (0 : Int32).toInt = 0 by decide)).mpr h9)
          refine lv_aload_n hx hb dX6_readTest_22 rfl (lv_at hl 1 rfl) ?_
          refine tk_get (ci := 6) (C := RX6) (T := TX6) (N := 11) (sp := (6, 8, 512, 12)) hx hb htl inX6 hown hK hG ht_a0 (by decide) tk_no rfl 0 (by decide) (htl _ mw_132) (fun _ h9 => h9) rfl dX6_readTest_23 (fun v9 hf179 hV9 => ?_)
          obtain ⟨b180, rfl, ht_b180⟩ := hV9
          have ht_b180 : t b180 = (8, 512, 12) := ht_b180
          refine tk_get (ci := 7) (C := RX7) (T := TX7) (N := 10) (sp := (4, 0, 0, 0)) hx hb htl inX7 hown hK hG ht_b180 (by decide) tk_no rfl 6 (by decide) (htl _ mw_513) (fun _ h9 => h9) rfl dX6_readTest_26 (fun v9 hf181 hV9 => ?_)
          obtain ⟨v182, rfl, (ha_v182 : 0 ≤ v182.toInt), (hb_v182 : v182.toInt ≤ 512)⟩ := hV9
          refine lv_istore_n (lv' := [(2, .int v182), (1, .int v3), (0, .ref a0)]) hx hb dX6_readTest_29 rfl hl (by decide) rfl (fun ls hl => ?_)
          refine lv_aload_n hx hb dX6_readTest_30 rfl (lv_at hl 2 rfl) ?_
          refine tk_get (ci := 6) (C := RX6) (T := TX6) (N := 11) (sp := (6, 8, 512, 12)) hx hb htl inX6 hown hK hG ht_a0 (by decide) tk_no rfl 0 (by decide) (htl _ mw_132) (fun _ h9 => h9) rfl dX6_readTest_31 (fun v9 hf183 hV9 => ?_)
          obtain ⟨b184, rfl, ht_b184⟩ := hV9
          have ht_b184 : t b184 = (8, 512, 12) := ht_b184
          refine lv_iconst (v := 5) hx hb dX6_readTest_34 (by decide) ?_
          refine lv_iconst (v := 0) hx hb dX6_readTest_35 (by decide) ?_
          have hk_5 : (5 : Int32).toInt = 5 := by decide
          have hk_0 : (0 : Int32).toInt = 0 := by decide
          refine tk_Vv (As := [.int 5, .int 0]) (rest := []) (ci := 7) ⟨hx, hb, hml, hown, hts⟩ hK hG hZ hS (k_X7_put l D cy ld t b184 5 0 ht_b184) trivial ⟨callB_of 2 hts (wl_in mw_594) rfl rfl rfl (htl _ mw_131) (htl _ mw_591) hd_yX7_put ⟨(Nat.le_of_ble_eq_true rfl), (Nat.le_of_ble_eq_true rfl)⟩, htl _ mw_592, htl _ mw_593⟩ ht_b184 (by decide) tk_no rfl (tk_w.pick [1, 2] rfl) rfl hl.1 rfl (Nat.le_of_ble_eq_true rfl) dX6_readTest_36 ⟨(Nat.le_of_ble_eq_true rfl), (Nat.le_of_ble_eq_true rfl)⟩ (fun H locs hpo hG hS hq9 => ?_)
          have hf2 := hf2.call hq9 (tk_w.no ht_a0 (by decide))
          refine lv_aload_n hx hb dX6_readTest_39 rfl (lv_at hl 2 rfl) ?_
          have hk_6 : (6 : Int32).toInt = 6 := by decide
          refine tk_Vv (As := []) (rest := []) (ci := 6) ⟨hx, hb, hml, hown, hts⟩ hK hG hZ hS (k_X6_step l D cy ld t a0 6 ht_a0 (by omega) (by omega)) hf2 ⟨callB_of 0 hts (wl_in mw_494) rfl rfl rfl (htl _ mw_36) (htl _ mw_491) hd_yX6_step ⟨(Nat.le_of_ble_eq_true rfl), (Nat.le_of_ble_eq_true rfl)⟩, htl _ mw_492, htl _ mw_493⟩ ht_a0 (by decide) tk_no rfl (tk_w.pick [0] rfl) rfl hl.1 rfl (Nat.le_of_ble_eq_true rfl) dX6_readTest_40 ⟨(Nat.le_of_ble_eq_true rfl), (Nat.le_of_ble_eq_true rfl)⟩ (fun H locs hpo hG hS hq9 => ?_)
          have hf187 := hpo
          refine lv_aload_n hx hb dX6_readTest_43 rfl (lv_at hl 2 rfl) ?_
          refine tk_Vv (As := []) (rest := []) (ci := 6) ⟨hx, hb, hml, hown, hts⟩ hK hG hZ hS (k_X6_readBoth_6 l D cy ld t a0 ht_a0) hf187 ⟨callB_of 0 hts (wl_in mw_644) rfl rfl rfl (htl _ mw_36) (htl _ mw_636) hd_yX6_readBoth ⟨(Nat.le_of_ble_eq_true rfl), (Nat.le_of_ble_eq_true rfl)⟩, htl _ mw_637, htl _ mw_638⟩ ht_a0 (by decide) tk_no rfl (tk_w.pick [0, 1, 2] rfl) rfl hl.1 rfl (Nat.le_of_ble_eq_true rfl) dX6_readTest_44 ⟨(Nat.le_of_ble_eq_true rfl), (Nat.le_of_ble_eq_true rfl)⟩ (fun H locs hpo hG hS hq9 => ?_)
          have hf189 := hpo
          refine lv_aload_n hx hb dX6_readTest_47 rfl (lv_at hl 2 rfl) ?_
          refine lv_iload_n hx hb dX6_readTest_48 rfl (lv_at hl 0 rfl) ?_
          refine tk_Vv (As := [.int v182]) (rest := []) (ci := 6) ⟨hx, hb, hml, hown, hts⟩ hK hG hZ hS (k_X6_landHere l D cy ld t a0 v182 ht_a0 (by omega) (by omega)) trivial ⟨callB_of 1 hts (wl_in mw_642) rfl rfl rfl (htl _ mw_36) (htl _ mw_639) hd_yX6_landHere ⟨(Nat.le_of_ble_eq_true rfl), (Nat.le_of_ble_eq_true rfl)⟩, htl _ mw_640, htl _ mw_641⟩ ht_a0 (by decide) tk_no rfl (tk_w.pick [1] rfl) rfl hl.1 rfl (Nat.le_of_ble_eq_true rfl) dX6_readTest_49 ⟨(Nat.le_of_ble_eq_true rfl), (Nat.le_of_ble_eq_true rfl)⟩ (fun H locs hpo hG hS hq9 => ?_)
          have hf189 := hf189.call hq9 (tk_w.no ht_a0 (by decide))
          obtain ⟨v191, h_v191, e_v191⟩ := tk_inc v3 1 (by decide) (by omega) (by omega)
          refine lv_iinc (v := v191) (lv' := [(1, .int v191), (2, .int v182), (0, .ref a0)]) hx hb dX6_readTest_52 hl (k := 1) rfl e_v191 (by decide) rfl (fun ls hl => ?_)
          refine lv_goto (tgt := 6) hx hb dX6_readTest_55 (by decide) ?_
          exact ih_l170 v191 _ _ (by omega) (by omega) (by omega) hG hS hf189 _ (lv_sub hl [0, 2] rfl)
  have hk_0 : (0 : Int32).toInt = 0 := by decide
  exact hl170 401 0 _ _ (by omega) (by omega) (by omega) hG hS hf2 _ (lv_sub hl [0, 1] rfl)
set_option maxHeartbeats 4000000 in
set_option maxRecDepth 100000 in
theorem k_X6_readPlain_5 (l : Launch) (D : va_G) (cy : Nat → ClassId) (ld : Nat → Nat) (t : tk_T) (a0 : Nat) (ht_a0 : t a0 = (7, 0, 0)) : Met l yX6_readPlain (wl yX6_readPlain cX6_readPlain 3 none) ({ frames := 21, cells := 0, slots := 0, locals := 1400 }) (tp D cy ld t [] [.ref a0] (fun H => tk_f D H a0 6 9 (.int 5))) (tv D cy ld t [] (fun H => tk_f D H a0 6 9 (.int 5)) (tk_w t [(7, 0, 0), (20, 0, 0), (8, 12, 12)])) 0 0 (tk_w t [(7, 0, 0), (20, 0, 0), (8, 12, 12)]) := by
  refine tk_met (y := yX6_readPlain) (cc := cX6_readPlain) (maxL := 3) (ret := none) (av := [.ref a0]) _ _ (by decide) (Nat.le_of_ble_eq_true rfl) ?_
  intro p e s m args below meth c hx hb hr hml hts htl hown hlocks hK H locs hH hG hS hB hZ ls hl
  have hown : s.vm.findClass RX6 = some m.cls := hown
  have hl : lv_has ls 3 [(0, .ref a0)] := hl
  have hg_0 := hB
  refine lv_iconst (v := 0) hx hb dX6_readPlain_0 (by decide) ?_
  refine lv_istore_n (lv' := [(1, .int 0), (0, .ref a0)]) hx hb dX6_readPlain_1 rfl hl (by decide) rfl (fun ls hl => ?_)
  refine lv_iconst (v := 0) hx hb dX6_readPlain_2 (by decide) ?_
  refine lv_istore_n (lv' := [(2, .int 0), (1, .int 0), (0, .ref a0)]) hx hb dX6_readPlain_3 rfl hl (by decide) rfl (fun ls hl => ?_)
  have hl975 : ∀ (N_l975 : Nat) (v1 : Int32) (v2 : Int32) (H : Heap) (locs : List Loc), 0 ≤ v2.toInt → v2.toInt ≤ 1 → 0 ≤ v1.toInt + (-1) * v2.toInt → v1.toInt ≤ 400 → (-1) * v1.toInt + 400 < (N_l975 : Int) → tk_G D cy ld t [] H → va_S (tk_w t [(7, 0, 0), (20, 0, 0), (8, 12, 12)]) s.heap H locs → tk_f D H a0 6 9 (.int 5) → ∀ ls : Array Slot, lv_has ls 3 [(2, .int v1), (1, .int v2), (0, .ref a0)] → W p l e ({ frames := 21, cells := 0, slots := 0, locals := 1400 }) s m args below meth c H locs 0 0 (MQ below (tv D cy ld t [] (fun H => tk_f D H a0 6 9 (.int 5)) (tk_w t [(7, 0, 0), (20, 0, 0), (8, 12, 12)])) args s 0 0 (tk_w t [(7, 0, 0), (20, 0, 0), (8, 12, 12)])) (F0 m 4 ls []) := by
    intro N_l975
    induction N_l975 with
    | zero => intro v1 v2 H locs hq0_l975 hq1_l975 hq2_l975 hq3_l975 hm_l975 hG hS hg_0 ls hl; exfalso; omega
    | succ N_l975 ih_l975 =>
      intro v1 v2 H locs hq0_l975 hq1_l975 hq2_l975 hq3_l975 hm_l975 hG hS hg_0 ls hl
      refine lv_iload_n hx hb dX6_readPlain_4 rfl (lv_at hl 0 rfl) ?_
      refine lv_sipush (v := 400) hx hb dX6_readPlain_5 (by decide) ?_
      have hj993 : ∀ (H : Heap) (locs : List Loc), tk_G D cy ld t [] H → va_S (tk_w t [(7, 0, 0), (20, 0, 0), (8, 12, 12)]) s.heap H locs → tk_f D H a0 6 9 (.int 5) → ∀ ls : Array Slot, lv_has ls 3 [(1, .int v2), (0, .ref a0)] → W p l e ({ frames := 21, cells := 0, slots := 0, locals := 1400 }) s m args below meth c H locs 0 0 (MQ below (tv D cy ld t [] (fun H => tk_f D H a0 6 9 (.int 5)) (tk_w t [(7, 0, 0), (20, 0, 0), (8, 12, 12)])) args s 0 0 (tk_w t [(7, 0, 0), (20, 0, 0), (8, 12, 12)])) (F0 m 40 ls []) := by
        intro H locs hG hS hg_0 ls hl
        refine lv_aload_n hx hb dX6_readPlain_40 rfl (lv_at hl 1 rfl) ?_
        refine lv_bipush (v := 40) hx hb dX6_readPlain_41 (by decide) ?_
        have hk_40 : (40 : Int32).toInt = 40 := by decide
        refine tk_Vi (As := [.int 40]) (rest := []) (ci := 6) ⟨hx, hb, hml, hown, hts⟩ hK hG hZ hS (k_X6_isSign l D cy ld t a0 40 ht_a0) trivial ⟨callB_of 1 hts (wl_in mw_590) rfl rfl rfl (htl _ mw_36) (htl _ mw_587) hd_yX6_isSign ⟨(Nat.le_of_ble_eq_true rfl), (Nat.le_of_ble_eq_true rfl)⟩, htl _ mw_588, htl _ mw_589⟩ ht_a0 (by decide) tk_no rfl (tk_w.pick [] rfl) rfl hl.1 rfl (Nat.le_of_ble_eq_true rfl) dX6_readPlain_43 ⟨(Nat.le_of_ble_eq_true rfl), (Nat.le_of_ble_eq_true rfl)⟩ (fun v994 H locs hpo hG hS hq9 => ?_)
        have hg_0 := hg_0.call hq9 tk_w.nil
        obtain ⟨hpo996, hpo997, hpo998, hpo999⟩ := hpo
        refine lv_if_eq (tgt := 79) hx hb dX6_readPlain_46 (by decide) (fun c9 => ?_) (fun c9 => ?_)
        · have hc1000 : v994.toInt = 0 := (fi_eq rfl (show (0 : Int32).toInt = 0 by decide)).mp c9
          refine lv_aload_n hx hb dX6_readPlain_79 rfl (lv_at hl 1 rfl) ?_
          refine tk_Vv (As := []) (rest := []) (ci := 6) ⟨hx, hb, hml, hown, hts⟩ hK hG hZ hS (k_X6_readSum_5 l D cy ld t a0 ht_a0) hg_0 ⟨callB_of 0 hts (wl_in mw_583) rfl rfl rfl (htl _ mw_36) (htl _ mw_580) hd_yX6_readSum ⟨(Nat.le_of_ble_eq_true rfl), (Nat.le_of_ble_eq_true rfl)⟩, htl _ mw_581, htl _ mw_582⟩ ht_a0 (by decide) tk_no rfl (tk_w.pick [0, 1, 2] rfl) rfl hl.1 rfl (Nat.le_of_ble_eq_true rfl) dX6_readPlain_80 ⟨(Nat.le_of_ble_eq_true rfl), (Nat.le_of_ble_eq_true rfl)⟩ (fun H locs hpo hG hS hq9 => ?_)
          have hf1002 := hpo
          refine lv_aload_n hx hb dX6_readPlain_83 rfl (lv_at hl 1 rfl) ?_
          refine lv_bipush (v := 60) hx hb dX6_readPlain_84 (by decide) ?_
          have hk_60 : (60 : Int32).toInt = 60 := by decide
          refine tk_Vi (As := [.int 60]) (rest := []) (ci := 6) ⟨hx, hb, hml, hown, hts⟩ hK hG hZ hS (k_X6_isSign l D cy ld t a0 60 ht_a0) trivial ⟨callB_of 1 hts (wl_in mw_590) rfl rfl rfl (htl _ mw_36) (htl _ mw_587) hd_yX6_isSign ⟨(Nat.le_of_ble_eq_true rfl), (Nat.le_of_ble_eq_true rfl)⟩, htl _ mw_588, htl _ mw_589⟩ ht_a0 (by decide) tk_no rfl (tk_w.pick [] rfl) rfl hl.1 rfl (Nat.le_of_ble_eq_true rfl) dX6_readPlain_86 ⟨(Nat.le_of_ble_eq_true rfl), (Nat.le_of_ble_eq_true rfl)⟩ (fun v1003 H locs hpo hG hS hq9 => ?_)
          have hf1002 := hf1002.call hq9 tk_w.nil
          obtain ⟨hpo1005, hpo1006, hpo1007, hpo1008⟩ := hpo
          have hj1021 : ∀ (v1019 : Int32) (H : Heap) (locs : List Loc), 11 ≤ v1019.toInt → v1019.toInt ≤ 13 → tk_G D cy ld t [] H → va_S (tk_w t [(7, 0, 0), (20, 0, 0), (8, 12, 12)]) s.heap H locs → tk_f D H a0 6 9 (.int 5) → ∀ ls : Array Slot, lv_has ls 3 [(1, .int v2), (0, .ref a0)] → W p l e ({ frames := 21, cells := 0, slots := 0, locals := 1400 }) s m args below meth c H locs 0 0 (MQ below (tv D cy ld t [] (fun H => tk_f D H a0 6 9 (.int 5)) (tk_w t [(7, 0, 0), (20, 0, 0), (8, 12, 12)])) args s 0 0 (tk_w t [(7, 0, 0), (20, 0, 0), (8, 12, 12)])) (F0 m 113 ls [.int v1019]) := by
            intro v1019 H locs hq0_j1021 hq1_j1021 hG hS hf1002 ls hl
            refine lv_istore_n (lv' := [(2, .int v1019), (1, .int v2), (0, .ref a0)]) hx hb dX6_readPlain_113 rfl hl (by decide) rfl (fun ls hl => ?_)
            refine lv_iload_n hx hb dX6_readPlain_114 rfl (lv_at hl 0 rfl) ?_
            refine lv_bipush (v := 13) hx hb dX6_readPlain_115 (by decide) ?_
            refine lv_icmp_ne (tgt := 134) hx hb dX6_readPlain_117 (by decide) (fun c9 => ?_) (fun c9 => ?_)
            · have hc1022 : ¬ (v1019.toInt = 13) := fun h9 => c9 ((fi_eq rfl (show (13 : Int32).toInt = 13 by decide)).mpr h9)
              refine lv_aload_n hx hb dX6_readPlain_134 rfl (lv_at hl 2 rfl) ?_
              have hk_5 : (5 : Int32).toInt = 5 := by decide
              refine tk_Vv (As := []) (rest := []) (ci := 6) ⟨hx, hb, hml, hown, hts⟩ hK hG hZ hS (k_X6_step l D cy ld t a0 5 ht_a0 (by omega) (by omega)) hf1002 ⟨callB_of 0 hts (wl_in mw_494) rfl rfl rfl (htl _ mw_36) (htl _ mw_491) hd_yX6_step ⟨(Nat.le_of_ble_eq_true rfl), (Nat.le_of_ble_eq_true rfl)⟩, htl _ mw_492, htl _ mw_493⟩ ht_a0 (by decide) tk_no rfl (tk_w.pick [0] rfl) rfl hl.1 rfl (Nat.le_of_ble_eq_true rfl) dX6_readPlain_135 ⟨(Nat.le_of_ble_eq_true rfl), (Nat.le_of_ble_eq_true rfl)⟩ (fun H locs hpo hG hS hq9 => ?_)
              have hf1024 := hpo
              refine lv_aload_n hx hb dX6_readPlain_138 rfl (lv_at hl 2 rfl) ?_
              refine tk_Vv (As := []) (rest := []) (ci := 6) ⟨hx, hb, hml, hown, hts⟩ hK hG hZ hS (k_X6_readSum_5 l D cy ld t a0 ht_a0) hf1024 ⟨callB_of 0 hts (wl_in mw_583) rfl rfl rfl (htl _ mw_36) (htl _ mw_580) hd_yX6_readSum ⟨(Nat.le_of_ble_eq_true rfl), (Nat.le_of_ble_eq_true rfl)⟩, htl _ mw_581, htl _ mw_582⟩ ht_a0 (by decide) tk_no rfl (tk_w.pick [0, 1, 2] rfl) rfl hl.1 rfl (Nat.le_of_ble_eq_true rfl) dX6_readPlain_139 ⟨(Nat.le_of_ble_eq_true rfl), (Nat.le_of_ble_eq_true rfl)⟩ (fun H locs hpo hG hS hq9 => ?_)
              have hf1026 := hpo
              refine lv_aload_n hx hb dX6_readPlain_142 rfl (lv_at hl 2 rfl) ?_
              refine tk_get (ci := 6) (C := RX6) (T := TX6) (N := 11) (sp := (6, 8, 512, 12)) hx hb htl inX6 hown hK hG ht_a0 (by decide) tk_no rfl 0 (by decide) (htl _ mw_132) (fun _ h9 => h9) rfl dX6_readPlain_143 (fun v9 hf1027 hV9 => ?_)
              obtain ⟨b1028, rfl, ht_b1028⟩ := hV9
              have ht_b1028 : t b1028 = (8, 512, 12) := ht_b1028
              refine lv_iload_n hx hb dX6_readPlain_146 rfl (lv_at hl 0 rfl) ?_
              refine lv_iconst (v := 0) hx hb dX6_readPlain_147 (by decide) ?_
              have hk_0 : (0 : Int32).toInt = 0 := by decide
              refine tk_Vv (As := [.int v1019, .int 0]) (rest := []) (ci := 7) ⟨hx, hb, hml, hown, hts⟩ hK hG hZ hS (k_X7_put l D cy ld t b1028 v1019 0 ht_b1028) trivial ⟨callB_of 2 hts (wl_in mw_594) rfl rfl rfl (htl _ mw_131) (htl _ mw_591) hd_yX7_put ⟨(Nat.le_of_ble_eq_true rfl), (Nat.le_of_ble_eq_true rfl)⟩, htl _ mw_592, htl _ mw_593⟩ ht_b1028 (by decide) tk_no rfl (tk_w.pick [1, 2] rfl) rfl hl.1 rfl (Nat.le_of_ble_eq_true rfl) dX6_readPlain_148 ⟨(Nat.le_of_ble_eq_true rfl), (Nat.le_of_ble_eq_true rfl)⟩ (fun H locs hpo hG hS hq9 => ?_)
              have hf1026 := hf1026.call hq9 (tk_w.no ht_a0 (by decide))
              refine lv_iload_n hx hb dX6_readPlain_151 rfl (lv_at hl 1 rfl) ?_
              refine lv_if_eq (tgt := 164) hx hb dX6_readPlain_152 (by decide) (fun c9 => ?_) (fun c9 => ?_)
              · have hc1030 : v2.toInt = 0 := (fi_eq rfl (show (0 : Int32).toInt = 0 by decide)).mp c9
                exact tk_vret hx hb hr hlocks (show tk_f D H a0 6 9 (.int 5) from hf1026) hG hS dX6_readPlain_164
              · have hc1030 : ¬ (v2.toInt = 0) := fun h9 => c9 ((fi_eq rfl (show (0 : Int32).toInt = 0 by decide)).mpr h9)
                refine lv_aload_n hx hb dX6_readPlain_155 rfl (lv_at hl 2 rfl) ?_
                refine tk_get (ci := 6) (C := RX6) (T := TX6) (N := 11) (sp := (6, 8, 512, 12)) hx hb htl inX6 hown hK hG ht_a0 (by decide) tk_no rfl 0 (by decide) (htl _ mw_132) (fun _ h9 => h9) rfl dX6_readPlain_156 (fun v9 hf1031 hV9 => ?_)
                obtain ⟨b1032, rfl, ht_b1032⟩ := hV9
                have ht_b1032 : t b1032 = (8, 512, 12) := ht_b1032
                refine lv_iconst (v := 3) hx hb dX6_readPlain_159 (by decide) ?_
                refine lv_iconst (v := 0) hx hb dX6_readPlain_160 (by decide) ?_
                have hk_3 : (3 : Int32).toInt = 3 := by decide
                have hk_0 : (0 : Int32).toInt = 0 := by decide
                refine tk_Vv (As := [.int 3, .int 0]) (rest := []) (ci := 7) ⟨hx, hb, hml, hown, hts⟩ hK hG hZ hS (k_X7_put l D cy ld t b1032 3 0 ht_b1032) trivial ⟨callB_of 2 hts (wl_in mw_594) rfl rfl rfl (htl _ mw_131) (htl _ mw_591) hd_yX7_put ⟨(Nat.le_of_ble_eq_true rfl), (Nat.le_of_ble_eq_true rfl)⟩, htl _ mw_592, htl _ mw_593⟩ ht_b1032 (by decide) tk_no rfl (tk_w.pick [1, 2] rfl) rfl hl.1 rfl (Nat.le_of_ble_eq_true rfl) dX6_readPlain_161 ⟨(Nat.le_of_ble_eq_true rfl), (Nat.le_of_ble_eq_true rfl)⟩ (fun H locs hpo hG hS hq9 => ?_)
                have hf1026 := hf1026.call hq9 (tk_w.no ht_a0 (by decide))
                exact tk_vret hx hb hr hlocks (show tk_f D H a0 6 9 (.int 5) from hf1026) hG hS dX6_readPlain_164
            · have hc1022 : v1019.toInt = 13 := (fi_eq rfl (show (13 : Int32).toInt = 13 by decide)).mp c9
              refine lv_aload_n hx hb dX6_readPlain_120 rfl (lv_at hl 2 rfl) ?_
              refine lv_bipush (v := 61) hx hb dX6_readPlain_121 (by decide) ?_
              have hk_61 : (61 : Int32).toInt = 61 := by decide
              refine tk_Vi (As := [.int 61]) (rest := []) (ci := 6) ⟨hx, hb, hml, hown, hts⟩ hK hG hZ hS (k_X6_isSign l D cy ld t a0 61 ht_a0) trivial ⟨callB_of 1 hts (wl_in mw_590) rfl rfl rfl (htl _ mw_36) (htl _ mw_587) hd_yX6_isSign ⟨(Nat.le_of_ble_eq_true rfl), (Nat.le_of_ble_eq_true rfl)⟩, htl _ mw_588, htl _ mw_589⟩ ht_a0 (by decide) tk_no rfl (tk_w.pick [] rfl) rfl hl.1 rfl (Nat.le_of_ble_eq_true rfl) dX6_readPlain_123 ⟨(Nat.le_of_ble_eq_true rfl), (Nat.le_of_ble_eq_true rfl)⟩ (fun v1034 H locs hpo hG hS hq9 => ?_)
              have hf1002 := hf1002.call hq9 tk_w.nil
              obtain ⟨hpo1036, hpo1037, hpo1038, hpo1039⟩ := hpo
              refine lv_if_ne (tgt := 134) hx hb dX6_readPlain_126 (by decide) (fun c9 => ?_) (fun c9 => ?_)
              · have hc1040 : ¬ (v1034.toInt = 0) := fun h9 => c9 ((fi_eq rfl (show (0 : Int32).toInt = 0 by decide)).mpr h9)
                refine lv_aload_n hx hb dX6_readPlain_134 rfl (lv_at hl 2 rfl) ?_
                have hk_5 : (5 : Int32).toInt = 5 := by decide
                refine tk_Vv (As := []) (rest := []) (ci := 6) ⟨hx, hb, hml, hown, hts⟩ hK hG hZ hS (k_X6_step l D cy ld t a0 5 ht_a0 (by omega) (by omega)) hf1002 ⟨callB_of 0 hts (wl_in mw_494) rfl rfl rfl (htl _ mw_36) (htl _ mw_491) hd_yX6_step ⟨(Nat.le_of_ble_eq_true rfl), (Nat.le_of_ble_eq_true rfl)⟩, htl _ mw_492, htl _ mw_493⟩ ht_a0 (by decide) tk_no rfl (tk_w.pick [0] rfl) rfl hl.1 rfl (Nat.le_of_ble_eq_true rfl) dX6_readPlain_135 ⟨(Nat.le_of_ble_eq_true rfl), (Nat.le_of_ble_eq_true rfl)⟩ (fun H locs hpo hG hS hq9 => ?_)
                have hf1042 := hpo
                refine lv_aload_n hx hb dX6_readPlain_138 rfl (lv_at hl 2 rfl) ?_
                refine tk_Vv (As := []) (rest := []) (ci := 6) ⟨hx, hb, hml, hown, hts⟩ hK hG hZ hS (k_X6_readSum_5 l D cy ld t a0 ht_a0) hf1042 ⟨callB_of 0 hts (wl_in mw_583) rfl rfl rfl (htl _ mw_36) (htl _ mw_580) hd_yX6_readSum ⟨(Nat.le_of_ble_eq_true rfl), (Nat.le_of_ble_eq_true rfl)⟩, htl _ mw_581, htl _ mw_582⟩ ht_a0 (by decide) tk_no rfl (tk_w.pick [0, 1, 2] rfl) rfl hl.1 rfl (Nat.le_of_ble_eq_true rfl) dX6_readPlain_139 ⟨(Nat.le_of_ble_eq_true rfl), (Nat.le_of_ble_eq_true rfl)⟩ (fun H locs hpo hG hS hq9 => ?_)
                have hf1044 := hpo
                refine lv_aload_n hx hb dX6_readPlain_142 rfl (lv_at hl 2 rfl) ?_
                refine tk_get (ci := 6) (C := RX6) (T := TX6) (N := 11) (sp := (6, 8, 512, 12)) hx hb htl inX6 hown hK hG ht_a0 (by decide) tk_no rfl 0 (by decide) (htl _ mw_132) (fun _ h9 => h9) rfl dX6_readPlain_143 (fun v9 hf1045 hV9 => ?_)
                obtain ⟨b1046, rfl, ht_b1046⟩ := hV9
                have ht_b1046 : t b1046 = (8, 512, 12) := ht_b1046
                refine lv_iload_n hx hb dX6_readPlain_146 rfl (lv_at hl 0 rfl) ?_
                refine lv_iconst (v := 0) hx hb dX6_readPlain_147 (by decide) ?_
                have hk_0 : (0 : Int32).toInt = 0 := by decide
                refine tk_Vv (As := [.int v1019, .int 0]) (rest := []) (ci := 7) ⟨hx, hb, hml, hown, hts⟩ hK hG hZ hS (k_X7_put l D cy ld t b1046 v1019 0 ht_b1046) trivial ⟨callB_of 2 hts (wl_in mw_594) rfl rfl rfl (htl _ mw_131) (htl _ mw_591) hd_yX7_put ⟨(Nat.le_of_ble_eq_true rfl), (Nat.le_of_ble_eq_true rfl)⟩, htl _ mw_592, htl _ mw_593⟩ ht_b1046 (by decide) tk_no rfl (tk_w.pick [1, 2] rfl) rfl hl.1 rfl (Nat.le_of_ble_eq_true rfl) dX6_readPlain_148 ⟨(Nat.le_of_ble_eq_true rfl), (Nat.le_of_ble_eq_true rfl)⟩ (fun H locs hpo hG hS hq9 => ?_)
                have hf1044 := hf1044.call hq9 (tk_w.no ht_a0 (by decide))
                refine lv_iload_n hx hb dX6_readPlain_151 rfl (lv_at hl 1 rfl) ?_
                refine lv_if_eq (tgt := 164) hx hb dX6_readPlain_152 (by decide) (fun c9 => ?_) (fun c9 => ?_)
                · have hc1048 : v2.toInt = 0 := (fi_eq rfl (show (0 : Int32).toInt = 0 by decide)).mp c9
                  exact tk_vret hx hb hr hlocks (show tk_f D H a0 6 9 (.int 5) from hf1044) hG hS dX6_readPlain_164
                · have hc1048 : ¬ (v2.toInt = 0) := fun h9 => c9 ((fi_eq rfl (show (0 : Int32).toInt = 0 by decide)).mpr h9)
                  refine lv_aload_n hx hb dX6_readPlain_155 rfl (lv_at hl 2 rfl) ?_
                  refine tk_get (ci := 6) (C := RX6) (T := TX6) (N := 11) (sp := (6, 8, 512, 12)) hx hb htl inX6 hown hK hG ht_a0 (by decide) tk_no rfl 0 (by decide) (htl _ mw_132) (fun _ h9 => h9) rfl dX6_readPlain_156 (fun v9 hf1049 hV9 => ?_)
                  obtain ⟨b1050, rfl, ht_b1050⟩ := hV9
                  have ht_b1050 : t b1050 = (8, 512, 12) := ht_b1050
                  refine lv_iconst (v := 3) hx hb dX6_readPlain_159 (by decide) ?_
                  refine lv_iconst (v := 0) hx hb dX6_readPlain_160 (by decide) ?_
                  have hk_3 : (3 : Int32).toInt = 3 := by decide
                  have hk_0 : (0 : Int32).toInt = 0 := by decide
                  refine tk_Vv (As := [.int 3, .int 0]) (rest := []) (ci := 7) ⟨hx, hb, hml, hown, hts⟩ hK hG hZ hS (k_X7_put l D cy ld t b1050 3 0 ht_b1050) trivial ⟨callB_of 2 hts (wl_in mw_594) rfl rfl rfl (htl _ mw_131) (htl _ mw_591) hd_yX7_put ⟨(Nat.le_of_ble_eq_true rfl), (Nat.le_of_ble_eq_true rfl)⟩, htl _ mw_592, htl _ mw_593⟩ ht_b1050 (by decide) tk_no rfl (tk_w.pick [1, 2] rfl) rfl hl.1 rfl (Nat.le_of_ble_eq_true rfl) dX6_readPlain_161 ⟨(Nat.le_of_ble_eq_true rfl), (Nat.le_of_ble_eq_true rfl)⟩ (fun H locs hpo hG hS hq9 => ?_)
                  have hf1044 := hf1044.call hq9 (tk_w.no ht_a0 (by decide))
                  exact tk_vret hx hb hr hlocks (show tk_f D H a0 6 9 (.int 5) from hf1044) hG hS dX6_readPlain_164
              · have hc1040 : v1034.toInt = 0 := (fi_eq rfl (show (0 : Int32).toInt = 0 by decide)).mp c9
                refine lv_aload_n hx hb dX6_readPlain_129 rfl (lv_at hl 2 rfl) ?_
                have hk_5 : (5 : Int32).toInt = 5 := by decide
                refine tk_Vv (As := []) (rest := []) (ci := 6) ⟨hx, hb, hml, hown, hts⟩ hK hG hZ hS (k_X6_fail l D cy ld t a0 5 ht_a0 (by omega) (by omega)) hf1002 ⟨callB_of 0 hts (wl_in mw_507) rfl rfl rfl (htl _ mw_36) (htl _ mw_504) hd_yX6_fail ⟨(Nat.le_of_ble_eq_true rfl), (Nat.le_of_ble_eq_true rfl)⟩, htl _ mw_505, htl _ mw_506⟩ ht_a0 (by decide) tk_no rfl (tk_w.pick [0] rfl) rfl hl.1 rfl (Nat.le_of_ble_eq_true rfl) dX6_readPlain_130 ⟨(Nat.le_of_ble_eq_true rfl), (Nat.le_of_ble_eq_true rfl)⟩ (fun H locs hpo hG hS hq9 => ?_)
                have hf1053 := hpo
                exact tk_vret hx hb hr hlocks (show tk_f D H a0 6 9 (.int 5) from hf1053) hG hS dX6_readPlain_133
          refine lv_if_eq (tgt := 97) hx hb dX6_readPlain_89 (by decide) (fun c9 => ?_) (fun c9 => ?_)
          · have hc1009 : v1003.toInt = 0 := (fi_eq rfl (show (0 : Int32).toInt = 0 by decide)).mp c9
            refine lv_aload_n hx hb dX6_readPlain_97 rfl (lv_at hl 1 rfl) ?_
            refine lv_bipush (v := 62) hx hb dX6_readPlain_98 (by decide) ?_
            have hk_62 : (62 : Int32).toInt = 62 := by decide
            refine tk_Vi (As := [.int 62]) (rest := []) (ci := 6) ⟨hx, hb, hml, hown, hts⟩ hK hG hZ hS (k_X6_isSign l D cy ld t a0 62 ht_a0) trivial ⟨callB_of 1 hts (wl_in mw_590) rfl rfl rfl (htl _ mw_36) (htl _ mw_587) hd_yX6_isSign ⟨(Nat.le_of_ble_eq_true rfl), (Nat.le_of_ble_eq_true rfl)⟩, htl _ mw_588, htl _ mw_589⟩ ht_a0 (by decide) tk_no rfl (tk_w.pick [] rfl) rfl hl.1 rfl (Nat.le_of_ble_eq_true rfl) dX6_readPlain_100 ⟨(Nat.le_of_ble_eq_true rfl), (Nat.le_of_ble_eq_true rfl)⟩ (fun v1054 H locs hpo hG hS hq9 => ?_)
            have hf1002 := hf1002.call hq9 tk_w.nil
            obtain ⟨hpo1056, hpo1057, hpo1058, hpo1059⟩ := hpo
            refine lv_if_eq (tgt := 111) hx hb dX6_readPlain_103 (by decide) (fun c9 => ?_) (fun c9 => ?_)
            · have hc1060 : v1054.toInt = 0 := (fi_eq rfl (show (0 : Int32).toInt = 0 by decide)).mp c9
              refine lv_bipush (v := 13) hx hb dX6_readPlain_111 (by decide) ?_
              have hk_13 : (13 : Int32).toInt = 13 := by decide
              exact hj1021 13 _ _ (by omega) (by omega) hG hS hf1002 _ (lv_sub hl [0, 1] rfl)
            · have hc1060 : ¬ (v1054.toInt = 0) := fun h9 => c9 ((fi_eq rfl (show (0 : Int32).toInt = 0 by decide)).mpr h9)
              refine lv_bipush (v := 12) hx hb dX6_readPlain_106 (by decide) ?_
              refine lv_goto (tgt := 113) hx hb dX6_readPlain_108 (by decide) ?_
              have hk_12 : (12 : Int32).toInt = 12 := by decide
              exact hj1021 12 _ _ (by omega) (by omega) hG hS hf1002 _ (lv_sub hl [0, 1] rfl)
          · have hc1009 : ¬ (v1003.toInt = 0) := fun h9 => c9 ((fi_eq rfl (show (0 : Int32).toInt = 0 by decide)).mpr h9)
            refine lv_bipush (v := 11) hx hb dX6_readPlain_92 (by decide) ?_
            refine lv_goto (tgt := 113) hx hb dX6_readPlain_94 (by decide) ?_
            have hk_11 : (11 : Int32).toInt = 11 := by decide
            exact hj1021 11 _ _ (by omega) (by omega) hG hS hf1002 _ (lv_sub hl [0, 1] rfl)
        · have hc1000 : ¬ (v994.toInt = 0) := fun h9 => c9 ((fi_eq rfl (show (0 : Int32).toInt = 0 by decide)).mpr h9)
          refine lv_aload_n hx hb dX6_readPlain_49 rfl (lv_at hl 1 rfl) ?_
          refine tk_Vi (As := []) (rest := []) (ci := 6) ⟨hx, hb, hml, hown, hts⟩ hK hG hZ hS (k_X6_goDeeper_5 l D cy ld t a0 ht_a0) hg_0 ⟨callB_of 0 hts (wl_in mw_599) rfl rfl rfl (htl _ mw_36) (htl _ mw_596) hd_yX6_goDeeper ⟨(Nat.le_of_ble_eq_true rfl), (Nat.le_of_ble_eq_true rfl)⟩, htl _ mw_597, htl _ mw_598⟩ ht_a0 (by decide) tk_no rfl (tk_w.pick [0] rfl) rfl hl.1 rfl (Nat.le_of_ble_eq_true rfl) dX6_readPlain_50 ⟨(Nat.le_of_ble_eq_true rfl), (Nat.le_of_ble_eq_true rfl)⟩ (fun v1061 H locs hpo hG hS hq9 => ?_)
          obtain ⟨hpo1063, hpo1064, hpo1065, hf1066⟩ := hpo
          obtain rfl : v1061 = 1 := (fi_eq (show v1061.toInt = 1 by omega) (by decide)).mpr rfl
          refine lv_if_eq (tgt := 151) hx hb dX6_readPlain_53 (by decide) (fun c9 => absurd c9 (by decide)) (fun _ => ?_)
          refine lv_aload_n hx hb dX6_readPlain_56 rfl (lv_at hl 1 rfl) ?_
          refine tk_Vv (As := []) (rest := []) (ci := 6) ⟨hx, hb, hml, hown, hts⟩ hK hG hZ hS (k_X6_readTest_6 l D cy ld t a0 ht_a0) hf1066 ⟨callB_of 0 hts (wl_in mw_635) rfl rfl rfl (htl _ mw_36) (htl _ mw_632) hd_yX6_readTest ⟨(Nat.le_of_ble_eq_true rfl), (Nat.le_of_ble_eq_true rfl)⟩, htl _ mw_633, htl _ mw_634⟩ ht_a0 (by decide) tk_no rfl (tk_w.pick [0, 1, 2] rfl) rfl hl.1 rfl (Nat.le_of_ble_eq_true rfl) dX6_readPlain_57 ⟨(Nat.le_of_ble_eq_true rfl), (Nat.le_of_ble_eq_true rfl)⟩ (fun H locs hpo hG hS hq9 => ?_)
          have hf1068 := hpo
          refine lv_aload_n hx hb dX6_readPlain_60 rfl (lv_at hl 1 rfl) ?_
          refine lv_bipush (v := 41) hx hb dX6_readPlain_61 (by decide) ?_
          have hk_41 : (41 : Int32).toInt = 41 := by decide
          have hk_6 : (6 : Int32).toInt = 6 := by decide
          refine tk_Vv (As := [.int 41]) (rest := []) (ci := 6) ⟨hx, hb, hml, hown, hts⟩ hK hG hZ hS (k_X6_take l D cy ld t a0 41 6 ht_a0 (by omega) (by omega)) hf1068 ⟨callB_of 1 hts (wl_in mw_603) rfl rfl rfl (htl _ mw_36) (htl _ mw_600) hd_yX6_take ⟨(Nat.le_of_ble_eq_true rfl), (Nat.le_of_ble_eq_true rfl)⟩, htl _ mw_601, htl _ mw_602⟩ ht_a0 (by decide) tk_no rfl (tk_w.pick [0] rfl) rfl hl.1 rfl (Nat.le_of_ble_eq_true rfl) dX6_readPlain_63 ⟨(Nat.le_of_ble_eq_true rfl), (Nat.le_of_ble_eq_true rfl)⟩ (fun H locs hpo hG hS hq9 => ?_)
          have hf1070 := hpo
          refine lv_aload_n hx hb dX6_readPlain_66 rfl (lv_at hl 1 rfl) ?_
          refine lv_dup hx hb dX6_readPlain_67 rfl ?_
          refine tk_getk (ci := 6) (C := RX6) (T := TX6) (N := 11) (sp := (0, 0, 8, 0)) hx hb htl inX6 hown hK hG ht_a0 (by decide) tk_no rfl 9 (by decide) (htl _ mw_480) (fun _ h9 => h9) rfl hf1070 dX6_readPlain_68 ?_
          refine lv_iconst (v := 1) hx hb dX6_readPlain_71 (by decide) ?_
          refine lv_isub hx hb dX6_readPlain_72 ?_
          refine fx_ti (v := 5) (by decide) ?_
          refine tk_put (ci := 6) (v := .int 5) (ty := .int) (C := RX6) (T := TX6) (N := 11) (sp := (0, 0, 8, 0)) hx hb htl inX6 tyX6 tyX6_ok nmX6 hown hK hG hS ht_a0 (by decide) tk_no rfl 9 (by decide) (htl _ mw_480) (fun _ h9 => h9) rfl (tyX6_ok 9 (by decide)) rfl rfl rfl (tk_V0 (by decide) (by decide)) (fun _ h => tk_X7 h (by decide) (by decide)) (tk_w.of ht_a0 (by decide) (List.mem_of_getElem? (i := 0) rfl) (Nat.le_refl _) (Nat.le_refl _)) dX6_readPlain_73 (fun H locs hG hS hf1071 hq9 hj9 => ?_)
          refine lv_goto (tgt := 151) hx hb dX6_readPlain_76 (by decide) ?_
          refine lv_iload_n hx hb dX6_readPlain_151 rfl (lv_at hl 0 rfl) ?_
          refine lv_if_eq (tgt := 164) hx hb dX6_readPlain_152 (by decide) (fun c9 => ?_) (fun c9 => ?_)
          · have hc1073 : v2.toInt = 0 := (fi_eq rfl (show (0 : Int32).toInt = 0 by decide)).mp c9
            exact tk_vret hx hb hr hlocks (show tk_f D H a0 6 9 (.int 5) from hf1071) hG hS dX6_readPlain_164
          · have hc1073 : ¬ (v2.toInt = 0) := fun h9 => c9 ((fi_eq rfl (show (0 : Int32).toInt = 0 by decide)).mpr h9)
            refine lv_aload_n hx hb dX6_readPlain_155 rfl (lv_at hl 1 rfl) ?_
            refine tk_get (ci := 6) (C := RX6) (T := TX6) (N := 11) (sp := (6, 8, 512, 12)) hx hb htl inX6 hown hK hG ht_a0 (by decide) tk_no rfl 0 (by decide) (htl _ mw_132) (fun _ h9 => h9) rfl dX6_readPlain_156 (fun v9 hf1074 hV9 => ?_)
            obtain ⟨b1075, rfl, ht_b1075⟩ := hV9
            have ht_b1075 : t b1075 = (8, 512, 12) := ht_b1075
            refine lv_iconst (v := 3) hx hb dX6_readPlain_159 (by decide) ?_
            refine lv_iconst (v := 0) hx hb dX6_readPlain_160 (by decide) ?_
            have hk_3 : (3 : Int32).toInt = 3 := by decide
            have hk_0 : (0 : Int32).toInt = 0 := by decide
            refine tk_Vv (As := [.int 3, .int 0]) (rest := []) (ci := 7) ⟨hx, hb, hml, hown, hts⟩ hK hG hZ hS (k_X7_put l D cy ld t b1075 3 0 ht_b1075) trivial ⟨callB_of 2 hts (wl_in mw_594) rfl rfl rfl (htl _ mw_131) (htl _ mw_591) hd_yX7_put ⟨(Nat.le_of_ble_eq_true rfl), (Nat.le_of_ble_eq_true rfl)⟩, htl _ mw_592, htl _ mw_593⟩ ht_b1075 (by decide) tk_no rfl (tk_w.pick [1, 2] rfl) rfl hl.1 rfl (Nat.le_of_ble_eq_true rfl) dX6_readPlain_161 ⟨(Nat.le_of_ble_eq_true rfl), (Nat.le_of_ble_eq_true rfl)⟩ (fun H locs hpo hG hS hq9 => ?_)
            have hf1071 := hf1071.call hq9 (tk_w.no ht_a0 (by decide))
            exact tk_vret hx hb hr hlocks (show tk_f D H a0 6 9 (.int 5) from hf1071) hG hS dX6_readPlain_164
      refine lv_icmp_ge (tgt := 40) hx hb dX6_readPlain_8 (by decide) (fun c9 => ?_) (fun c9 => ?_)
      · have hc976 : 400 ≤ v1.toInt := (fi_le (show (400 : Int32).toInt = 400 by decide) rfl).mp c9
        exact hj993 _ _ hG hS hg_0 _ (lv_sub hl [1, 2] rfl)
      · have hc976 : ¬ (400 ≤ v1.toInt) := fun h9 => c9 ((fi_le (show (400 : Int32).toInt = 400 by decide) rfl).mpr h9)
        refine lv_aload_n hx hb dX6_readPlain_11 rfl (lv_at hl 2 rfl) ?_
        refine va_ldcS hx hb hown hK.2.2.2.2.2.2.2.2.2.2.2.2.1 dX6_readPlain_12 ?_
        refine tk_Vi (As := [.ref (ld 8)]) (rest := []) (ci := 6) ⟨hx, hb, hml, hown, hts⟩ hK hG hZ hS (k_X6_isWord_8 l D cy ld t a0 ht_a0) trivial ⟨callB_of 1 hts (wl_in mw_626) rfl rfl rfl (htl _ mw_36) (htl _ mw_623) hd_yX6_isWord ⟨(Nat.le_of_ble_eq_true rfl), (Nat.le_of_ble_eq_true rfl)⟩, htl _ mw_624, htl _ mw_625⟩ ht_a0 (by decide) tk_no rfl (tk_w.pick [] rfl) rfl hl.1 rfl (Nat.le_of_ble_eq_true rfl) dX6_readPlain_14 ⟨(Nat.le_of_ble_eq_true rfl), (Nat.le_of_ble_eq_true rfl)⟩ (fun v1077 H locs hpo hG hS hq9 => ?_)
        have hg_0 := hg_0.call hq9 tk_w.nil
        obtain ⟨hpo1079, hpo1080, hpo1081, hpo1082⟩ := hpo
        refine lv_if_eq (tgt := 40) hx hb dX6_readPlain_17 (by decide) (fun c9 => ?_) (fun c9 => ?_)
        · have hc1083 : v1077.toInt = 0 := (fi_eq rfl (show (0 : Int32).toInt = 0 by decide)).mp c9
          exact hj993 _ _ hG hS hg_0 _ (lv_sub hl [1, 2] rfl)
        · have hc1083 : ¬ (v1077.toInt = 0) := fun h9 => c9 ((fi_eq rfl (show (0 : Int32).toInt = 0 by decide)).mpr h9)
          refine lv_iload_n hx hb dX6_readPlain_20 rfl (lv_at hl 1 rfl) ?_
          have hj1087 : ∀ (v1086 : Int32), 0 ≤ v1086.toInt → v1086.toInt ≤ 1 → ∀ ls : Array Slot, lv_has ls 3 [(2, .int v1), (0, .ref a0)] → W p l e ({ frames := 21, cells := 0, slots := 0, locals := 1400 }) s m args below meth c H locs 0 0 (MQ below (tv D cy ld t [] (fun H => tk_f D H a0 6 9 (.int 5)) (tk_w t [(7, 0, 0), (20, 0, 0), (8, 12, 12)])) args s 0 0 (tk_w t [(7, 0, 0), (20, 0, 0), (8, 12, 12)])) (F0 m 29 ls [.int v1086]) := by
            intro v1086 hq0_j1087 hq1_j1087 ls hl
            refine lv_istore_n (lv' := [(1, .int v1086), (2, .int v1), (0, .ref a0)]) hx hb dX6_readPlain_29 rfl hl (by decide) rfl (fun ls hl => ?_)
            refine lv_aload_n hx hb dX6_readPlain_30 rfl (lv_at hl 2 rfl) ?_
            have hk_5 : (5 : Int32).toInt = 5 := by decide
            refine tk_Vv (As := []) (rest := []) (ci := 6) ⟨hx, hb, hml, hown, hts⟩ hK hG hZ hS (k_X6_step l D cy ld t a0 5 ht_a0 (by omega) (by omega)) hg_0 ⟨callB_of 0 hts (wl_in mw_494) rfl rfl rfl (htl _ mw_36) (htl _ mw_491) hd_yX6_step ⟨(Nat.le_of_ble_eq_true rfl), (Nat.le_of_ble_eq_true rfl)⟩, htl _ mw_492, htl _ mw_493⟩ ht_a0 (by decide) tk_no rfl (tk_w.pick [0] rfl) rfl hl.1 rfl (Nat.le_of_ble_eq_true rfl) dX6_readPlain_31 ⟨(Nat.le_of_ble_eq_true rfl), (Nat.le_of_ble_eq_true rfl)⟩ (fun H locs hpo hG hS hq9 => ?_)
            have hf1089 := hpo
            obtain ⟨v1090, h_v1090, e_v1090⟩ := tk_inc v1 1 (by decide) (by omega) (by omega)
            refine lv_iinc (v := v1090) (lv' := [(2, .int v1090), (1, .int v1086), (0, .ref a0)]) hx hb dX6_readPlain_34 hl (k := 1) rfl e_v1090 (by decide) rfl (fun ls hl => ?_)
            refine lv_goto (tgt := 4) hx hb dX6_readPlain_37 (by decide) ?_
            exact ih_l975 v1090 v1086 _ _ (by omega) (by omega) (by omega) (by omega) (by omega) hG hS hf1089 _ (lv_sub hl [0, 1, 2] rfl)
          refine lv_if_ne (tgt := 28) hx hb dX6_readPlain_21 (by decide) (fun c9 => ?_) (fun c9 => ?_)
          · have hc1084 : ¬ (v2.toInt = 0) := fun h9 => c9 ((fi_eq rfl (show (0 : Int32).toInt = 0 by decide)).mpr h9)
            refine lv_iconst (v := 0) hx hb dX6_readPlain_28 (by decide) ?_
            have hk_0 : (0 : Int32).toInt = 0 := by decide
            exact hj1087 0 (by omega) (by omega) _ (lv_sub hl [0, 2] rfl)
          · have hc1084 : v2.toInt = 0 := (fi_eq rfl (show (0 : Int32).toInt = 0 by decide)).mp c9
            refine lv_iconst (v := 1) hx hb dX6_readPlain_24 (by decide) ?_
            refine lv_goto (tgt := 29) hx hb dX6_readPlain_25 (by decide) ?_
            have hk_1 : (1 : Int32).toInt = 1 := by decide
            exact hj1087 1 (by omega) (by omega) _ (lv_sub hl [0, 2] rfl)
  have hk_0 : (0 : Int32).toInt = 0 := by decide
  have hk_0 : (0 : Int32).toInt = 0 := by decide
  exact hl975 401 0 0 _ _ (by omega) (by omega) (by omega) (by omega) (by omega) hG hS hg_0 _ (lv_sub hl [0, 1, 2] rfl)
set_option maxHeartbeats 4000000 in
set_option maxRecDepth 100000 in
theorem k_X6_readBoth_5 (l : Launch) (D : va_G) (cy : Nat → ClassId) (ld : Nat → Nat) (t : tk_T) (a0 : Nat) (ht_a0 : t a0 = (7, 0, 0)) : Met l yX6_readBoth (wl yX6_readBoth cX6_readBoth 3 none) ({ frames := 22, cells := 0, slots := 0, locals := 1470 }) (tp D cy ld t [] [.ref a0] (fun H => tk_f D H a0 6 9 (.int 5))) (tv D cy ld t [] (fun H => tk_f D H a0 6 9 (.int 5)) (tk_w t [(7, 0, 0), (20, 0, 0), (8, 12, 12)])) 0 0 (tk_w t [(7, 0, 0), (20, 0, 0), (8, 12, 12)]) := by
  refine tk_met (y := yX6_readBoth) (cc := cX6_readBoth) (maxL := 3) (ret := none) (av := [.ref a0]) _ _ (by decide) (Nat.le_of_ble_eq_true rfl) ?_
  intro p e s m args below meth c hx hb hr hml hts htl hown hlocks hK H locs hH hG hS hB hZ ls hl
  have hown : s.vm.findClass RX6 = some m.cls := hown
  have hl : lv_has ls 3 [(0, .ref a0)] := hl
  have hg_0 := hB
  refine lv_aload_n hx hb dX6_readBoth_0 rfl (lv_at hl 0 rfl) ?_
  refine tk_Vv (As := []) (rest := []) (ci := 6) ⟨hx, hb, hml, hown, hts⟩ hK hG hZ hS (k_X6_readPlain_5 l D cy ld t a0 ht_a0) hg_0 ⟨callB_of 0 hts (wl_in mw_648) rfl rfl rfl (htl _ mw_36) (htl _ mw_645) hd_yX6_readPlain ⟨(Nat.le_of_ble_eq_true rfl), (Nat.le_of_ble_eq_true rfl)⟩, htl _ mw_646, htl _ mw_647⟩ ht_a0 (by decide) tk_no rfl (tk_w.pick [0, 1, 2] rfl) rfl hl.1 rfl (Nat.le_of_ble_eq_true rfl) dX6_readBoth_1 ⟨(Nat.le_of_ble_eq_true rfl), (Nat.le_of_ble_eq_true rfl)⟩ (fun H locs hpo hG hS hq9 => ?_)
  have hf2 := hpo
  refine lv_iconst (v := 0) hx hb dX6_readBoth_4 (by decide) ?_
  refine lv_istore_n (lv' := [(1, .int 0), (0, .ref a0)]) hx hb dX6_readBoth_5 rfl hl (by decide) rfl (fun ls hl => ?_)
  have hl170 : ∀ (N_l170 : Nat) (v3 : Int32) (H : Heap) (locs : List Loc), 0 ≤ v3.toInt → v3.toInt ≤ 400 → (-1) * v3.toInt + 400 < (N_l170 : Int) → tk_G D cy ld t [] H → va_S (tk_w t [(7, 0, 0), (20, 0, 0), (8, 12, 12)]) s.heap H locs → tk_f D H a0 6 9 (.int 5) → ∀ ls : Array Slot, lv_has ls 3 [(1, .int v3), (0, .ref a0)] → W p l e ({ frames := 22, cells := 0, slots := 0, locals := 1470 }) s m args below meth c H locs 0 0 (MQ below (tv D cy ld t [] (fun H => tk_f D H a0 6 9 (.int 5)) (tk_w t [(7, 0, 0), (20, 0, 0), (8, 12, 12)])) args s 0 0 (tk_w t [(7, 0, 0), (20, 0, 0), (8, 12, 12)])) (F0 m 6 ls []) := by
    intro N_l170
    induction N_l170 with
    | zero => intro v3 H locs hq0_l170 hq1_l170 hm_l170 hG hS hf2 ls hl; exfalso; omega
    | succ N_l170 ih_l170 =>
      intro v3 H locs hq0_l170 hq1_l170 hm_l170 hG hS hf2 ls hl
      refine lv_iload_n hx hb dX6_readBoth_6 rfl (lv_at hl 0 rfl) ?_
      refine lv_sipush (v := 400) hx hb dX6_readBoth_7 (by decide) ?_
      refine lv_icmp_ge (tgt := 58) hx hb dX6_readBoth_10 (by decide) (fun c9 => ?_) (fun c9 => ?_)
      · have hc171 : 400 ≤ v3.toInt := (fi_le (show (400 : Int32).toInt = 400 by decide) rfl).mp c9
        exact tk_vret hx hb hr hlocks (show tk_f D H a0 6 9 (.int 5) from hf2) hG hS dX6_readBoth_58
      · have hc171 : ¬ (400 ≤ v3.toInt) := fun h9 => c9 ((fi_le (show (400 : Int32).toInt = 400 by decide) rfl).mpr h9)
        refine lv_aload_n hx hb dX6_readBoth_13 rfl (lv_at hl 1 rfl) ?_
        refine va_ldcS hx hb hown hK.2.2.2.2.2.2.2.2.2.2.2.2.2.1 dX6_readBoth_14 ?_
        refine tk_Vi (As := [.ref (ld 9)]) (rest := []) (ci := 6) ⟨hx, hb, hml, hown, hts⟩ hK hG hZ hS (k_X6_isWord_9 l D cy ld t a0 ht_a0) trivial ⟨callB_of 1 hts (wl_in mw_626) rfl rfl rfl (htl _ mw_36) (htl _ mw_623) hd_yX6_isWord ⟨(Nat.le_of_ble_eq_true rfl), (Nat.le_of_ble_eq_true rfl)⟩, htl _ mw_624, htl _ mw_625⟩ ht_a0 (by decide) tk_no rfl (tk_w.pick [] rfl) rfl hl.1 rfl (Nat.le_of_ble_eq_true rfl) dX6_readBoth_16 ⟨(Nat.le_of_ble_eq_true rfl), (Nat.le_of_ble_eq_true rfl)⟩ (fun v172 H locs hpo hG hS hq9 => ?_)
        have hf2 := hf2.call hq9 tk_w.nil
        obtain ⟨hpo174, hpo175, hpo176, hpo177⟩ := hpo
        refine lv_if_eq (tgt := 58) hx hb dX6_readBoth_19 (by decide) (fun c9 => ?_) (fun c9 => ?_)
        · have hc178 : v172.toInt = 0 := (fi_eq rfl (show (0 : Int32).toInt = 0 by decide)).mp c9
          exact tk_vret hx hb hr hlocks (show tk_f D H a0 6 9 (.int 5) from hf2) hG hS dX6_readBoth_58
        · have hc178 : ¬ (v172.toInt = 0) := fun h9 => c9 ((fi_eq rfl (show (0 : Int32).toInt = 0 by decide)).mpr h9)
          refine lv_aload_n hx hb dX6_readBoth_22 rfl (lv_at hl 1 rfl) ?_
          refine tk_get (ci := 6) (C := RX6) (T := TX6) (N := 11) (sp := (6, 8, 512, 12)) hx hb htl inX6 hown hK hG ht_a0 (by decide) tk_no rfl 0 (by decide) (htl _ mw_132) (fun _ h9 => h9) rfl dX6_readBoth_23 (fun v9 hf179 hV9 => ?_)
          obtain ⟨b180, rfl, ht_b180⟩ := hV9
          have ht_b180 : t b180 = (8, 512, 12) := ht_b180
          refine tk_get (ci := 7) (C := RX7) (T := TX7) (N := 10) (sp := (4, 0, 0, 0)) hx hb htl inX7 hown hK hG ht_b180 (by decide) tk_no rfl 6 (by decide) (htl _ mw_513) (fun _ h9 => h9) rfl dX6_readBoth_26 (fun v9 hf181 hV9 => ?_)
          obtain ⟨v182, rfl, (ha_v182 : 0 ≤ v182.toInt), (hb_v182 : v182.toInt ≤ 512)⟩ := hV9
          refine lv_istore_n (lv' := [(2, .int v182), (1, .int v3), (0, .ref a0)]) hx hb dX6_readBoth_29 rfl hl (by decide) rfl (fun ls hl => ?_)
          refine lv_aload_n hx hb dX6_readBoth_30 rfl (lv_at hl 2 rfl) ?_
          refine tk_get (ci := 6) (C := RX6) (T := TX6) (N := 11) (sp := (6, 8, 512, 12)) hx hb htl inX6 hown hK hG ht_a0 (by decide) tk_no rfl 0 (by decide) (htl _ mw_132) (fun _ h9 => h9) rfl dX6_readBoth_31 (fun v9 hf183 hV9 => ?_)
          obtain ⟨b184, rfl, ht_b184⟩ := hV9
          have ht_b184 : t b184 = (8, 512, 12) := ht_b184
          refine lv_iconst (v := 4) hx hb dX6_readBoth_34 (by decide) ?_
          refine lv_iconst (v := 0) hx hb dX6_readBoth_35 (by decide) ?_
          have hk_4 : (4 : Int32).toInt = 4 := by decide
          have hk_0 : (0 : Int32).toInt = 0 := by decide
          refine tk_Vv (As := [.int 4, .int 0]) (rest := []) (ci := 7) ⟨hx, hb, hml, hown, hts⟩ hK hG hZ hS (k_X7_put l D cy ld t b184 4 0 ht_b184) trivial ⟨callB_of 2 hts (wl_in mw_594) rfl rfl rfl (htl _ mw_131) (htl _ mw_591) hd_yX7_put ⟨(Nat.le_of_ble_eq_true rfl), (Nat.le_of_ble_eq_true rfl)⟩, htl _ mw_592, htl _ mw_593⟩ ht_b184 (by decide) tk_no rfl (tk_w.pick [1, 2] rfl) rfl hl.1 rfl (Nat.le_of_ble_eq_true rfl) dX6_readBoth_36 ⟨(Nat.le_of_ble_eq_true rfl), (Nat.le_of_ble_eq_true rfl)⟩ (fun H locs hpo hG hS hq9 => ?_)
          have hf2 := hf2.call hq9 (tk_w.no ht_a0 (by decide))
          refine lv_aload_n hx hb dX6_readBoth_39 rfl (lv_at hl 2 rfl) ?_
          have hk_5 : (5 : Int32).toInt = 5 := by decide
          refine tk_Vv (As := []) (rest := []) (ci := 6) ⟨hx, hb, hml, hown, hts⟩ hK hG hZ hS (k_X6_step l D cy ld t a0 5 ht_a0 (by omega) (by omega)) hf2 ⟨callB_of 0 hts (wl_in mw_494) rfl rfl rfl (htl _ mw_36) (htl _ mw_491) hd_yX6_step ⟨(Nat.le_of_ble_eq_true rfl), (Nat.le_of_ble_eq_true rfl)⟩, htl _ mw_492, htl _ mw_493⟩ ht_a0 (by decide) tk_no rfl (tk_w.pick [0] rfl) rfl hl.1 rfl (Nat.le_of_ble_eq_true rfl) dX6_readBoth_40 ⟨(Nat.le_of_ble_eq_true rfl), (Nat.le_of_ble_eq_true rfl)⟩ (fun H locs hpo hG hS hq9 => ?_)
          have hf187 := hpo
          refine lv_aload_n hx hb dX6_readBoth_43 rfl (lv_at hl 2 rfl) ?_
          refine tk_Vv (As := []) (rest := []) (ci := 6) ⟨hx, hb, hml, hown, hts⟩ hK hG hZ hS (k_X6_readPlain_5 l D cy ld t a0 ht_a0) hf187 ⟨callB_of 0 hts (wl_in mw_648) rfl rfl rfl (htl _ mw_36) (htl _ mw_645) hd_yX6_readPlain ⟨(Nat.le_of_ble_eq_true rfl), (Nat.le_of_ble_eq_true rfl)⟩, htl _ mw_646, htl _ mw_647⟩ ht_a0 (by decide) tk_no rfl (tk_w.pick [0, 1, 2] rfl) rfl hl.1 rfl (Nat.le_of_ble_eq_true rfl) dX6_readBoth_44 ⟨(Nat.le_of_ble_eq_true rfl), (Nat.le_of_ble_eq_true rfl)⟩ (fun H locs hpo hG hS hq9 => ?_)
          have hf189 := hpo
          refine lv_aload_n hx hb dX6_readBoth_47 rfl (lv_at hl 2 rfl) ?_
          refine lv_iload_n hx hb dX6_readBoth_48 rfl (lv_at hl 0 rfl) ?_
          refine tk_Vv (As := [.int v182]) (rest := []) (ci := 6) ⟨hx, hb, hml, hown, hts⟩ hK hG hZ hS (k_X6_landHere l D cy ld t a0 v182 ht_a0 (by omega) (by omega)) trivial ⟨callB_of 1 hts (wl_in mw_642) rfl rfl rfl (htl _ mw_36) (htl _ mw_639) hd_yX6_landHere ⟨(Nat.le_of_ble_eq_true rfl), (Nat.le_of_ble_eq_true rfl)⟩, htl _ mw_640, htl _ mw_641⟩ ht_a0 (by decide) tk_no rfl (tk_w.pick [1] rfl) rfl hl.1 rfl (Nat.le_of_ble_eq_true rfl) dX6_readBoth_49 ⟨(Nat.le_of_ble_eq_true rfl), (Nat.le_of_ble_eq_true rfl)⟩ (fun H locs hpo hG hS hq9 => ?_)
          have hf189 := hf189.call hq9 (tk_w.no ht_a0 (by decide))
          obtain ⟨v191, h_v191, e_v191⟩ := tk_inc v3 1 (by decide) (by omega) (by omega)
          refine lv_iinc (v := v191) (lv' := [(1, .int v191), (2, .int v182), (0, .ref a0)]) hx hb dX6_readBoth_52 hl (k := 1) rfl e_v191 (by decide) rfl (fun ls hl => ?_)
          refine lv_goto (tgt := 6) hx hb dX6_readBoth_55 (by decide) ?_
          exact ih_l170 v191 _ _ (by omega) (by omega) (by omega) hG hS hf189 _ (lv_sub hl [0, 2] rfl)
  have hk_0 : (0 : Int32).toInt = 0 := by decide
  exact hl170 401 0 _ _ (by omega) (by omega) (by omega) hG hS hf2 _ (lv_sub hl [0, 1] rfl)
set_option maxHeartbeats 4000000 in
set_option maxRecDepth 100000 in
theorem k_X6_readTest_5 (l : Launch) (D : va_G) (cy : Nat → ClassId) (ld : Nat → Nat) (t : tk_T) (a0 : Nat) (ht_a0 : t a0 = (7, 0, 0)) : Met l yX6_readTest (wl yX6_readTest cX6_readTest 3 none) ({ frames := 23, cells := 0, slots := 0, locals := 1540 }) (tp D cy ld t [] [.ref a0] (fun H => tk_f D H a0 6 9 (.int 5))) (tv D cy ld t [] (fun H => tk_f D H a0 6 9 (.int 5)) (tk_w t [(7, 0, 0), (20, 0, 0), (8, 12, 12)])) 0 0 (tk_w t [(7, 0, 0), (20, 0, 0), (8, 12, 12)]) := by
  refine tk_met (y := yX6_readTest) (cc := cX6_readTest) (maxL := 3) (ret := none) (av := [.ref a0]) _ _ (by decide) (Nat.le_of_ble_eq_true rfl) ?_
  intro p e s m args below meth c hx hb hr hml hts htl hown hlocks hK H locs hH hG hS hB hZ ls hl
  have hown : s.vm.findClass RX6 = some m.cls := hown
  have hl : lv_has ls 3 [(0, .ref a0)] := hl
  have hg_0 := hB
  refine lv_aload_n hx hb dX6_readTest_0 rfl (lv_at hl 0 rfl) ?_
  refine tk_Vv (As := []) (rest := []) (ci := 6) ⟨hx, hb, hml, hown, hts⟩ hK hG hZ hS (k_X6_readBoth_5 l D cy ld t a0 ht_a0) hg_0 ⟨callB_of 0 hts (wl_in mw_644) rfl rfl rfl (htl _ mw_36) (htl _ mw_636) hd_yX6_readBoth ⟨(Nat.le_of_ble_eq_true rfl), (Nat.le_of_ble_eq_true rfl)⟩, htl _ mw_637, htl _ mw_638⟩ ht_a0 (by decide) tk_no rfl (tk_w.pick [0, 1, 2] rfl) rfl hl.1 rfl (Nat.le_of_ble_eq_true rfl) dX6_readTest_1 ⟨(Nat.le_of_ble_eq_true rfl), (Nat.le_of_ble_eq_true rfl)⟩ (fun H locs hpo hG hS hq9 => ?_)
  have hf2 := hpo
  refine lv_iconst (v := 0) hx hb dX6_readTest_4 (by decide) ?_
  refine lv_istore_n (lv' := [(1, .int 0), (0, .ref a0)]) hx hb dX6_readTest_5 rfl hl (by decide) rfl (fun ls hl => ?_)
  have hl170 : ∀ (N_l170 : Nat) (v3 : Int32) (H : Heap) (locs : List Loc), 0 ≤ v3.toInt → v3.toInt ≤ 400 → (-1) * v3.toInt + 400 < (N_l170 : Int) → tk_G D cy ld t [] H → va_S (tk_w t [(7, 0, 0), (20, 0, 0), (8, 12, 12)]) s.heap H locs → tk_f D H a0 6 9 (.int 5) → ∀ ls : Array Slot, lv_has ls 3 [(1, .int v3), (0, .ref a0)] → W p l e ({ frames := 23, cells := 0, slots := 0, locals := 1540 }) s m args below meth c H locs 0 0 (MQ below (tv D cy ld t [] (fun H => tk_f D H a0 6 9 (.int 5)) (tk_w t [(7, 0, 0), (20, 0, 0), (8, 12, 12)])) args s 0 0 (tk_w t [(7, 0, 0), (20, 0, 0), (8, 12, 12)])) (F0 m 6 ls []) := by
    intro N_l170
    induction N_l170 with
    | zero => intro v3 H locs hq0_l170 hq1_l170 hm_l170 hG hS hf2 ls hl; exfalso; omega
    | succ N_l170 ih_l170 =>
      intro v3 H locs hq0_l170 hq1_l170 hm_l170 hG hS hf2 ls hl
      refine lv_iload_n hx hb dX6_readTest_6 rfl (lv_at hl 0 rfl) ?_
      refine lv_sipush (v := 400) hx hb dX6_readTest_7 (by decide) ?_
      refine lv_icmp_ge (tgt := 58) hx hb dX6_readTest_10 (by decide) (fun c9 => ?_) (fun c9 => ?_)
      · have hc171 : 400 ≤ v3.toInt := (fi_le (show (400 : Int32).toInt = 400 by decide) rfl).mp c9
        exact tk_vret hx hb hr hlocks (show tk_f D H a0 6 9 (.int 5) from hf2) hG hS dX6_readTest_58
      · have hc171 : ¬ (400 ≤ v3.toInt) := fun h9 => c9 ((fi_le (show (400 : Int32).toInt = 400 by decide) rfl).mpr h9)
        refine lv_aload_n hx hb dX6_readTest_13 rfl (lv_at hl 1 rfl) ?_
        refine va_ldcS hx hb hown hK.2.2.2.2.2.2.2.2.2.2.2.2.2.2 dX6_readTest_14 ?_
        refine tk_Vi (As := [.ref (ld 10)]) (rest := []) (ci := 6) ⟨hx, hb, hml, hown, hts⟩ hK hG hZ hS (k_X6_isWord_10 l D cy ld t a0 ht_a0) trivial ⟨callB_of 1 hts (wl_in mw_626) rfl rfl rfl (htl _ mw_36) (htl _ mw_623) hd_yX6_isWord ⟨(Nat.le_of_ble_eq_true rfl), (Nat.le_of_ble_eq_true rfl)⟩, htl _ mw_624, htl _ mw_625⟩ ht_a0 (by decide) tk_no rfl (tk_w.pick [] rfl) rfl hl.1 rfl (Nat.le_of_ble_eq_true rfl) dX6_readTest_16 ⟨(Nat.le_of_ble_eq_true rfl), (Nat.le_of_ble_eq_true rfl)⟩ (fun v172 H locs hpo hG hS hq9 => ?_)
        have hf2 := hf2.call hq9 tk_w.nil
        obtain ⟨hpo174, hpo175, hpo176, hpo177⟩ := hpo
        refine lv_if_eq (tgt := 58) hx hb dX6_readTest_19 (by decide) (fun c9 => ?_) (fun c9 => ?_)
        · have hc178 : v172.toInt = 0 := (fi_eq rfl (show (0 : Int32).toInt = 0 by decide)).mp c9
          exact tk_vret hx hb hr hlocks (show tk_f D H a0 6 9 (.int 5) from hf2) hG hS dX6_readTest_58
        · have hc178 : ¬ (v172.toInt = 0) := fun h9 => c9 ((fi_eq rfl (show (0 : Int32).toInt = 0 by decide)).mpr h9)
          refine lv_aload_n hx hb dX6_readTest_22 rfl (lv_at hl 1 rfl) ?_
          refine tk_get (ci := 6) (C := RX6) (T := TX6) (N := 11) (sp := (6, 8, 512, 12)) hx hb htl inX6 hown hK hG ht_a0 (by decide) tk_no rfl 0 (by decide) (htl _ mw_132) (fun _ h9 => h9) rfl dX6_readTest_23 (fun v9 hf179 hV9 => ?_)
          obtain ⟨b180, rfl, ht_b180⟩ := hV9
          have ht_b180 : t b180 = (8, 512, 12) := ht_b180
          refine tk_get (ci := 7) (C := RX7) (T := TX7) (N := 10) (sp := (4, 0, 0, 0)) hx hb htl inX7 hown hK hG ht_b180 (by decide) tk_no rfl 6 (by decide) (htl _ mw_513) (fun _ h9 => h9) rfl dX6_readTest_26 (fun v9 hf181 hV9 => ?_)
          obtain ⟨v182, rfl, (ha_v182 : 0 ≤ v182.toInt), (hb_v182 : v182.toInt ≤ 512)⟩ := hV9
          refine lv_istore_n (lv' := [(2, .int v182), (1, .int v3), (0, .ref a0)]) hx hb dX6_readTest_29 rfl hl (by decide) rfl (fun ls hl => ?_)
          refine lv_aload_n hx hb dX6_readTest_30 rfl (lv_at hl 2 rfl) ?_
          refine tk_get (ci := 6) (C := RX6) (T := TX6) (N := 11) (sp := (6, 8, 512, 12)) hx hb htl inX6 hown hK hG ht_a0 (by decide) tk_no rfl 0 (by decide) (htl _ mw_132) (fun _ h9 => h9) rfl dX6_readTest_31 (fun v9 hf183 hV9 => ?_)
          obtain ⟨b184, rfl, ht_b184⟩ := hV9
          have ht_b184 : t b184 = (8, 512, 12) := ht_b184
          refine lv_iconst (v := 5) hx hb dX6_readTest_34 (by decide) ?_
          refine lv_iconst (v := 0) hx hb dX6_readTest_35 (by decide) ?_
          have hk_5 : (5 : Int32).toInt = 5 := by decide
          have hk_0 : (0 : Int32).toInt = 0 := by decide
          refine tk_Vv (As := [.int 5, .int 0]) (rest := []) (ci := 7) ⟨hx, hb, hml, hown, hts⟩ hK hG hZ hS (k_X7_put l D cy ld t b184 5 0 ht_b184) trivial ⟨callB_of 2 hts (wl_in mw_594) rfl rfl rfl (htl _ mw_131) (htl _ mw_591) hd_yX7_put ⟨(Nat.le_of_ble_eq_true rfl), (Nat.le_of_ble_eq_true rfl)⟩, htl _ mw_592, htl _ mw_593⟩ ht_b184 (by decide) tk_no rfl (tk_w.pick [1, 2] rfl) rfl hl.1 rfl (Nat.le_of_ble_eq_true rfl) dX6_readTest_36 ⟨(Nat.le_of_ble_eq_true rfl), (Nat.le_of_ble_eq_true rfl)⟩ (fun H locs hpo hG hS hq9 => ?_)
          have hf2 := hf2.call hq9 (tk_w.no ht_a0 (by decide))
          refine lv_aload_n hx hb dX6_readTest_39 rfl (lv_at hl 2 rfl) ?_
          have hk_5 : (5 : Int32).toInt = 5 := by decide
          refine tk_Vv (As := []) (rest := []) (ci := 6) ⟨hx, hb, hml, hown, hts⟩ hK hG hZ hS (k_X6_step l D cy ld t a0 5 ht_a0 (by omega) (by omega)) hf2 ⟨callB_of 0 hts (wl_in mw_494) rfl rfl rfl (htl _ mw_36) (htl _ mw_491) hd_yX6_step ⟨(Nat.le_of_ble_eq_true rfl), (Nat.le_of_ble_eq_true rfl)⟩, htl _ mw_492, htl _ mw_493⟩ ht_a0 (by decide) tk_no rfl (tk_w.pick [0] rfl) rfl hl.1 rfl (Nat.le_of_ble_eq_true rfl) dX6_readTest_40 ⟨(Nat.le_of_ble_eq_true rfl), (Nat.le_of_ble_eq_true rfl)⟩ (fun H locs hpo hG hS hq9 => ?_)
          have hf187 := hpo
          refine lv_aload_n hx hb dX6_readTest_43 rfl (lv_at hl 2 rfl) ?_
          refine tk_Vv (As := []) (rest := []) (ci := 6) ⟨hx, hb, hml, hown, hts⟩ hK hG hZ hS (k_X6_readBoth_5 l D cy ld t a0 ht_a0) hf187 ⟨callB_of 0 hts (wl_in mw_644) rfl rfl rfl (htl _ mw_36) (htl _ mw_636) hd_yX6_readBoth ⟨(Nat.le_of_ble_eq_true rfl), (Nat.le_of_ble_eq_true rfl)⟩, htl _ mw_637, htl _ mw_638⟩ ht_a0 (by decide) tk_no rfl (tk_w.pick [0, 1, 2] rfl) rfl hl.1 rfl (Nat.le_of_ble_eq_true rfl) dX6_readTest_44 ⟨(Nat.le_of_ble_eq_true rfl), (Nat.le_of_ble_eq_true rfl)⟩ (fun H locs hpo hG hS hq9 => ?_)
          have hf189 := hpo
          refine lv_aload_n hx hb dX6_readTest_47 rfl (lv_at hl 2 rfl) ?_
          refine lv_iload_n hx hb dX6_readTest_48 rfl (lv_at hl 0 rfl) ?_
          refine tk_Vv (As := [.int v182]) (rest := []) (ci := 6) ⟨hx, hb, hml, hown, hts⟩ hK hG hZ hS (k_X6_landHere l D cy ld t a0 v182 ht_a0 (by omega) (by omega)) trivial ⟨callB_of 1 hts (wl_in mw_642) rfl rfl rfl (htl _ mw_36) (htl _ mw_639) hd_yX6_landHere ⟨(Nat.le_of_ble_eq_true rfl), (Nat.le_of_ble_eq_true rfl)⟩, htl _ mw_640, htl _ mw_641⟩ ht_a0 (by decide) tk_no rfl (tk_w.pick [1] rfl) rfl hl.1 rfl (Nat.le_of_ble_eq_true rfl) dX6_readTest_49 ⟨(Nat.le_of_ble_eq_true rfl), (Nat.le_of_ble_eq_true rfl)⟩ (fun H locs hpo hG hS hq9 => ?_)
          have hf189 := hf189.call hq9 (tk_w.no ht_a0 (by decide))
          obtain ⟨v191, h_v191, e_v191⟩ := tk_inc v3 1 (by decide) (by omega) (by omega)
          refine lv_iinc (v := v191) (lv' := [(1, .int v191), (2, .int v182), (0, .ref a0)]) hx hb dX6_readTest_52 hl (k := 1) rfl e_v191 (by decide) rfl (fun ls hl => ?_)
          refine lv_goto (tgt := 6) hx hb dX6_readTest_55 (by decide) ?_
          exact ih_l170 v191 _ _ (by omega) (by omega) (by omega) hG hS hf189 _ (lv_sub hl [0, 2] rfl)
  have hk_0 : (0 : Int32).toInt = 0 := by decide
  exact hl170 401 0 _ _ (by omega) (by omega) (by omega) hG hS hf2 _ (lv_sub hl [0, 1] rfl)
set_option maxHeartbeats 4000000 in
set_option maxRecDepth 100000 in
theorem k_X6_readPlain_4 (l : Launch) (D : va_G) (cy : Nat → ClassId) (ld : Nat → Nat) (t : tk_T) (a0 : Nat) (ht_a0 : t a0 = (7, 0, 0)) : Met l yX6_readPlain (wl yX6_readPlain cX6_readPlain 3 none) ({ frames := 24, cells := 0, slots := 0, locals := 1610 }) (tp D cy ld t [] [.ref a0] (fun H => tk_f D H a0 6 9 (.int 4))) (tv D cy ld t [] (fun H => tk_f D H a0 6 9 (.int 4)) (tk_w t [(7, 0, 0), (20, 0, 0), (8, 12, 12)])) 0 0 (tk_w t [(7, 0, 0), (20, 0, 0), (8, 12, 12)]) := by
  refine tk_met (y := yX6_readPlain) (cc := cX6_readPlain) (maxL := 3) (ret := none) (av := [.ref a0]) _ _ (by decide) (Nat.le_of_ble_eq_true rfl) ?_
  intro p e s m args below meth c hx hb hr hml hts htl hown hlocks hK H locs hH hG hS hB hZ ls hl
  have hown : s.vm.findClass RX6 = some m.cls := hown
  have hl : lv_has ls 3 [(0, .ref a0)] := hl
  have hg_0 := hB
  refine lv_iconst (v := 0) hx hb dX6_readPlain_0 (by decide) ?_
  refine lv_istore_n (lv' := [(1, .int 0), (0, .ref a0)]) hx hb dX6_readPlain_1 rfl hl (by decide) rfl (fun ls hl => ?_)
  refine lv_iconst (v := 0) hx hb dX6_readPlain_2 (by decide) ?_
  refine lv_istore_n (lv' := [(2, .int 0), (1, .int 0), (0, .ref a0)]) hx hb dX6_readPlain_3 rfl hl (by decide) rfl (fun ls hl => ?_)
  have hl975 : ∀ (N_l975 : Nat) (v1 : Int32) (v2 : Int32) (H : Heap) (locs : List Loc), 0 ≤ v2.toInt → v2.toInt ≤ 1 → 0 ≤ v1.toInt + (-1) * v2.toInt → v1.toInt ≤ 400 → (-1) * v1.toInt + 400 < (N_l975 : Int) → tk_G D cy ld t [] H → va_S (tk_w t [(7, 0, 0), (20, 0, 0), (8, 12, 12)]) s.heap H locs → tk_f D H a0 6 9 (.int 4) → ∀ ls : Array Slot, lv_has ls 3 [(2, .int v1), (1, .int v2), (0, .ref a0)] → W p l e ({ frames := 24, cells := 0, slots := 0, locals := 1610 }) s m args below meth c H locs 0 0 (MQ below (tv D cy ld t [] (fun H => tk_f D H a0 6 9 (.int 4)) (tk_w t [(7, 0, 0), (20, 0, 0), (8, 12, 12)])) args s 0 0 (tk_w t [(7, 0, 0), (20, 0, 0), (8, 12, 12)])) (F0 m 4 ls []) := by
    intro N_l975
    induction N_l975 with
    | zero => intro v1 v2 H locs hq0_l975 hq1_l975 hq2_l975 hq3_l975 hm_l975 hG hS hg_0 ls hl; exfalso; omega
    | succ N_l975 ih_l975 =>
      intro v1 v2 H locs hq0_l975 hq1_l975 hq2_l975 hq3_l975 hm_l975 hG hS hg_0 ls hl
      refine lv_iload_n hx hb dX6_readPlain_4 rfl (lv_at hl 0 rfl) ?_
      refine lv_sipush (v := 400) hx hb dX6_readPlain_5 (by decide) ?_
      have hj993 : ∀ (H : Heap) (locs : List Loc), tk_G D cy ld t [] H → va_S (tk_w t [(7, 0, 0), (20, 0, 0), (8, 12, 12)]) s.heap H locs → tk_f D H a0 6 9 (.int 4) → ∀ ls : Array Slot, lv_has ls 3 [(1, .int v2), (0, .ref a0)] → W p l e ({ frames := 24, cells := 0, slots := 0, locals := 1610 }) s m args below meth c H locs 0 0 (MQ below (tv D cy ld t [] (fun H => tk_f D H a0 6 9 (.int 4)) (tk_w t [(7, 0, 0), (20, 0, 0), (8, 12, 12)])) args s 0 0 (tk_w t [(7, 0, 0), (20, 0, 0), (8, 12, 12)])) (F0 m 40 ls []) := by
        intro H locs hG hS hg_0 ls hl
        refine lv_aload_n hx hb dX6_readPlain_40 rfl (lv_at hl 1 rfl) ?_
        refine lv_bipush (v := 40) hx hb dX6_readPlain_41 (by decide) ?_
        have hk_40 : (40 : Int32).toInt = 40 := by decide
        refine tk_Vi (As := [.int 40]) (rest := []) (ci := 6) ⟨hx, hb, hml, hown, hts⟩ hK hG hZ hS (k_X6_isSign l D cy ld t a0 40 ht_a0) trivial ⟨callB_of 1 hts (wl_in mw_590) rfl rfl rfl (htl _ mw_36) (htl _ mw_587) hd_yX6_isSign ⟨(Nat.le_of_ble_eq_true rfl), (Nat.le_of_ble_eq_true rfl)⟩, htl _ mw_588, htl _ mw_589⟩ ht_a0 (by decide) tk_no rfl (tk_w.pick [] rfl) rfl hl.1 rfl (Nat.le_of_ble_eq_true rfl) dX6_readPlain_43 ⟨(Nat.le_of_ble_eq_true rfl), (Nat.le_of_ble_eq_true rfl)⟩ (fun v994 H locs hpo hG hS hq9 => ?_)
        have hg_0 := hg_0.call hq9 tk_w.nil
        obtain ⟨hpo996, hpo997, hpo998, hpo999⟩ := hpo
        refine lv_if_eq (tgt := 79) hx hb dX6_readPlain_46 (by decide) (fun c9 => ?_) (fun c9 => ?_)
        · have hc1000 : v994.toInt = 0 := (fi_eq rfl (show (0 : Int32).toInt = 0 by decide)).mp c9
          refine lv_aload_n hx hb dX6_readPlain_79 rfl (lv_at hl 1 rfl) ?_
          refine tk_Vv (As := []) (rest := []) (ci := 6) ⟨hx, hb, hml, hown, hts⟩ hK hG hZ hS (k_X6_readSum_4 l D cy ld t a0 ht_a0) hg_0 ⟨callB_of 0 hts (wl_in mw_583) rfl rfl rfl (htl _ mw_36) (htl _ mw_580) hd_yX6_readSum ⟨(Nat.le_of_ble_eq_true rfl), (Nat.le_of_ble_eq_true rfl)⟩, htl _ mw_581, htl _ mw_582⟩ ht_a0 (by decide) tk_no rfl (tk_w.pick [0, 1, 2] rfl) rfl hl.1 rfl (Nat.le_of_ble_eq_true rfl) dX6_readPlain_80 ⟨(Nat.le_of_ble_eq_true rfl), (Nat.le_of_ble_eq_true rfl)⟩ (fun H locs hpo hG hS hq9 => ?_)
          have hf1002 := hpo
          refine lv_aload_n hx hb dX6_readPlain_83 rfl (lv_at hl 1 rfl) ?_
          refine lv_bipush (v := 60) hx hb dX6_readPlain_84 (by decide) ?_
          have hk_60 : (60 : Int32).toInt = 60 := by decide
          refine tk_Vi (As := [.int 60]) (rest := []) (ci := 6) ⟨hx, hb, hml, hown, hts⟩ hK hG hZ hS (k_X6_isSign l D cy ld t a0 60 ht_a0) trivial ⟨callB_of 1 hts (wl_in mw_590) rfl rfl rfl (htl _ mw_36) (htl _ mw_587) hd_yX6_isSign ⟨(Nat.le_of_ble_eq_true rfl), (Nat.le_of_ble_eq_true rfl)⟩, htl _ mw_588, htl _ mw_589⟩ ht_a0 (by decide) tk_no rfl (tk_w.pick [] rfl) rfl hl.1 rfl (Nat.le_of_ble_eq_true rfl) dX6_readPlain_86 ⟨(Nat.le_of_ble_eq_true rfl), (Nat.le_of_ble_eq_true rfl)⟩ (fun v1003 H locs hpo hG hS hq9 => ?_)
          have hf1002 := hf1002.call hq9 tk_w.nil
          obtain ⟨hpo1005, hpo1006, hpo1007, hpo1008⟩ := hpo
          have hj1021 : ∀ (v1019 : Int32) (H : Heap) (locs : List Loc), 11 ≤ v1019.toInt → v1019.toInt ≤ 13 → tk_G D cy ld t [] H → va_S (tk_w t [(7, 0, 0), (20, 0, 0), (8, 12, 12)]) s.heap H locs → tk_f D H a0 6 9 (.int 4) → ∀ ls : Array Slot, lv_has ls 3 [(1, .int v2), (0, .ref a0)] → W p l e ({ frames := 24, cells := 0, slots := 0, locals := 1610 }) s m args below meth c H locs 0 0 (MQ below (tv D cy ld t [] (fun H => tk_f D H a0 6 9 (.int 4)) (tk_w t [(7, 0, 0), (20, 0, 0), (8, 12, 12)])) args s 0 0 (tk_w t [(7, 0, 0), (20, 0, 0), (8, 12, 12)])) (F0 m 113 ls [.int v1019]) := by
            intro v1019 H locs hq0_j1021 hq1_j1021 hG hS hf1002 ls hl
            refine lv_istore_n (lv' := [(2, .int v1019), (1, .int v2), (0, .ref a0)]) hx hb dX6_readPlain_113 rfl hl (by decide) rfl (fun ls hl => ?_)
            refine lv_iload_n hx hb dX6_readPlain_114 rfl (lv_at hl 0 rfl) ?_
            refine lv_bipush (v := 13) hx hb dX6_readPlain_115 (by decide) ?_
            refine lv_icmp_ne (tgt := 134) hx hb dX6_readPlain_117 (by decide) (fun c9 => ?_) (fun c9 => ?_)
            · have hc1022 : ¬ (v1019.toInt = 13) := fun h9 => c9 ((fi_eq rfl (show (13 : Int32).toInt = 13 by decide)).mpr h9)
              refine lv_aload_n hx hb dX6_readPlain_134 rfl (lv_at hl 2 rfl) ?_
              have hk_4 : (4 : Int32).toInt = 4 := by decide
              refine tk_Vv (As := []) (rest := []) (ci := 6) ⟨hx, hb, hml, hown, hts⟩ hK hG hZ hS (k_X6_step l D cy ld t a0 4 ht_a0 (by omega) (by omega)) hf1002 ⟨callB_of 0 hts (wl_in mw_494) rfl rfl rfl (htl _ mw_36) (htl _ mw_491) hd_yX6_step ⟨(Nat.le_of_ble_eq_true rfl), (Nat.le_of_ble_eq_true rfl)⟩, htl _ mw_492, htl _ mw_493⟩ ht_a0 (by decide) tk_no rfl (tk_w.pick [0] rfl) rfl hl.1 rfl (Nat.le_of_ble_eq_true rfl) dX6_readPlain_135 ⟨(Nat.le_of_ble_eq_true rfl), (Nat.le_of_ble_eq_true rfl)⟩ (fun H locs hpo hG hS hq9 => ?_)
              have hf1024 := hpo
              refine lv_aload_n hx hb dX6_readPlain_138 rfl (lv_at hl 2 rfl) ?_
              refine tk_Vv (As := []) (rest := []) (ci := 6) ⟨hx, hb, hml, hown, hts⟩ hK hG hZ hS (k_X6_readSum_4 l D cy ld t a0 ht_a0) hf1024 ⟨callB_of 0 hts (wl_in mw_583) rfl rfl rfl (htl _ mw_36) (htl _ mw_580) hd_yX6_readSum ⟨(Nat.le_of_ble_eq_true rfl), (Nat.le_of_ble_eq_true rfl)⟩, htl _ mw_581, htl _ mw_582⟩ ht_a0 (by decide) tk_no rfl (tk_w.pick [0, 1, 2] rfl) rfl hl.1 rfl (Nat.le_of_ble_eq_true rfl) dX6_readPlain_139 ⟨(Nat.le_of_ble_eq_true rfl), (Nat.le_of_ble_eq_true rfl)⟩ (fun H locs hpo hG hS hq9 => ?_)
              have hf1026 := hpo
              refine lv_aload_n hx hb dX6_readPlain_142 rfl (lv_at hl 2 rfl) ?_
              refine tk_get (ci := 6) (C := RX6) (T := TX6) (N := 11) (sp := (6, 8, 512, 12)) hx hb htl inX6 hown hK hG ht_a0 (by decide) tk_no rfl 0 (by decide) (htl _ mw_132) (fun _ h9 => h9) rfl dX6_readPlain_143 (fun v9 hf1027 hV9 => ?_)
              obtain ⟨b1028, rfl, ht_b1028⟩ := hV9
              have ht_b1028 : t b1028 = (8, 512, 12) := ht_b1028
              refine lv_iload_n hx hb dX6_readPlain_146 rfl (lv_at hl 0 rfl) ?_
              refine lv_iconst (v := 0) hx hb dX6_readPlain_147 (by decide) ?_
              have hk_0 : (0 : Int32).toInt = 0 := by decide
              refine tk_Vv (As := [.int v1019, .int 0]) (rest := []) (ci := 7) ⟨hx, hb, hml, hown, hts⟩ hK hG hZ hS (k_X7_put l D cy ld t b1028 v1019 0 ht_b1028) trivial ⟨callB_of 2 hts (wl_in mw_594) rfl rfl rfl (htl _ mw_131) (htl _ mw_591) hd_yX7_put ⟨(Nat.le_of_ble_eq_true rfl), (Nat.le_of_ble_eq_true rfl)⟩, htl _ mw_592, htl _ mw_593⟩ ht_b1028 (by decide) tk_no rfl (tk_w.pick [1, 2] rfl) rfl hl.1 rfl (Nat.le_of_ble_eq_true rfl) dX6_readPlain_148 ⟨(Nat.le_of_ble_eq_true rfl), (Nat.le_of_ble_eq_true rfl)⟩ (fun H locs hpo hG hS hq9 => ?_)
              have hf1026 := hf1026.call hq9 (tk_w.no ht_a0 (by decide))
              refine lv_iload_n hx hb dX6_readPlain_151 rfl (lv_at hl 1 rfl) ?_
              refine lv_if_eq (tgt := 164) hx hb dX6_readPlain_152 (by decide) (fun c9 => ?_) (fun c9 => ?_)
              · have hc1030 : v2.toInt = 0 := (fi_eq rfl (show (0 : Int32).toInt = 0 by decide)).mp c9
                exact tk_vret hx hb hr hlocks (show tk_f D H a0 6 9 (.int 4) from hf1026) hG hS dX6_readPlain_164
              · have hc1030 : ¬ (v2.toInt = 0) := fun h9 => c9 ((fi_eq rfl (show (0 : Int32).toInt = 0 by decide)).mpr h9)
                refine lv_aload_n hx hb dX6_readPlain_155 rfl (lv_at hl 2 rfl) ?_
                refine tk_get (ci := 6) (C := RX6) (T := TX6) (N := 11) (sp := (6, 8, 512, 12)) hx hb htl inX6 hown hK hG ht_a0 (by decide) tk_no rfl 0 (by decide) (htl _ mw_132) (fun _ h9 => h9) rfl dX6_readPlain_156 (fun v9 hf1031 hV9 => ?_)
                obtain ⟨b1032, rfl, ht_b1032⟩ := hV9
                have ht_b1032 : t b1032 = (8, 512, 12) := ht_b1032
                refine lv_iconst (v := 3) hx hb dX6_readPlain_159 (by decide) ?_
                refine lv_iconst (v := 0) hx hb dX6_readPlain_160 (by decide) ?_
                have hk_3 : (3 : Int32).toInt = 3 := by decide
                have hk_0 : (0 : Int32).toInt = 0 := by decide
                refine tk_Vv (As := [.int 3, .int 0]) (rest := []) (ci := 7) ⟨hx, hb, hml, hown, hts⟩ hK hG hZ hS (k_X7_put l D cy ld t b1032 3 0 ht_b1032) trivial ⟨callB_of 2 hts (wl_in mw_594) rfl rfl rfl (htl _ mw_131) (htl _ mw_591) hd_yX7_put ⟨(Nat.le_of_ble_eq_true rfl), (Nat.le_of_ble_eq_true rfl)⟩, htl _ mw_592, htl _ mw_593⟩ ht_b1032 (by decide) tk_no rfl (tk_w.pick [1, 2] rfl) rfl hl.1 rfl (Nat.le_of_ble_eq_true rfl) dX6_readPlain_161 ⟨(Nat.le_of_ble_eq_true rfl), (Nat.le_of_ble_eq_true rfl)⟩ (fun H locs hpo hG hS hq9 => ?_)
                have hf1026 := hf1026.call hq9 (tk_w.no ht_a0 (by decide))
                exact tk_vret hx hb hr hlocks (show tk_f D H a0 6 9 (.int 4) from hf1026) hG hS dX6_readPlain_164
            · have hc1022 : v1019.toInt = 13 := (fi_eq rfl (show (13 : Int32).toInt = 13 by decide)).mp c9
              refine lv_aload_n hx hb dX6_readPlain_120 rfl (lv_at hl 2 rfl) ?_
              refine lv_bipush (v := 61) hx hb dX6_readPlain_121 (by decide) ?_
              have hk_61 : (61 : Int32).toInt = 61 := by decide
              refine tk_Vi (As := [.int 61]) (rest := []) (ci := 6) ⟨hx, hb, hml, hown, hts⟩ hK hG hZ hS (k_X6_isSign l D cy ld t a0 61 ht_a0) trivial ⟨callB_of 1 hts (wl_in mw_590) rfl rfl rfl (htl _ mw_36) (htl _ mw_587) hd_yX6_isSign ⟨(Nat.le_of_ble_eq_true rfl), (Nat.le_of_ble_eq_true rfl)⟩, htl _ mw_588, htl _ mw_589⟩ ht_a0 (by decide) tk_no rfl (tk_w.pick [] rfl) rfl hl.1 rfl (Nat.le_of_ble_eq_true rfl) dX6_readPlain_123 ⟨(Nat.le_of_ble_eq_true rfl), (Nat.le_of_ble_eq_true rfl)⟩ (fun v1034 H locs hpo hG hS hq9 => ?_)
              have hf1002 := hf1002.call hq9 tk_w.nil
              obtain ⟨hpo1036, hpo1037, hpo1038, hpo1039⟩ := hpo
              refine lv_if_ne (tgt := 134) hx hb dX6_readPlain_126 (by decide) (fun c9 => ?_) (fun c9 => ?_)
              · have hc1040 : ¬ (v1034.toInt = 0) := fun h9 => c9 ((fi_eq rfl (show (0 : Int32).toInt = 0 by decide)).mpr h9)
                refine lv_aload_n hx hb dX6_readPlain_134 rfl (lv_at hl 2 rfl) ?_
                have hk_4 : (4 : Int32).toInt = 4 := by decide
                refine tk_Vv (As := []) (rest := []) (ci := 6) ⟨hx, hb, hml, hown, hts⟩ hK hG hZ hS (k_X6_step l D cy ld t a0 4 ht_a0 (by omega) (by omega)) hf1002 ⟨callB_of 0 hts (wl_in mw_494) rfl rfl rfl (htl _ mw_36) (htl _ mw_491) hd_yX6_step ⟨(Nat.le_of_ble_eq_true rfl), (Nat.le_of_ble_eq_true rfl)⟩, htl _ mw_492, htl _ mw_493⟩ ht_a0 (by decide) tk_no rfl (tk_w.pick [0] rfl) rfl hl.1 rfl (Nat.le_of_ble_eq_true rfl) dX6_readPlain_135 ⟨(Nat.le_of_ble_eq_true rfl), (Nat.le_of_ble_eq_true rfl)⟩ (fun H locs hpo hG hS hq9 => ?_)
                have hf1042 := hpo
                refine lv_aload_n hx hb dX6_readPlain_138 rfl (lv_at hl 2 rfl) ?_
                refine tk_Vv (As := []) (rest := []) (ci := 6) ⟨hx, hb, hml, hown, hts⟩ hK hG hZ hS (k_X6_readSum_4 l D cy ld t a0 ht_a0) hf1042 ⟨callB_of 0 hts (wl_in mw_583) rfl rfl rfl (htl _ mw_36) (htl _ mw_580) hd_yX6_readSum ⟨(Nat.le_of_ble_eq_true rfl), (Nat.le_of_ble_eq_true rfl)⟩, htl _ mw_581, htl _ mw_582⟩ ht_a0 (by decide) tk_no rfl (tk_w.pick [0, 1, 2] rfl) rfl hl.1 rfl (Nat.le_of_ble_eq_true rfl) dX6_readPlain_139 ⟨(Nat.le_of_ble_eq_true rfl), (Nat.le_of_ble_eq_true rfl)⟩ (fun H locs hpo hG hS hq9 => ?_)
                have hf1044 := hpo
                refine lv_aload_n hx hb dX6_readPlain_142 rfl (lv_at hl 2 rfl) ?_
                refine tk_get (ci := 6) (C := RX6) (T := TX6) (N := 11) (sp := (6, 8, 512, 12)) hx hb htl inX6 hown hK hG ht_a0 (by decide) tk_no rfl 0 (by decide) (htl _ mw_132) (fun _ h9 => h9) rfl dX6_readPlain_143 (fun v9 hf1045 hV9 => ?_)
                obtain ⟨b1046, rfl, ht_b1046⟩ := hV9
                have ht_b1046 : t b1046 = (8, 512, 12) := ht_b1046
                refine lv_iload_n hx hb dX6_readPlain_146 rfl (lv_at hl 0 rfl) ?_
                refine lv_iconst (v := 0) hx hb dX6_readPlain_147 (by decide) ?_
                have hk_0 : (0 : Int32).toInt = 0 := by decide
                refine tk_Vv (As := [.int v1019, .int 0]) (rest := []) (ci := 7) ⟨hx, hb, hml, hown, hts⟩ hK hG hZ hS (k_X7_put l D cy ld t b1046 v1019 0 ht_b1046) trivial ⟨callB_of 2 hts (wl_in mw_594) rfl rfl rfl (htl _ mw_131) (htl _ mw_591) hd_yX7_put ⟨(Nat.le_of_ble_eq_true rfl), (Nat.le_of_ble_eq_true rfl)⟩, htl _ mw_592, htl _ mw_593⟩ ht_b1046 (by decide) tk_no rfl (tk_w.pick [1, 2] rfl) rfl hl.1 rfl (Nat.le_of_ble_eq_true rfl) dX6_readPlain_148 ⟨(Nat.le_of_ble_eq_true rfl), (Nat.le_of_ble_eq_true rfl)⟩ (fun H locs hpo hG hS hq9 => ?_)
                have hf1044 := hf1044.call hq9 (tk_w.no ht_a0 (by decide))
                refine lv_iload_n hx hb dX6_readPlain_151 rfl (lv_at hl 1 rfl) ?_
                refine lv_if_eq (tgt := 164) hx hb dX6_readPlain_152 (by decide) (fun c9 => ?_) (fun c9 => ?_)
                · have hc1048 : v2.toInt = 0 := (fi_eq rfl (show (0 : Int32).toInt = 0 by decide)).mp c9
                  exact tk_vret hx hb hr hlocks (show tk_f D H a0 6 9 (.int 4) from hf1044) hG hS dX6_readPlain_164
                · have hc1048 : ¬ (v2.toInt = 0) := fun h9 => c9 ((fi_eq rfl (show (0 : Int32).toInt = 0 by decide)).mpr h9)
                  refine lv_aload_n hx hb dX6_readPlain_155 rfl (lv_at hl 2 rfl) ?_
                  refine tk_get (ci := 6) (C := RX6) (T := TX6) (N := 11) (sp := (6, 8, 512, 12)) hx hb htl inX6 hown hK hG ht_a0 (by decide) tk_no rfl 0 (by decide) (htl _ mw_132) (fun _ h9 => h9) rfl dX6_readPlain_156 (fun v9 hf1049 hV9 => ?_)
                  obtain ⟨b1050, rfl, ht_b1050⟩ := hV9
                  have ht_b1050 : t b1050 = (8, 512, 12) := ht_b1050
                  refine lv_iconst (v := 3) hx hb dX6_readPlain_159 (by decide) ?_
                  refine lv_iconst (v := 0) hx hb dX6_readPlain_160 (by decide) ?_
                  have hk_3 : (3 : Int32).toInt = 3 := by decide
                  have hk_0 : (0 : Int32).toInt = 0 := by decide
                  refine tk_Vv (As := [.int 3, .int 0]) (rest := []) (ci := 7) ⟨hx, hb, hml, hown, hts⟩ hK hG hZ hS (k_X7_put l D cy ld t b1050 3 0 ht_b1050) trivial ⟨callB_of 2 hts (wl_in mw_594) rfl rfl rfl (htl _ mw_131) (htl _ mw_591) hd_yX7_put ⟨(Nat.le_of_ble_eq_true rfl), (Nat.le_of_ble_eq_true rfl)⟩, htl _ mw_592, htl _ mw_593⟩ ht_b1050 (by decide) tk_no rfl (tk_w.pick [1, 2] rfl) rfl hl.1 rfl (Nat.le_of_ble_eq_true rfl) dX6_readPlain_161 ⟨(Nat.le_of_ble_eq_true rfl), (Nat.le_of_ble_eq_true rfl)⟩ (fun H locs hpo hG hS hq9 => ?_)
                  have hf1044 := hf1044.call hq9 (tk_w.no ht_a0 (by decide))
                  exact tk_vret hx hb hr hlocks (show tk_f D H a0 6 9 (.int 4) from hf1044) hG hS dX6_readPlain_164
              · have hc1040 : v1034.toInt = 0 := (fi_eq rfl (show (0 : Int32).toInt = 0 by decide)).mp c9
                refine lv_aload_n hx hb dX6_readPlain_129 rfl (lv_at hl 2 rfl) ?_
                have hk_4 : (4 : Int32).toInt = 4 := by decide
                refine tk_Vv (As := []) (rest := []) (ci := 6) ⟨hx, hb, hml, hown, hts⟩ hK hG hZ hS (k_X6_fail l D cy ld t a0 4 ht_a0 (by omega) (by omega)) hf1002 ⟨callB_of 0 hts (wl_in mw_507) rfl rfl rfl (htl _ mw_36) (htl _ mw_504) hd_yX6_fail ⟨(Nat.le_of_ble_eq_true rfl), (Nat.le_of_ble_eq_true rfl)⟩, htl _ mw_505, htl _ mw_506⟩ ht_a0 (by decide) tk_no rfl (tk_w.pick [0] rfl) rfl hl.1 rfl (Nat.le_of_ble_eq_true rfl) dX6_readPlain_130 ⟨(Nat.le_of_ble_eq_true rfl), (Nat.le_of_ble_eq_true rfl)⟩ (fun H locs hpo hG hS hq9 => ?_)
                have hf1053 := hpo
                exact tk_vret hx hb hr hlocks (show tk_f D H a0 6 9 (.int 4) from hf1053) hG hS dX6_readPlain_133
          refine lv_if_eq (tgt := 97) hx hb dX6_readPlain_89 (by decide) (fun c9 => ?_) (fun c9 => ?_)
          · have hc1009 : v1003.toInt = 0 := (fi_eq rfl (show (0 : Int32).toInt = 0 by decide)).mp c9
            refine lv_aload_n hx hb dX6_readPlain_97 rfl (lv_at hl 1 rfl) ?_
            refine lv_bipush (v := 62) hx hb dX6_readPlain_98 (by decide) ?_
            have hk_62 : (62 : Int32).toInt = 62 := by decide
            refine tk_Vi (As := [.int 62]) (rest := []) (ci := 6) ⟨hx, hb, hml, hown, hts⟩ hK hG hZ hS (k_X6_isSign l D cy ld t a0 62 ht_a0) trivial ⟨callB_of 1 hts (wl_in mw_590) rfl rfl rfl (htl _ mw_36) (htl _ mw_587) hd_yX6_isSign ⟨(Nat.le_of_ble_eq_true rfl), (Nat.le_of_ble_eq_true rfl)⟩, htl _ mw_588, htl _ mw_589⟩ ht_a0 (by decide) tk_no rfl (tk_w.pick [] rfl) rfl hl.1 rfl (Nat.le_of_ble_eq_true rfl) dX6_readPlain_100 ⟨(Nat.le_of_ble_eq_true rfl), (Nat.le_of_ble_eq_true rfl)⟩ (fun v1054 H locs hpo hG hS hq9 => ?_)
            have hf1002 := hf1002.call hq9 tk_w.nil
            obtain ⟨hpo1056, hpo1057, hpo1058, hpo1059⟩ := hpo
            refine lv_if_eq (tgt := 111) hx hb dX6_readPlain_103 (by decide) (fun c9 => ?_) (fun c9 => ?_)
            · have hc1060 : v1054.toInt = 0 := (fi_eq rfl (show (0 : Int32).toInt = 0 by decide)).mp c9
              refine lv_bipush (v := 13) hx hb dX6_readPlain_111 (by decide) ?_
              have hk_13 : (13 : Int32).toInt = 13 := by decide
              exact hj1021 13 _ _ (by omega) (by omega) hG hS hf1002 _ (lv_sub hl [0, 1] rfl)
            · have hc1060 : ¬ (v1054.toInt = 0) := fun h9 => c9 ((fi_eq rfl (show (0 : Int32).toInt = 0 by decide)).mpr h9)
              refine lv_bipush (v := 12) hx hb dX6_readPlain_106 (by decide) ?_
              refine lv_goto (tgt := 113) hx hb dX6_readPlain_108 (by decide) ?_
              have hk_12 : (12 : Int32).toInt = 12 := by decide
              exact hj1021 12 _ _ (by omega) (by omega) hG hS hf1002 _ (lv_sub hl [0, 1] rfl)
          · have hc1009 : ¬ (v1003.toInt = 0) := fun h9 => c9 ((fi_eq rfl (show (0 : Int32).toInt = 0 by decide)).mpr h9)
            refine lv_bipush (v := 11) hx hb dX6_readPlain_92 (by decide) ?_
            refine lv_goto (tgt := 113) hx hb dX6_readPlain_94 (by decide) ?_
            have hk_11 : (11 : Int32).toInt = 11 := by decide
            exact hj1021 11 _ _ (by omega) (by omega) hG hS hf1002 _ (lv_sub hl [0, 1] rfl)
        · have hc1000 : ¬ (v994.toInt = 0) := fun h9 => c9 ((fi_eq rfl (show (0 : Int32).toInt = 0 by decide)).mpr h9)
          refine lv_aload_n hx hb dX6_readPlain_49 rfl (lv_at hl 1 rfl) ?_
          refine tk_Vi (As := []) (rest := []) (ci := 6) ⟨hx, hb, hml, hown, hts⟩ hK hG hZ hS (k_X6_goDeeper_4 l D cy ld t a0 ht_a0) hg_0 ⟨callB_of 0 hts (wl_in mw_599) rfl rfl rfl (htl _ mw_36) (htl _ mw_596) hd_yX6_goDeeper ⟨(Nat.le_of_ble_eq_true rfl), (Nat.le_of_ble_eq_true rfl)⟩, htl _ mw_597, htl _ mw_598⟩ ht_a0 (by decide) tk_no rfl (tk_w.pick [0] rfl) rfl hl.1 rfl (Nat.le_of_ble_eq_true rfl) dX6_readPlain_50 ⟨(Nat.le_of_ble_eq_true rfl), (Nat.le_of_ble_eq_true rfl)⟩ (fun v1061 H locs hpo hG hS hq9 => ?_)
          obtain ⟨hpo1063, hpo1064, hpo1065, hf1066⟩ := hpo
          obtain rfl : v1061 = 1 := (fi_eq (show v1061.toInt = 1 by omega) (by decide)).mpr rfl
          refine lv_if_eq (tgt := 151) hx hb dX6_readPlain_53 (by decide) (fun c9 => absurd c9 (by decide)) (fun _ => ?_)
          refine lv_aload_n hx hb dX6_readPlain_56 rfl (lv_at hl 1 rfl) ?_
          refine tk_Vv (As := []) (rest := []) (ci := 6) ⟨hx, hb, hml, hown, hts⟩ hK hG hZ hS (k_X6_readTest_5 l D cy ld t a0 ht_a0) hf1066 ⟨callB_of 0 hts (wl_in mw_635) rfl rfl rfl (htl _ mw_36) (htl _ mw_632) hd_yX6_readTest ⟨(Nat.le_of_ble_eq_true rfl), (Nat.le_of_ble_eq_true rfl)⟩, htl _ mw_633, htl _ mw_634⟩ ht_a0 (by decide) tk_no rfl (tk_w.pick [0, 1, 2] rfl) rfl hl.1 rfl (Nat.le_of_ble_eq_true rfl) dX6_readPlain_57 ⟨(Nat.le_of_ble_eq_true rfl), (Nat.le_of_ble_eq_true rfl)⟩ (fun H locs hpo hG hS hq9 => ?_)
          have hf1068 := hpo
          refine lv_aload_n hx hb dX6_readPlain_60 rfl (lv_at hl 1 rfl) ?_
          refine lv_bipush (v := 41) hx hb dX6_readPlain_61 (by decide) ?_
          have hk_41 : (41 : Int32).toInt = 41 := by decide
          have hk_5 : (5 : Int32).toInt = 5 := by decide
          refine tk_Vv (As := [.int 41]) (rest := []) (ci := 6) ⟨hx, hb, hml, hown, hts⟩ hK hG hZ hS (k_X6_take l D cy ld t a0 41 5 ht_a0 (by omega) (by omega)) hf1068 ⟨callB_of 1 hts (wl_in mw_603) rfl rfl rfl (htl _ mw_36) (htl _ mw_600) hd_yX6_take ⟨(Nat.le_of_ble_eq_true rfl), (Nat.le_of_ble_eq_true rfl)⟩, htl _ mw_601, htl _ mw_602⟩ ht_a0 (by decide) tk_no rfl (tk_w.pick [0] rfl) rfl hl.1 rfl (Nat.le_of_ble_eq_true rfl) dX6_readPlain_63 ⟨(Nat.le_of_ble_eq_true rfl), (Nat.le_of_ble_eq_true rfl)⟩ (fun H locs hpo hG hS hq9 => ?_)
          have hf1070 := hpo
          refine lv_aload_n hx hb dX6_readPlain_66 rfl (lv_at hl 1 rfl) ?_
          refine lv_dup hx hb dX6_readPlain_67 rfl ?_
          refine tk_getk (ci := 6) (C := RX6) (T := TX6) (N := 11) (sp := (0, 0, 8, 0)) hx hb htl inX6 hown hK hG ht_a0 (by decide) tk_no rfl 9 (by decide) (htl _ mw_480) (fun _ h9 => h9) rfl hf1070 dX6_readPlain_68 ?_
          refine lv_iconst (v := 1) hx hb dX6_readPlain_71 (by decide) ?_
          refine lv_isub hx hb dX6_readPlain_72 ?_
          refine fx_ti (v := 4) (by decide) ?_
          refine tk_put (ci := 6) (v := .int 4) (ty := .int) (C := RX6) (T := TX6) (N := 11) (sp := (0, 0, 8, 0)) hx hb htl inX6 tyX6 tyX6_ok nmX6 hown hK hG hS ht_a0 (by decide) tk_no rfl 9 (by decide) (htl _ mw_480) (fun _ h9 => h9) rfl (tyX6_ok 9 (by decide)) rfl rfl rfl (tk_V0 (by decide) (by decide)) (fun _ h => tk_X7 h (by decide) (by decide)) (tk_w.of ht_a0 (by decide) (List.mem_of_getElem? (i := 0) rfl) (Nat.le_refl _) (Nat.le_refl _)) dX6_readPlain_73 (fun H locs hG hS hf1071 hq9 hj9 => ?_)
          refine lv_goto (tgt := 151) hx hb dX6_readPlain_76 (by decide) ?_
          refine lv_iload_n hx hb dX6_readPlain_151 rfl (lv_at hl 0 rfl) ?_
          refine lv_if_eq (tgt := 164) hx hb dX6_readPlain_152 (by decide) (fun c9 => ?_) (fun c9 => ?_)
          · have hc1073 : v2.toInt = 0 := (fi_eq rfl (show (0 : Int32).toInt = 0 by decide)).mp c9
            exact tk_vret hx hb hr hlocks (show tk_f D H a0 6 9 (.int 4) from hf1071) hG hS dX6_readPlain_164
          · have hc1073 : ¬ (v2.toInt = 0) := fun h9 => c9 ((fi_eq rfl (show (0 : Int32).toInt = 0 by decide)).mpr h9)
            refine lv_aload_n hx hb dX6_readPlain_155 rfl (lv_at hl 1 rfl) ?_
            refine tk_get (ci := 6) (C := RX6) (T := TX6) (N := 11) (sp := (6, 8, 512, 12)) hx hb htl inX6 hown hK hG ht_a0 (by decide) tk_no rfl 0 (by decide) (htl _ mw_132) (fun _ h9 => h9) rfl dX6_readPlain_156 (fun v9 hf1074 hV9 => ?_)
            obtain ⟨b1075, rfl, ht_b1075⟩ := hV9
            have ht_b1075 : t b1075 = (8, 512, 12) := ht_b1075
            refine lv_iconst (v := 3) hx hb dX6_readPlain_159 (by decide) ?_
            refine lv_iconst (v := 0) hx hb dX6_readPlain_160 (by decide) ?_
            have hk_3 : (3 : Int32).toInt = 3 := by decide
            have hk_0 : (0 : Int32).toInt = 0 := by decide
            refine tk_Vv (As := [.int 3, .int 0]) (rest := []) (ci := 7) ⟨hx, hb, hml, hown, hts⟩ hK hG hZ hS (k_X7_put l D cy ld t b1075 3 0 ht_b1075) trivial ⟨callB_of 2 hts (wl_in mw_594) rfl rfl rfl (htl _ mw_131) (htl _ mw_591) hd_yX7_put ⟨(Nat.le_of_ble_eq_true rfl), (Nat.le_of_ble_eq_true rfl)⟩, htl _ mw_592, htl _ mw_593⟩ ht_b1075 (by decide) tk_no rfl (tk_w.pick [1, 2] rfl) rfl hl.1 rfl (Nat.le_of_ble_eq_true rfl) dX6_readPlain_161 ⟨(Nat.le_of_ble_eq_true rfl), (Nat.le_of_ble_eq_true rfl)⟩ (fun H locs hpo hG hS hq9 => ?_)
            have hf1071 := hf1071.call hq9 (tk_w.no ht_a0 (by decide))
            exact tk_vret hx hb hr hlocks (show tk_f D H a0 6 9 (.int 4) from hf1071) hG hS dX6_readPlain_164
      refine lv_icmp_ge (tgt := 40) hx hb dX6_readPlain_8 (by decide) (fun c9 => ?_) (fun c9 => ?_)
      · have hc976 : 400 ≤ v1.toInt := (fi_le (show (400 : Int32).toInt = 400 by decide) rfl).mp c9
        exact hj993 _ _ hG hS hg_0 _ (lv_sub hl [1, 2] rfl)
      · have hc976 : ¬ (400 ≤ v1.toInt) := fun h9 => c9 ((fi_le (show (400 : Int32).toInt = 400 by decide) rfl).mpr h9)
        refine lv_aload_n hx hb dX6_readPlain_11 rfl (lv_at hl 2 rfl) ?_
        refine va_ldcS hx hb hown hK.2.2.2.2.2.2.2.2.2.2.2.2.1 dX6_readPlain_12 ?_
        refine tk_Vi (As := [.ref (ld 8)]) (rest := []) (ci := 6) ⟨hx, hb, hml, hown, hts⟩ hK hG hZ hS (k_X6_isWord_8 l D cy ld t a0 ht_a0) trivial ⟨callB_of 1 hts (wl_in mw_626) rfl rfl rfl (htl _ mw_36) (htl _ mw_623) hd_yX6_isWord ⟨(Nat.le_of_ble_eq_true rfl), (Nat.le_of_ble_eq_true rfl)⟩, htl _ mw_624, htl _ mw_625⟩ ht_a0 (by decide) tk_no rfl (tk_w.pick [] rfl) rfl hl.1 rfl (Nat.le_of_ble_eq_true rfl) dX6_readPlain_14 ⟨(Nat.le_of_ble_eq_true rfl), (Nat.le_of_ble_eq_true rfl)⟩ (fun v1077 H locs hpo hG hS hq9 => ?_)
        have hg_0 := hg_0.call hq9 tk_w.nil
        obtain ⟨hpo1079, hpo1080, hpo1081, hpo1082⟩ := hpo
        refine lv_if_eq (tgt := 40) hx hb dX6_readPlain_17 (by decide) (fun c9 => ?_) (fun c9 => ?_)
        · have hc1083 : v1077.toInt = 0 := (fi_eq rfl (show (0 : Int32).toInt = 0 by decide)).mp c9
          exact hj993 _ _ hG hS hg_0 _ (lv_sub hl [1, 2] rfl)
        · have hc1083 : ¬ (v1077.toInt = 0) := fun h9 => c9 ((fi_eq rfl (show (0 : Int32).toInt = 0 by decide)).mpr h9)
          refine lv_iload_n hx hb dX6_readPlain_20 rfl (lv_at hl 1 rfl) ?_
          have hj1087 : ∀ (v1086 : Int32), 0 ≤ v1086.toInt → v1086.toInt ≤ 1 → ∀ ls : Array Slot, lv_has ls 3 [(2, .int v1), (0, .ref a0)] → W p l e ({ frames := 24, cells := 0, slots := 0, locals := 1610 }) s m args below meth c H locs 0 0 (MQ below (tv D cy ld t [] (fun H => tk_f D H a0 6 9 (.int 4)) (tk_w t [(7, 0, 0), (20, 0, 0), (8, 12, 12)])) args s 0 0 (tk_w t [(7, 0, 0), (20, 0, 0), (8, 12, 12)])) (F0 m 29 ls [.int v1086]) := by
            intro v1086 hq0_j1087 hq1_j1087 ls hl
            refine lv_istore_n (lv' := [(1, .int v1086), (2, .int v1), (0, .ref a0)]) hx hb dX6_readPlain_29 rfl hl (by decide) rfl (fun ls hl => ?_)
            refine lv_aload_n hx hb dX6_readPlain_30 rfl (lv_at hl 2 rfl) ?_
            have hk_4 : (4 : Int32).toInt = 4 := by decide
            refine tk_Vv (As := []) (rest := []) (ci := 6) ⟨hx, hb, hml, hown, hts⟩ hK hG hZ hS (k_X6_step l D cy ld t a0 4 ht_a0 (by omega) (by omega)) hg_0 ⟨callB_of 0 hts (wl_in mw_494) rfl rfl rfl (htl _ mw_36) (htl _ mw_491) hd_yX6_step ⟨(Nat.le_of_ble_eq_true rfl), (Nat.le_of_ble_eq_true rfl)⟩, htl _ mw_492, htl _ mw_493⟩ ht_a0 (by decide) tk_no rfl (tk_w.pick [0] rfl) rfl hl.1 rfl (Nat.le_of_ble_eq_true rfl) dX6_readPlain_31 ⟨(Nat.le_of_ble_eq_true rfl), (Nat.le_of_ble_eq_true rfl)⟩ (fun H locs hpo hG hS hq9 => ?_)
            have hf1089 := hpo
            obtain ⟨v1090, h_v1090, e_v1090⟩ := tk_inc v1 1 (by decide) (by omega) (by omega)
            refine lv_iinc (v := v1090) (lv' := [(2, .int v1090), (1, .int v1086), (0, .ref a0)]) hx hb dX6_readPlain_34 hl (k := 1) rfl e_v1090 (by decide) rfl (fun ls hl => ?_)
            refine lv_goto (tgt := 4) hx hb dX6_readPlain_37 (by decide) ?_
            exact ih_l975 v1090 v1086 _ _ (by omega) (by omega) (by omega) (by omega) (by omega) hG hS hf1089 _ (lv_sub hl [0, 1, 2] rfl)
          refine lv_if_ne (tgt := 28) hx hb dX6_readPlain_21 (by decide) (fun c9 => ?_) (fun c9 => ?_)
          · have hc1084 : ¬ (v2.toInt = 0) := fun h9 => c9 ((fi_eq rfl (show (0 : Int32).toInt = 0 by decide)).mpr h9)
            refine lv_iconst (v := 0) hx hb dX6_readPlain_28 (by decide) ?_
            have hk_0 : (0 : Int32).toInt = 0 := by decide
            exact hj1087 0 (by omega) (by omega) _ (lv_sub hl [0, 2] rfl)
          · have hc1084 : v2.toInt = 0 := (fi_eq rfl (show (0 : Int32).toInt = 0 by decide)).mp c9
            refine lv_iconst (v := 1) hx hb dX6_readPlain_24 (by decide) ?_
            refine lv_goto (tgt := 29) hx hb dX6_readPlain_25 (by decide) ?_
            have hk_1 : (1 : Int32).toInt = 1 := by decide
            exact hj1087 1 (by omega) (by omega) _ (lv_sub hl [0, 2] rfl)
  have hk_0 : (0 : Int32).toInt = 0 := by decide
  have hk_0 : (0 : Int32).toInt = 0 := by decide
  exact hl975 401 0 0 _ _ (by omega) (by omega) (by omega) (by omega) (by omega) hG hS hg_0 _ (lv_sub hl [0, 1, 2] rfl)
set_option maxHeartbeats 4000000 in
set_option maxRecDepth 100000 in
theorem k_X6_readBoth_4 (l : Launch) (D : va_G) (cy : Nat → ClassId) (ld : Nat → Nat) (t : tk_T) (a0 : Nat) (ht_a0 : t a0 = (7, 0, 0)) : Met l yX6_readBoth (wl yX6_readBoth cX6_readBoth 3 none) ({ frames := 25, cells := 0, slots := 0, locals := 1680 }) (tp D cy ld t [] [.ref a0] (fun H => tk_f D H a0 6 9 (.int 4))) (tv D cy ld t [] (fun H => tk_f D H a0 6 9 (.int 4)) (tk_w t [(7, 0, 0), (20, 0, 0), (8, 12, 12)])) 0 0 (tk_w t [(7, 0, 0), (20, 0, 0), (8, 12, 12)]) := by
  refine tk_met (y := yX6_readBoth) (cc := cX6_readBoth) (maxL := 3) (ret := none) (av := [.ref a0]) _ _ (by decide) (Nat.le_of_ble_eq_true rfl) ?_
  intro p e s m args below meth c hx hb hr hml hts htl hown hlocks hK H locs hH hG hS hB hZ ls hl
  have hown : s.vm.findClass RX6 = some m.cls := hown
  have hl : lv_has ls 3 [(0, .ref a0)] := hl
  have hg_0 := hB
  refine lv_aload_n hx hb dX6_readBoth_0 rfl (lv_at hl 0 rfl) ?_
  refine tk_Vv (As := []) (rest := []) (ci := 6) ⟨hx, hb, hml, hown, hts⟩ hK hG hZ hS (k_X6_readPlain_4 l D cy ld t a0 ht_a0) hg_0 ⟨callB_of 0 hts (wl_in mw_648) rfl rfl rfl (htl _ mw_36) (htl _ mw_645) hd_yX6_readPlain ⟨(Nat.le_of_ble_eq_true rfl), (Nat.le_of_ble_eq_true rfl)⟩, htl _ mw_646, htl _ mw_647⟩ ht_a0 (by decide) tk_no rfl (tk_w.pick [0, 1, 2] rfl) rfl hl.1 rfl (Nat.le_of_ble_eq_true rfl) dX6_readBoth_1 ⟨(Nat.le_of_ble_eq_true rfl), (Nat.le_of_ble_eq_true rfl)⟩ (fun H locs hpo hG hS hq9 => ?_)
  have hf2 := hpo
  refine lv_iconst (v := 0) hx hb dX6_readBoth_4 (by decide) ?_
  refine lv_istore_n (lv' := [(1, .int 0), (0, .ref a0)]) hx hb dX6_readBoth_5 rfl hl (by decide) rfl (fun ls hl => ?_)
  have hl170 : ∀ (N_l170 : Nat) (v3 : Int32) (H : Heap) (locs : List Loc), 0 ≤ v3.toInt → v3.toInt ≤ 400 → (-1) * v3.toInt + 400 < (N_l170 : Int) → tk_G D cy ld t [] H → va_S (tk_w t [(7, 0, 0), (20, 0, 0), (8, 12, 12)]) s.heap H locs → tk_f D H a0 6 9 (.int 4) → ∀ ls : Array Slot, lv_has ls 3 [(1, .int v3), (0, .ref a0)] → W p l e ({ frames := 25, cells := 0, slots := 0, locals := 1680 }) s m args below meth c H locs 0 0 (MQ below (tv D cy ld t [] (fun H => tk_f D H a0 6 9 (.int 4)) (tk_w t [(7, 0, 0), (20, 0, 0), (8, 12, 12)])) args s 0 0 (tk_w t [(7, 0, 0), (20, 0, 0), (8, 12, 12)])) (F0 m 6 ls []) := by
    intro N_l170
    induction N_l170 with
    | zero => intro v3 H locs hq0_l170 hq1_l170 hm_l170 hG hS hf2 ls hl; exfalso; omega
    | succ N_l170 ih_l170 =>
      intro v3 H locs hq0_l170 hq1_l170 hm_l170 hG hS hf2 ls hl
      refine lv_iload_n hx hb dX6_readBoth_6 rfl (lv_at hl 0 rfl) ?_
      refine lv_sipush (v := 400) hx hb dX6_readBoth_7 (by decide) ?_
      refine lv_icmp_ge (tgt := 58) hx hb dX6_readBoth_10 (by decide) (fun c9 => ?_) (fun c9 => ?_)
      · have hc171 : 400 ≤ v3.toInt := (fi_le (show (400 : Int32).toInt = 400 by decide) rfl).mp c9
        exact tk_vret hx hb hr hlocks (show tk_f D H a0 6 9 (.int 4) from hf2) hG hS dX6_readBoth_58
      · have hc171 : ¬ (400 ≤ v3.toInt) := fun h9 => c9 ((fi_le (show (400 : Int32).toInt = 400 by decide) rfl).mpr h9)
        refine lv_aload_n hx hb dX6_readBoth_13 rfl (lv_at hl 1 rfl) ?_
        refine va_ldcS hx hb hown hK.2.2.2.2.2.2.2.2.2.2.2.2.2.1 dX6_readBoth_14 ?_
        refine tk_Vi (As := [.ref (ld 9)]) (rest := []) (ci := 6) ⟨hx, hb, hml, hown, hts⟩ hK hG hZ hS (k_X6_isWord_9 l D cy ld t a0 ht_a0) trivial ⟨callB_of 1 hts (wl_in mw_626) rfl rfl rfl (htl _ mw_36) (htl _ mw_623) hd_yX6_isWord ⟨(Nat.le_of_ble_eq_true rfl), (Nat.le_of_ble_eq_true rfl)⟩, htl _ mw_624, htl _ mw_625⟩ ht_a0 (by decide) tk_no rfl (tk_w.pick [] rfl) rfl hl.1 rfl (Nat.le_of_ble_eq_true rfl) dX6_readBoth_16 ⟨(Nat.le_of_ble_eq_true rfl), (Nat.le_of_ble_eq_true rfl)⟩ (fun v172 H locs hpo hG hS hq9 => ?_)
        have hf2 := hf2.call hq9 tk_w.nil
        obtain ⟨hpo174, hpo175, hpo176, hpo177⟩ := hpo
        refine lv_if_eq (tgt := 58) hx hb dX6_readBoth_19 (by decide) (fun c9 => ?_) (fun c9 => ?_)
        · have hc178 : v172.toInt = 0 := (fi_eq rfl (show (0 : Int32).toInt = 0 by decide)).mp c9
          exact tk_vret hx hb hr hlocks (show tk_f D H a0 6 9 (.int 4) from hf2) hG hS dX6_readBoth_58
        · have hc178 : ¬ (v172.toInt = 0) := fun h9 => c9 ((fi_eq rfl (show (0 : Int32).toInt = 0 by decide)).mpr h9)
          refine lv_aload_n hx hb dX6_readBoth_22 rfl (lv_at hl 1 rfl) ?_
          refine tk_get (ci := 6) (C := RX6) (T := TX6) (N := 11) (sp := (6, 8, 512, 12)) hx hb htl inX6 hown hK hG ht_a0 (by decide) tk_no rfl 0 (by decide) (htl _ mw_132) (fun _ h9 => h9) rfl dX6_readBoth_23 (fun v9 hf179 hV9 => ?_)
          obtain ⟨b180, rfl, ht_b180⟩ := hV9
          have ht_b180 : t b180 = (8, 512, 12) := ht_b180
          refine tk_get (ci := 7) (C := RX7) (T := TX7) (N := 10) (sp := (4, 0, 0, 0)) hx hb htl inX7 hown hK hG ht_b180 (by decide) tk_no rfl 6 (by decide) (htl _ mw_513) (fun _ h9 => h9) rfl dX6_readBoth_26 (fun v9 hf181 hV9 => ?_)
          obtain ⟨v182, rfl, (ha_v182 : 0 ≤ v182.toInt), (hb_v182 : v182.toInt ≤ 512)⟩ := hV9
          refine lv_istore_n (lv' := [(2, .int v182), (1, .int v3), (0, .ref a0)]) hx hb dX6_readBoth_29 rfl hl (by decide) rfl (fun ls hl => ?_)
          refine lv_aload_n hx hb dX6_readBoth_30 rfl (lv_at hl 2 rfl) ?_
          refine tk_get (ci := 6) (C := RX6) (T := TX6) (N := 11) (sp := (6, 8, 512, 12)) hx hb htl inX6 hown hK hG ht_a0 (by decide) tk_no rfl 0 (by decide) (htl _ mw_132) (fun _ h9 => h9) rfl dX6_readBoth_31 (fun v9 hf183 hV9 => ?_)
          obtain ⟨b184, rfl, ht_b184⟩ := hV9
          have ht_b184 : t b184 = (8, 512, 12) := ht_b184
          refine lv_iconst (v := 4) hx hb dX6_readBoth_34 (by decide) ?_
          refine lv_iconst (v := 0) hx hb dX6_readBoth_35 (by decide) ?_
          have hk_4 : (4 : Int32).toInt = 4 := by decide
          have hk_0 : (0 : Int32).toInt = 0 := by decide
          refine tk_Vv (As := [.int 4, .int 0]) (rest := []) (ci := 7) ⟨hx, hb, hml, hown, hts⟩ hK hG hZ hS (k_X7_put l D cy ld t b184 4 0 ht_b184) trivial ⟨callB_of 2 hts (wl_in mw_594) rfl rfl rfl (htl _ mw_131) (htl _ mw_591) hd_yX7_put ⟨(Nat.le_of_ble_eq_true rfl), (Nat.le_of_ble_eq_true rfl)⟩, htl _ mw_592, htl _ mw_593⟩ ht_b184 (by decide) tk_no rfl (tk_w.pick [1, 2] rfl) rfl hl.1 rfl (Nat.le_of_ble_eq_true rfl) dX6_readBoth_36 ⟨(Nat.le_of_ble_eq_true rfl), (Nat.le_of_ble_eq_true rfl)⟩ (fun H locs hpo hG hS hq9 => ?_)
          have hf2 := hf2.call hq9 (tk_w.no ht_a0 (by decide))
          refine lv_aload_n hx hb dX6_readBoth_39 rfl (lv_at hl 2 rfl) ?_
          have hk_4 : (4 : Int32).toInt = 4 := by decide
          refine tk_Vv (As := []) (rest := []) (ci := 6) ⟨hx, hb, hml, hown, hts⟩ hK hG hZ hS (k_X6_step l D cy ld t a0 4 ht_a0 (by omega) (by omega)) hf2 ⟨callB_of 0 hts (wl_in mw_494) rfl rfl rfl (htl _ mw_36) (htl _ mw_491) hd_yX6_step ⟨(Nat.le_of_ble_eq_true rfl), (Nat.le_of_ble_eq_true rfl)⟩, htl _ mw_492, htl _ mw_493⟩ ht_a0 (by decide) tk_no rfl (tk_w.pick [0] rfl) rfl hl.1 rfl (Nat.le_of_ble_eq_true rfl) dX6_readBoth_40 ⟨(Nat.le_of_ble_eq_true rfl), (Nat.le_of_ble_eq_true rfl)⟩ (fun H locs hpo hG hS hq9 => ?_)
          have hf187 := hpo
          refine lv_aload_n hx hb dX6_readBoth_43 rfl (lv_at hl 2 rfl) ?_
          refine tk_Vv (As := []) (rest := []) (ci := 6) ⟨hx, hb, hml, hown, hts⟩ hK hG hZ hS (k_X6_readPlain_4 l D cy ld t a0 ht_a0) hf187 ⟨callB_of 0 hts (wl_in mw_648) rfl rfl rfl (htl _ mw_36) (htl _ mw_645) hd_yX6_readPlain ⟨(Nat.le_of_ble_eq_true rfl), (Nat.le_of_ble_eq_true rfl)⟩, htl _ mw_646, htl _ mw_647⟩ ht_a0 (by decide) tk_no rfl (tk_w.pick [0, 1, 2] rfl) rfl hl.1 rfl (Nat.le_of_ble_eq_true rfl) dX6_readBoth_44 ⟨(Nat.le_of_ble_eq_true rfl), (Nat.le_of_ble_eq_true rfl)⟩ (fun H locs hpo hG hS hq9 => ?_)
          have hf189 := hpo
          refine lv_aload_n hx hb dX6_readBoth_47 rfl (lv_at hl 2 rfl) ?_
          refine lv_iload_n hx hb dX6_readBoth_48 rfl (lv_at hl 0 rfl) ?_
          refine tk_Vv (As := [.int v182]) (rest := []) (ci := 6) ⟨hx, hb, hml, hown, hts⟩ hK hG hZ hS (k_X6_landHere l D cy ld t a0 v182 ht_a0 (by omega) (by omega)) trivial ⟨callB_of 1 hts (wl_in mw_642) rfl rfl rfl (htl _ mw_36) (htl _ mw_639) hd_yX6_landHere ⟨(Nat.le_of_ble_eq_true rfl), (Nat.le_of_ble_eq_true rfl)⟩, htl _ mw_640, htl _ mw_641⟩ ht_a0 (by decide) tk_no rfl (tk_w.pick [1] rfl) rfl hl.1 rfl (Nat.le_of_ble_eq_true rfl) dX6_readBoth_49 ⟨(Nat.le_of_ble_eq_true rfl), (Nat.le_of_ble_eq_true rfl)⟩ (fun H locs hpo hG hS hq9 => ?_)
          have hf189 := hf189.call hq9 (tk_w.no ht_a0 (by decide))
          obtain ⟨v191, h_v191, e_v191⟩ := tk_inc v3 1 (by decide) (by omega) (by omega)
          refine lv_iinc (v := v191) (lv' := [(1, .int v191), (2, .int v182), (0, .ref a0)]) hx hb dX6_readBoth_52 hl (k := 1) rfl e_v191 (by decide) rfl (fun ls hl => ?_)
          refine lv_goto (tgt := 6) hx hb dX6_readBoth_55 (by decide) ?_
          exact ih_l170 v191 _ _ (by omega) (by omega) (by omega) hG hS hf189 _ (lv_sub hl [0, 2] rfl)
  have hk_0 : (0 : Int32).toInt = 0 := by decide
  exact hl170 401 0 _ _ (by omega) (by omega) (by omega) hG hS hf2 _ (lv_sub hl [0, 1] rfl)
set_option maxHeartbeats 4000000 in
set_option maxRecDepth 100000 in
theorem k_X6_readTest_4 (l : Launch) (D : va_G) (cy : Nat → ClassId) (ld : Nat → Nat) (t : tk_T) (a0 : Nat) (ht_a0 : t a0 = (7, 0, 0)) : Met l yX6_readTest (wl yX6_readTest cX6_readTest 3 none) ({ frames := 26, cells := 0, slots := 0, locals := 1750 }) (tp D cy ld t [] [.ref a0] (fun H => tk_f D H a0 6 9 (.int 4))) (tv D cy ld t [] (fun H => tk_f D H a0 6 9 (.int 4)) (tk_w t [(7, 0, 0), (20, 0, 0), (8, 12, 12)])) 0 0 (tk_w t [(7, 0, 0), (20, 0, 0), (8, 12, 12)]) := by
  refine tk_met (y := yX6_readTest) (cc := cX6_readTest) (maxL := 3) (ret := none) (av := [.ref a0]) _ _ (by decide) (Nat.le_of_ble_eq_true rfl) ?_
  intro p e s m args below meth c hx hb hr hml hts htl hown hlocks hK H locs hH hG hS hB hZ ls hl
  have hown : s.vm.findClass RX6 = some m.cls := hown
  have hl : lv_has ls 3 [(0, .ref a0)] := hl
  have hg_0 := hB
  refine lv_aload_n hx hb dX6_readTest_0 rfl (lv_at hl 0 rfl) ?_
  refine tk_Vv (As := []) (rest := []) (ci := 6) ⟨hx, hb, hml, hown, hts⟩ hK hG hZ hS (k_X6_readBoth_4 l D cy ld t a0 ht_a0) hg_0 ⟨callB_of 0 hts (wl_in mw_644) rfl rfl rfl (htl _ mw_36) (htl _ mw_636) hd_yX6_readBoth ⟨(Nat.le_of_ble_eq_true rfl), (Nat.le_of_ble_eq_true rfl)⟩, htl _ mw_637, htl _ mw_638⟩ ht_a0 (by decide) tk_no rfl (tk_w.pick [0, 1, 2] rfl) rfl hl.1 rfl (Nat.le_of_ble_eq_true rfl) dX6_readTest_1 ⟨(Nat.le_of_ble_eq_true rfl), (Nat.le_of_ble_eq_true rfl)⟩ (fun H locs hpo hG hS hq9 => ?_)
  have hf2 := hpo
  refine lv_iconst (v := 0) hx hb dX6_readTest_4 (by decide) ?_
  refine lv_istore_n (lv' := [(1, .int 0), (0, .ref a0)]) hx hb dX6_readTest_5 rfl hl (by decide) rfl (fun ls hl => ?_)
  have hl170 : ∀ (N_l170 : Nat) (v3 : Int32) (H : Heap) (locs : List Loc), 0 ≤ v3.toInt → v3.toInt ≤ 400 → (-1) * v3.toInt + 400 < (N_l170 : Int) → tk_G D cy ld t [] H → va_S (tk_w t [(7, 0, 0), (20, 0, 0), (8, 12, 12)]) s.heap H locs → tk_f D H a0 6 9 (.int 4) → ∀ ls : Array Slot, lv_has ls 3 [(1, .int v3), (0, .ref a0)] → W p l e ({ frames := 26, cells := 0, slots := 0, locals := 1750 }) s m args below meth c H locs 0 0 (MQ below (tv D cy ld t [] (fun H => tk_f D H a0 6 9 (.int 4)) (tk_w t [(7, 0, 0), (20, 0, 0), (8, 12, 12)])) args s 0 0 (tk_w t [(7, 0, 0), (20, 0, 0), (8, 12, 12)])) (F0 m 6 ls []) := by
    intro N_l170
    induction N_l170 with
    | zero => intro v3 H locs hq0_l170 hq1_l170 hm_l170 hG hS hf2 ls hl; exfalso; omega
    | succ N_l170 ih_l170 =>
      intro v3 H locs hq0_l170 hq1_l170 hm_l170 hG hS hf2 ls hl
      refine lv_iload_n hx hb dX6_readTest_6 rfl (lv_at hl 0 rfl) ?_
      refine lv_sipush (v := 400) hx hb dX6_readTest_7 (by decide) ?_
      refine lv_icmp_ge (tgt := 58) hx hb dX6_readTest_10 (by decide) (fun c9 => ?_) (fun c9 => ?_)
      · have hc171 : 400 ≤ v3.toInt := (fi_le (show (400 : Int32).toInt = 400 by decide) rfl).mp c9
        exact tk_vret hx hb hr hlocks (show tk_f D H a0 6 9 (.int 4) from hf2) hG hS dX6_readTest_58
      · have hc171 : ¬ (400 ≤ v3.toInt) := fun h9 => c9 ((fi_le (show (400 : Int32).toInt = 400 by decide) rfl).mpr h9)
        refine lv_aload_n hx hb dX6_readTest_13 rfl (lv_at hl 1 rfl) ?_
        refine va_ldcS hx hb hown hK.2.2.2.2.2.2.2.2.2.2.2.2.2.2 dX6_readTest_14 ?_
        refine tk_Vi (As := [.ref (ld 10)]) (rest := []) (ci := 6) ⟨hx, hb, hml, hown, hts⟩ hK hG hZ hS (k_X6_isWord_10 l D cy ld t a0 ht_a0) trivial ⟨callB_of 1 hts (wl_in mw_626) rfl rfl rfl (htl _ mw_36) (htl _ mw_623) hd_yX6_isWord ⟨(Nat.le_of_ble_eq_true rfl), (Nat.le_of_ble_eq_true rfl)⟩, htl _ mw_624, htl _ mw_625⟩ ht_a0 (by decide) tk_no rfl (tk_w.pick [] rfl) rfl hl.1 rfl (Nat.le_of_ble_eq_true rfl) dX6_readTest_16 ⟨(Nat.le_of_ble_eq_true rfl), (Nat.le_of_ble_eq_true rfl)⟩ (fun v172 H locs hpo hG hS hq9 => ?_)
        have hf2 := hf2.call hq9 tk_w.nil
        obtain ⟨hpo174, hpo175, hpo176, hpo177⟩ := hpo
        refine lv_if_eq (tgt := 58) hx hb dX6_readTest_19 (by decide) (fun c9 => ?_) (fun c9 => ?_)
        · have hc178 : v172.toInt = 0 := (fi_eq rfl (show (0 : Int32).toInt = 0 by decide)).mp c9
          exact tk_vret hx hb hr hlocks (show tk_f D H a0 6 9 (.int 4) from hf2) hG hS dX6_readTest_58
        · have hc178 : ¬ (v172.toInt = 0) := fun h9 => c9 ((fi_eq rfl (show (0 : Int32).toInt = 0 by decide)).mpr h9)
          refine lv_aload_n hx hb dX6_readTest_22 rfl (lv_at hl 1 rfl) ?_
          refine tk_get (ci := 6) (C := RX6) (T := TX6) (N := 11) (sp := (6, 8, 512, 12)) hx hb htl inX6 hown hK hG ht_a0 (by decide) tk_no rfl 0 (by decide) (htl _ mw_132) (fun _ h9 => h9) rfl dX6_readTest_23 (fun v9 hf179 hV9 => ?_)
          obtain ⟨b180, rfl, ht_b180⟩ := hV9
          have ht_b180 : t b180 = (8, 512, 12) := ht_b180
          refine tk_get (ci := 7) (C := RX7) (T := TX7) (N := 10) (sp := (4, 0, 0, 0)) hx hb htl inX7 hown hK hG ht_b180 (by decide) tk_no rfl 6 (by decide) (htl _ mw_513) (fun _ h9 => h9) rfl dX6_readTest_26 (fun v9 hf181 hV9 => ?_)
          obtain ⟨v182, rfl, (ha_v182 : 0 ≤ v182.toInt), (hb_v182 : v182.toInt ≤ 512)⟩ := hV9
          refine lv_istore_n (lv' := [(2, .int v182), (1, .int v3), (0, .ref a0)]) hx hb dX6_readTest_29 rfl hl (by decide) rfl (fun ls hl => ?_)
          refine lv_aload_n hx hb dX6_readTest_30 rfl (lv_at hl 2 rfl) ?_
          refine tk_get (ci := 6) (C := RX6) (T := TX6) (N := 11) (sp := (6, 8, 512, 12)) hx hb htl inX6 hown hK hG ht_a0 (by decide) tk_no rfl 0 (by decide) (htl _ mw_132) (fun _ h9 => h9) rfl dX6_readTest_31 (fun v9 hf183 hV9 => ?_)
          obtain ⟨b184, rfl, ht_b184⟩ := hV9
          have ht_b184 : t b184 = (8, 512, 12) := ht_b184
          refine lv_iconst (v := 5) hx hb dX6_readTest_34 (by decide) ?_
          refine lv_iconst (v := 0) hx hb dX6_readTest_35 (by decide) ?_
          have hk_5 : (5 : Int32).toInt = 5 := by decide
          have hk_0 : (0 : Int32).toInt = 0 := by decide
          refine tk_Vv (As := [.int 5, .int 0]) (rest := []) (ci := 7) ⟨hx, hb, hml, hown, hts⟩ hK hG hZ hS (k_X7_put l D cy ld t b184 5 0 ht_b184) trivial ⟨callB_of 2 hts (wl_in mw_594) rfl rfl rfl (htl _ mw_131) (htl _ mw_591) hd_yX7_put ⟨(Nat.le_of_ble_eq_true rfl), (Nat.le_of_ble_eq_true rfl)⟩, htl _ mw_592, htl _ mw_593⟩ ht_b184 (by decide) tk_no rfl (tk_w.pick [1, 2] rfl) rfl hl.1 rfl (Nat.le_of_ble_eq_true rfl) dX6_readTest_36 ⟨(Nat.le_of_ble_eq_true rfl), (Nat.le_of_ble_eq_true rfl)⟩ (fun H locs hpo hG hS hq9 => ?_)
          have hf2 := hf2.call hq9 (tk_w.no ht_a0 (by decide))
          refine lv_aload_n hx hb dX6_readTest_39 rfl (lv_at hl 2 rfl) ?_
          have hk_4 : (4 : Int32).toInt = 4 := by decide
          refine tk_Vv (As := []) (rest := []) (ci := 6) ⟨hx, hb, hml, hown, hts⟩ hK hG hZ hS (k_X6_step l D cy ld t a0 4 ht_a0 (by omega) (by omega)) hf2 ⟨callB_of 0 hts (wl_in mw_494) rfl rfl rfl (htl _ mw_36) (htl _ mw_491) hd_yX6_step ⟨(Nat.le_of_ble_eq_true rfl), (Nat.le_of_ble_eq_true rfl)⟩, htl _ mw_492, htl _ mw_493⟩ ht_a0 (by decide) tk_no rfl (tk_w.pick [0] rfl) rfl hl.1 rfl (Nat.le_of_ble_eq_true rfl) dX6_readTest_40 ⟨(Nat.le_of_ble_eq_true rfl), (Nat.le_of_ble_eq_true rfl)⟩ (fun H locs hpo hG hS hq9 => ?_)
          have hf187 := hpo
          refine lv_aload_n hx hb dX6_readTest_43 rfl (lv_at hl 2 rfl) ?_
          refine tk_Vv (As := []) (rest := []) (ci := 6) ⟨hx, hb, hml, hown, hts⟩ hK hG hZ hS (k_X6_readBoth_4 l D cy ld t a0 ht_a0) hf187 ⟨callB_of 0 hts (wl_in mw_644) rfl rfl rfl (htl _ mw_36) (htl _ mw_636) hd_yX6_readBoth ⟨(Nat.le_of_ble_eq_true rfl), (Nat.le_of_ble_eq_true rfl)⟩, htl _ mw_637, htl _ mw_638⟩ ht_a0 (by decide) tk_no rfl (tk_w.pick [0, 1, 2] rfl) rfl hl.1 rfl (Nat.le_of_ble_eq_true rfl) dX6_readTest_44 ⟨(Nat.le_of_ble_eq_true rfl), (Nat.le_of_ble_eq_true rfl)⟩ (fun H locs hpo hG hS hq9 => ?_)
          have hf189 := hpo
          refine lv_aload_n hx hb dX6_readTest_47 rfl (lv_at hl 2 rfl) ?_
          refine lv_iload_n hx hb dX6_readTest_48 rfl (lv_at hl 0 rfl) ?_
          refine tk_Vv (As := [.int v182]) (rest := []) (ci := 6) ⟨hx, hb, hml, hown, hts⟩ hK hG hZ hS (k_X6_landHere l D cy ld t a0 v182 ht_a0 (by omega) (by omega)) trivial ⟨callB_of 1 hts (wl_in mw_642) rfl rfl rfl (htl _ mw_36) (htl _ mw_639) hd_yX6_landHere ⟨(Nat.le_of_ble_eq_true rfl), (Nat.le_of_ble_eq_true rfl)⟩, htl _ mw_640, htl _ mw_641⟩ ht_a0 (by decide) tk_no rfl (tk_w.pick [1] rfl) rfl hl.1 rfl (Nat.le_of_ble_eq_true rfl) dX6_readTest_49 ⟨(Nat.le_of_ble_eq_true rfl), (Nat.le_of_ble_eq_true rfl)⟩ (fun H locs hpo hG hS hq9 => ?_)
          have hf189 := hf189.call hq9 (tk_w.no ht_a0 (by decide))
          obtain ⟨v191, h_v191, e_v191⟩ := tk_inc v3 1 (by decide) (by omega) (by omega)
          refine lv_iinc (v := v191) (lv' := [(1, .int v191), (2, .int v182), (0, .ref a0)]) hx hb dX6_readTest_52 hl (k := 1) rfl e_v191 (by decide) rfl (fun ls hl => ?_)
          refine lv_goto (tgt := 6) hx hb dX6_readTest_55 (by decide) ?_
          exact ih_l170 v191 _ _ (by omega) (by omega) (by omega) hG hS hf189 _ (lv_sub hl [0, 2] rfl)
  have hk_0 : (0 : Int32).toInt = 0 := by decide
  exact hl170 401 0 _ _ (by omega) (by omega) (by omega) hG hS hf2 _ (lv_sub hl [0, 1] rfl)
set_option maxHeartbeats 4000000 in
set_option maxRecDepth 100000 in
theorem k_X6_readPlain_3 (l : Launch) (D : va_G) (cy : Nat → ClassId) (ld : Nat → Nat) (t : tk_T) (a0 : Nat) (ht_a0 : t a0 = (7, 0, 0)) : Met l yX6_readPlain (wl yX6_readPlain cX6_readPlain 3 none) ({ frames := 27, cells := 0, slots := 0, locals := 1820 }) (tp D cy ld t [] [.ref a0] (fun H => tk_f D H a0 6 9 (.int 3))) (tv D cy ld t [] (fun H => tk_f D H a0 6 9 (.int 3)) (tk_w t [(7, 0, 0), (20, 0, 0), (8, 12, 12)])) 0 0 (tk_w t [(7, 0, 0), (20, 0, 0), (8, 12, 12)]) := by
  refine tk_met (y := yX6_readPlain) (cc := cX6_readPlain) (maxL := 3) (ret := none) (av := [.ref a0]) _ _ (by decide) (Nat.le_of_ble_eq_true rfl) ?_
  intro p e s m args below meth c hx hb hr hml hts htl hown hlocks hK H locs hH hG hS hB hZ ls hl
  have hown : s.vm.findClass RX6 = some m.cls := hown
  have hl : lv_has ls 3 [(0, .ref a0)] := hl
  have hg_0 := hB
  refine lv_iconst (v := 0) hx hb dX6_readPlain_0 (by decide) ?_
  refine lv_istore_n (lv' := [(1, .int 0), (0, .ref a0)]) hx hb dX6_readPlain_1 rfl hl (by decide) rfl (fun ls hl => ?_)
  refine lv_iconst (v := 0) hx hb dX6_readPlain_2 (by decide) ?_
  refine lv_istore_n (lv' := [(2, .int 0), (1, .int 0), (0, .ref a0)]) hx hb dX6_readPlain_3 rfl hl (by decide) rfl (fun ls hl => ?_)
  have hl975 : ∀ (N_l975 : Nat) (v1 : Int32) (v2 : Int32) (H : Heap) (locs : List Loc), 0 ≤ v2.toInt → v2.toInt ≤ 1 → 0 ≤ v1.toInt + (-1) * v2.toInt → v1.toInt ≤ 400 → (-1) * v1.toInt + 400 < (N_l975 : Int) → tk_G D cy ld t [] H → va_S (tk_w t [(7, 0, 0), (20, 0, 0), (8, 12, 12)]) s.heap H locs → tk_f D H a0 6 9 (.int 3) → ∀ ls : Array Slot, lv_has ls 3 [(2, .int v1), (1, .int v2), (0, .ref a0)] → W p l e ({ frames := 27, cells := 0, slots := 0, locals := 1820 }) s m args below meth c H locs 0 0 (MQ below (tv D cy ld t [] (fun H => tk_f D H a0 6 9 (.int 3)) (tk_w t [(7, 0, 0), (20, 0, 0), (8, 12, 12)])) args s 0 0 (tk_w t [(7, 0, 0), (20, 0, 0), (8, 12, 12)])) (F0 m 4 ls []) := by
    intro N_l975
    induction N_l975 with
    | zero => intro v1 v2 H locs hq0_l975 hq1_l975 hq2_l975 hq3_l975 hm_l975 hG hS hg_0 ls hl; exfalso; omega
    | succ N_l975 ih_l975 =>
      intro v1 v2 H locs hq0_l975 hq1_l975 hq2_l975 hq3_l975 hm_l975 hG hS hg_0 ls hl
      refine lv_iload_n hx hb dX6_readPlain_4 rfl (lv_at hl 0 rfl) ?_
      refine lv_sipush (v := 400) hx hb dX6_readPlain_5 (by decide) ?_
      have hj993 : ∀ (H : Heap) (locs : List Loc), tk_G D cy ld t [] H → va_S (tk_w t [(7, 0, 0), (20, 0, 0), (8, 12, 12)]) s.heap H locs → tk_f D H a0 6 9 (.int 3) → ∀ ls : Array Slot, lv_has ls 3 [(1, .int v2), (0, .ref a0)] → W p l e ({ frames := 27, cells := 0, slots := 0, locals := 1820 }) s m args below meth c H locs 0 0 (MQ below (tv D cy ld t [] (fun H => tk_f D H a0 6 9 (.int 3)) (tk_w t [(7, 0, 0), (20, 0, 0), (8, 12, 12)])) args s 0 0 (tk_w t [(7, 0, 0), (20, 0, 0), (8, 12, 12)])) (F0 m 40 ls []) := by
        intro H locs hG hS hg_0 ls hl
        refine lv_aload_n hx hb dX6_readPlain_40 rfl (lv_at hl 1 rfl) ?_
        refine lv_bipush (v := 40) hx hb dX6_readPlain_41 (by decide) ?_
        have hk_40 : (40 : Int32).toInt = 40 := by decide
        refine tk_Vi (As := [.int 40]) (rest := []) (ci := 6) ⟨hx, hb, hml, hown, hts⟩ hK hG hZ hS (k_X6_isSign l D cy ld t a0 40 ht_a0) trivial ⟨callB_of 1 hts (wl_in mw_590) rfl rfl rfl (htl _ mw_36) (htl _ mw_587) hd_yX6_isSign ⟨(Nat.le_of_ble_eq_true rfl), (Nat.le_of_ble_eq_true rfl)⟩, htl _ mw_588, htl _ mw_589⟩ ht_a0 (by decide) tk_no rfl (tk_w.pick [] rfl) rfl hl.1 rfl (Nat.le_of_ble_eq_true rfl) dX6_readPlain_43 ⟨(Nat.le_of_ble_eq_true rfl), (Nat.le_of_ble_eq_true rfl)⟩ (fun v994 H locs hpo hG hS hq9 => ?_)
        have hg_0 := hg_0.call hq9 tk_w.nil
        obtain ⟨hpo996, hpo997, hpo998, hpo999⟩ := hpo
        refine lv_if_eq (tgt := 79) hx hb dX6_readPlain_46 (by decide) (fun c9 => ?_) (fun c9 => ?_)
        · have hc1000 : v994.toInt = 0 := (fi_eq rfl (show (0 : Int32).toInt = 0 by decide)).mp c9
          refine lv_aload_n hx hb dX6_readPlain_79 rfl (lv_at hl 1 rfl) ?_
          refine tk_Vv (As := []) (rest := []) (ci := 6) ⟨hx, hb, hml, hown, hts⟩ hK hG hZ hS (k_X6_readSum_3 l D cy ld t a0 ht_a0) hg_0 ⟨callB_of 0 hts (wl_in mw_583) rfl rfl rfl (htl _ mw_36) (htl _ mw_580) hd_yX6_readSum ⟨(Nat.le_of_ble_eq_true rfl), (Nat.le_of_ble_eq_true rfl)⟩, htl _ mw_581, htl _ mw_582⟩ ht_a0 (by decide) tk_no rfl (tk_w.pick [0, 1, 2] rfl) rfl hl.1 rfl (Nat.le_of_ble_eq_true rfl) dX6_readPlain_80 ⟨(Nat.le_of_ble_eq_true rfl), (Nat.le_of_ble_eq_true rfl)⟩ (fun H locs hpo hG hS hq9 => ?_)
          have hf1002 := hpo
          refine lv_aload_n hx hb dX6_readPlain_83 rfl (lv_at hl 1 rfl) ?_
          refine lv_bipush (v := 60) hx hb dX6_readPlain_84 (by decide) ?_
          have hk_60 : (60 : Int32).toInt = 60 := by decide
          refine tk_Vi (As := [.int 60]) (rest := []) (ci := 6) ⟨hx, hb, hml, hown, hts⟩ hK hG hZ hS (k_X6_isSign l D cy ld t a0 60 ht_a0) trivial ⟨callB_of 1 hts (wl_in mw_590) rfl rfl rfl (htl _ mw_36) (htl _ mw_587) hd_yX6_isSign ⟨(Nat.le_of_ble_eq_true rfl), (Nat.le_of_ble_eq_true rfl)⟩, htl _ mw_588, htl _ mw_589⟩ ht_a0 (by decide) tk_no rfl (tk_w.pick [] rfl) rfl hl.1 rfl (Nat.le_of_ble_eq_true rfl) dX6_readPlain_86 ⟨(Nat.le_of_ble_eq_true rfl), (Nat.le_of_ble_eq_true rfl)⟩ (fun v1003 H locs hpo hG hS hq9 => ?_)
          have hf1002 := hf1002.call hq9 tk_w.nil
          obtain ⟨hpo1005, hpo1006, hpo1007, hpo1008⟩ := hpo
          have hj1021 : ∀ (v1019 : Int32) (H : Heap) (locs : List Loc), 11 ≤ v1019.toInt → v1019.toInt ≤ 13 → tk_G D cy ld t [] H → va_S (tk_w t [(7, 0, 0), (20, 0, 0), (8, 12, 12)]) s.heap H locs → tk_f D H a0 6 9 (.int 3) → ∀ ls : Array Slot, lv_has ls 3 [(1, .int v2), (0, .ref a0)] → W p l e ({ frames := 27, cells := 0, slots := 0, locals := 1820 }) s m args below meth c H locs 0 0 (MQ below (tv D cy ld t [] (fun H => tk_f D H a0 6 9 (.int 3)) (tk_w t [(7, 0, 0), (20, 0, 0), (8, 12, 12)])) args s 0 0 (tk_w t [(7, 0, 0), (20, 0, 0), (8, 12, 12)])) (F0 m 113 ls [.int v1019]) := by
            intro v1019 H locs hq0_j1021 hq1_j1021 hG hS hf1002 ls hl
            refine lv_istore_n (lv' := [(2, .int v1019), (1, .int v2), (0, .ref a0)]) hx hb dX6_readPlain_113 rfl hl (by decide) rfl (fun ls hl => ?_)
            refine lv_iload_n hx hb dX6_readPlain_114 rfl (lv_at hl 0 rfl) ?_
            refine lv_bipush (v := 13) hx hb dX6_readPlain_115 (by decide) ?_
            refine lv_icmp_ne (tgt := 134) hx hb dX6_readPlain_117 (by decide) (fun c9 => ?_) (fun c9 => ?_)
            · have hc1022 : ¬ (v1019.toInt = 13) := fun h9 => c9 ((fi_eq rfl (show (13 : Int32).toInt = 13 by decide)).mpr h9)
              refine lv_aload_n hx hb dX6_readPlain_134 rfl (lv_at hl 2 rfl) ?_
              have hk_3 : (3 : Int32).toInt = 3 := by decide
              refine tk_Vv (As := []) (rest := []) (ci := 6) ⟨hx, hb, hml, hown, hts⟩ hK hG hZ hS (k_X6_step l D cy ld t a0 3 ht_a0 (by omega) (by omega)) hf1002 ⟨callB_of 0 hts (wl_in mw_494) rfl rfl rfl (htl _ mw_36) (htl _ mw_491) hd_yX6_step ⟨(Nat.le_of_ble_eq_true rfl), (Nat.le_of_ble_eq_true rfl)⟩, htl _ mw_492, htl _ mw_493⟩ ht_a0 (by decide) tk_no rfl (tk_w.pick [0] rfl) rfl hl.1 rfl (Nat.le_of_ble_eq_true rfl) dX6_readPlain_135 ⟨(Nat.le_of_ble_eq_true rfl), (Nat.le_of_ble_eq_true rfl)⟩ (fun H locs hpo hG hS hq9 => ?_)
              have hf1024 := hpo
              refine lv_aload_n hx hb dX6_readPlain_138 rfl (lv_at hl 2 rfl) ?_
              refine tk_Vv (As := []) (rest := []) (ci := 6) ⟨hx, hb, hml, hown, hts⟩ hK hG hZ hS (k_X6_readSum_3 l D cy ld t a0 ht_a0) hf1024 ⟨callB_of 0 hts (wl_in mw_583) rfl rfl rfl (htl _ mw_36) (htl _ mw_580) hd_yX6_readSum ⟨(Nat.le_of_ble_eq_true rfl), (Nat.le_of_ble_eq_true rfl)⟩, htl _ mw_581, htl _ mw_582⟩ ht_a0 (by decide) tk_no rfl (tk_w.pick [0, 1, 2] rfl) rfl hl.1 rfl (Nat.le_of_ble_eq_true rfl) dX6_readPlain_139 ⟨(Nat.le_of_ble_eq_true rfl), (Nat.le_of_ble_eq_true rfl)⟩ (fun H locs hpo hG hS hq9 => ?_)
              have hf1026 := hpo
              refine lv_aload_n hx hb dX6_readPlain_142 rfl (lv_at hl 2 rfl) ?_
              refine tk_get (ci := 6) (C := RX6) (T := TX6) (N := 11) (sp := (6, 8, 512, 12)) hx hb htl inX6 hown hK hG ht_a0 (by decide) tk_no rfl 0 (by decide) (htl _ mw_132) (fun _ h9 => h9) rfl dX6_readPlain_143 (fun v9 hf1027 hV9 => ?_)
              obtain ⟨b1028, rfl, ht_b1028⟩ := hV9
              have ht_b1028 : t b1028 = (8, 512, 12) := ht_b1028
              refine lv_iload_n hx hb dX6_readPlain_146 rfl (lv_at hl 0 rfl) ?_
              refine lv_iconst (v := 0) hx hb dX6_readPlain_147 (by decide) ?_
              have hk_0 : (0 : Int32).toInt = 0 := by decide
              refine tk_Vv (As := [.int v1019, .int 0]) (rest := []) (ci := 7) ⟨hx, hb, hml, hown, hts⟩ hK hG hZ hS (k_X7_put l D cy ld t b1028 v1019 0 ht_b1028) trivial ⟨callB_of 2 hts (wl_in mw_594) rfl rfl rfl (htl _ mw_131) (htl _ mw_591) hd_yX7_put ⟨(Nat.le_of_ble_eq_true rfl), (Nat.le_of_ble_eq_true rfl)⟩, htl _ mw_592, htl _ mw_593⟩ ht_b1028 (by decide) tk_no rfl (tk_w.pick [1, 2] rfl) rfl hl.1 rfl (Nat.le_of_ble_eq_true rfl) dX6_readPlain_148 ⟨(Nat.le_of_ble_eq_true rfl), (Nat.le_of_ble_eq_true rfl)⟩ (fun H locs hpo hG hS hq9 => ?_)
              have hf1026 := hf1026.call hq9 (tk_w.no ht_a0 (by decide))
              refine lv_iload_n hx hb dX6_readPlain_151 rfl (lv_at hl 1 rfl) ?_
              refine lv_if_eq (tgt := 164) hx hb dX6_readPlain_152 (by decide) (fun c9 => ?_) (fun c9 => ?_)
              · have hc1030 : v2.toInt = 0 := (fi_eq rfl (show (0 : Int32).toInt = 0 by decide)).mp c9
                exact tk_vret hx hb hr hlocks (show tk_f D H a0 6 9 (.int 3) from hf1026) hG hS dX6_readPlain_164
              · have hc1030 : ¬ (v2.toInt = 0) := fun h9 => c9 ((fi_eq rfl (show (0 : Int32).toInt = 0 by decide)).mpr h9)
                refine lv_aload_n hx hb dX6_readPlain_155 rfl (lv_at hl 2 rfl) ?_
                refine tk_get (ci := 6) (C := RX6) (T := TX6) (N := 11) (sp := (6, 8, 512, 12)) hx hb htl inX6 hown hK hG ht_a0 (by decide) tk_no rfl 0 (by decide) (htl _ mw_132) (fun _ h9 => h9) rfl dX6_readPlain_156 (fun v9 hf1031 hV9 => ?_)
                obtain ⟨b1032, rfl, ht_b1032⟩ := hV9
                have ht_b1032 : t b1032 = (8, 512, 12) := ht_b1032
                refine lv_iconst (v := 3) hx hb dX6_readPlain_159 (by decide) ?_
                refine lv_iconst (v := 0) hx hb dX6_readPlain_160 (by decide) ?_
                have hk_3 : (3 : Int32).toInt = 3 := by decide
                have hk_0 : (0 : Int32).toInt = 0 := by decide
                refine tk_Vv (As := [.int 3, .int 0]) (rest := []) (ci := 7) ⟨hx, hb, hml, hown, hts⟩ hK hG hZ hS (k_X7_put l D cy ld t b1032 3 0 ht_b1032) trivial ⟨callB_of 2 hts (wl_in mw_594) rfl rfl rfl (htl _ mw_131) (htl _ mw_591) hd_yX7_put ⟨(Nat.le_of_ble_eq_true rfl), (Nat.le_of_ble_eq_true rfl)⟩, htl _ mw_592, htl _ mw_593⟩ ht_b1032 (by decide) tk_no rfl (tk_w.pick [1, 2] rfl) rfl hl.1 rfl (Nat.le_of_ble_eq_true rfl) dX6_readPlain_161 ⟨(Nat.le_of_ble_eq_true rfl), (Nat.le_of_ble_eq_true rfl)⟩ (fun H locs hpo hG hS hq9 => ?_)
                have hf1026 := hf1026.call hq9 (tk_w.no ht_a0 (by decide))
                exact tk_vret hx hb hr hlocks (show tk_f D H a0 6 9 (.int 3) from hf1026) hG hS dX6_readPlain_164
            · have hc1022 : v1019.toInt = 13 := (fi_eq rfl (show (13 : Int32).toInt = 13 by decide)).mp c9
              refine lv_aload_n hx hb dX6_readPlain_120 rfl (lv_at hl 2 rfl) ?_
              refine lv_bipush (v := 61) hx hb dX6_readPlain_121 (by decide) ?_
              have hk_61 : (61 : Int32).toInt = 61 := by decide
              refine tk_Vi (As := [.int 61]) (rest := []) (ci := 6) ⟨hx, hb, hml, hown, hts⟩ hK hG hZ hS (k_X6_isSign l D cy ld t a0 61 ht_a0) trivial ⟨callB_of 1 hts (wl_in mw_590) rfl rfl rfl (htl _ mw_36) (htl _ mw_587) hd_yX6_isSign ⟨(Nat.le_of_ble_eq_true rfl), (Nat.le_of_ble_eq_true rfl)⟩, htl _ mw_588, htl _ mw_589⟩ ht_a0 (by decide) tk_no rfl (tk_w.pick [] rfl) rfl hl.1 rfl (Nat.le_of_ble_eq_true rfl) dX6_readPlain_123 ⟨(Nat.le_of_ble_eq_true rfl), (Nat.le_of_ble_eq_true rfl)⟩ (fun v1034 H locs hpo hG hS hq9 => ?_)
              have hf1002 := hf1002.call hq9 tk_w.nil
              obtain ⟨hpo1036, hpo1037, hpo1038, hpo1039⟩ := hpo
              refine lv_if_ne (tgt := 134) hx hb dX6_readPlain_126 (by decide) (fun c9 => ?_) (fun c9 => ?_)
              · have hc1040 : ¬ (v1034.toInt = 0) := fun h9 => c9 ((fi_eq rfl (show (0 : Int32).toInt = 0 by decide)).mpr h9)
                refine lv_aload_n hx hb dX6_readPlain_134 rfl (lv_at hl 2 rfl) ?_
                have hk_3 : (3 : Int32).toInt = 3 := by decide
                refine tk_Vv (As := []) (rest := []) (ci := 6) ⟨hx, hb, hml, hown, hts⟩ hK hG hZ hS (k_X6_step l D cy ld t a0 3 ht_a0 (by omega) (by omega)) hf1002 ⟨callB_of 0 hts (wl_in mw_494) rfl rfl rfl (htl _ mw_36) (htl _ mw_491) hd_yX6_step ⟨(Nat.le_of_ble_eq_true rfl), (Nat.le_of_ble_eq_true rfl)⟩, htl _ mw_492, htl _ mw_493⟩ ht_a0 (by decide) tk_no rfl (tk_w.pick [0] rfl) rfl hl.1 rfl (Nat.le_of_ble_eq_true rfl) dX6_readPlain_135 ⟨(Nat.le_of_ble_eq_true rfl), (Nat.le_of_ble_eq_true rfl)⟩ (fun H locs hpo hG hS hq9 => ?_)
                have hf1042 := hpo
                refine lv_aload_n hx hb dX6_readPlain_138 rfl (lv_at hl 2 rfl) ?_
                refine tk_Vv (As := []) (rest := []) (ci := 6) ⟨hx, hb, hml, hown, hts⟩ hK hG hZ hS (k_X6_readSum_3 l D cy ld t a0 ht_a0) hf1042 ⟨callB_of 0 hts (wl_in mw_583) rfl rfl rfl (htl _ mw_36) (htl _ mw_580) hd_yX6_readSum ⟨(Nat.le_of_ble_eq_true rfl), (Nat.le_of_ble_eq_true rfl)⟩, htl _ mw_581, htl _ mw_582⟩ ht_a0 (by decide) tk_no rfl (tk_w.pick [0, 1, 2] rfl) rfl hl.1 rfl (Nat.le_of_ble_eq_true rfl) dX6_readPlain_139 ⟨(Nat.le_of_ble_eq_true rfl), (Nat.le_of_ble_eq_true rfl)⟩ (fun H locs hpo hG hS hq9 => ?_)
                have hf1044 := hpo
                refine lv_aload_n hx hb dX6_readPlain_142 rfl (lv_at hl 2 rfl) ?_
                refine tk_get (ci := 6) (C := RX6) (T := TX6) (N := 11) (sp := (6, 8, 512, 12)) hx hb htl inX6 hown hK hG ht_a0 (by decide) tk_no rfl 0 (by decide) (htl _ mw_132) (fun _ h9 => h9) rfl dX6_readPlain_143 (fun v9 hf1045 hV9 => ?_)
                obtain ⟨b1046, rfl, ht_b1046⟩ := hV9
                have ht_b1046 : t b1046 = (8, 512, 12) := ht_b1046
                refine lv_iload_n hx hb dX6_readPlain_146 rfl (lv_at hl 0 rfl) ?_
                refine lv_iconst (v := 0) hx hb dX6_readPlain_147 (by decide) ?_
                have hk_0 : (0 : Int32).toInt = 0 := by decide
                refine tk_Vv (As := [.int v1019, .int 0]) (rest := []) (ci := 7) ⟨hx, hb, hml, hown, hts⟩ hK hG hZ hS (k_X7_put l D cy ld t b1046 v1019 0 ht_b1046) trivial ⟨callB_of 2 hts (wl_in mw_594) rfl rfl rfl (htl _ mw_131) (htl _ mw_591) hd_yX7_put ⟨(Nat.le_of_ble_eq_true rfl), (Nat.le_of_ble_eq_true rfl)⟩, htl _ mw_592, htl _ mw_593⟩ ht_b1046 (by decide) tk_no rfl (tk_w.pick [1, 2] rfl) rfl hl.1 rfl (Nat.le_of_ble_eq_true rfl) dX6_readPlain_148 ⟨(Nat.le_of_ble_eq_true rfl), (Nat.le_of_ble_eq_true rfl)⟩ (fun H locs hpo hG hS hq9 => ?_)
                have hf1044 := hf1044.call hq9 (tk_w.no ht_a0 (by decide))
                refine lv_iload_n hx hb dX6_readPlain_151 rfl (lv_at hl 1 rfl) ?_
                refine lv_if_eq (tgt := 164) hx hb dX6_readPlain_152 (by decide) (fun c9 => ?_) (fun c9 => ?_)
                · have hc1048 : v2.toInt = 0 := (fi_eq rfl (show (0 : Int32).toInt = 0 by decide)).mp c9
                  exact tk_vret hx hb hr hlocks (show tk_f D H a0 6 9 (.int 3) from hf1044) hG hS dX6_readPlain_164
                · have hc1048 : ¬ (v2.toInt = 0) := fun h9 => c9 ((fi_eq rfl (show (0 : Int32).toInt = 0 by decide)).mpr h9)
                  refine lv_aload_n hx hb dX6_readPlain_155 rfl (lv_at hl 2 rfl) ?_
                  refine tk_get (ci := 6) (C := RX6) (T := TX6) (N := 11) (sp := (6, 8, 512, 12)) hx hb htl inX6 hown hK hG ht_a0 (by decide) tk_no rfl 0 (by decide) (htl _ mw_132) (fun _ h9 => h9) rfl dX6_readPlain_156 (fun v9 hf1049 hV9 => ?_)
                  obtain ⟨b1050, rfl, ht_b1050⟩ := hV9
                  have ht_b1050 : t b1050 = (8, 512, 12) := ht_b1050
                  refine lv_iconst (v := 3) hx hb dX6_readPlain_159 (by decide) ?_
                  refine lv_iconst (v := 0) hx hb dX6_readPlain_160 (by decide) ?_
                  have hk_3 : (3 : Int32).toInt = 3 := by decide
                  have hk_0 : (0 : Int32).toInt = 0 := by decide
                  refine tk_Vv (As := [.int 3, .int 0]) (rest := []) (ci := 7) ⟨hx, hb, hml, hown, hts⟩ hK hG hZ hS (k_X7_put l D cy ld t b1050 3 0 ht_b1050) trivial ⟨callB_of 2 hts (wl_in mw_594) rfl rfl rfl (htl _ mw_131) (htl _ mw_591) hd_yX7_put ⟨(Nat.le_of_ble_eq_true rfl), (Nat.le_of_ble_eq_true rfl)⟩, htl _ mw_592, htl _ mw_593⟩ ht_b1050 (by decide) tk_no rfl (tk_w.pick [1, 2] rfl) rfl hl.1 rfl (Nat.le_of_ble_eq_true rfl) dX6_readPlain_161 ⟨(Nat.le_of_ble_eq_true rfl), (Nat.le_of_ble_eq_true rfl)⟩ (fun H locs hpo hG hS hq9 => ?_)
                  have hf1044 := hf1044.call hq9 (tk_w.no ht_a0 (by decide))
                  exact tk_vret hx hb hr hlocks (show tk_f D H a0 6 9 (.int 3) from hf1044) hG hS dX6_readPlain_164
              · have hc1040 : v1034.toInt = 0 := (fi_eq rfl (show (0 : Int32).toInt = 0 by decide)).mp c9
                refine lv_aload_n hx hb dX6_readPlain_129 rfl (lv_at hl 2 rfl) ?_
                have hk_3 : (3 : Int32).toInt = 3 := by decide
                refine tk_Vv (As := []) (rest := []) (ci := 6) ⟨hx, hb, hml, hown, hts⟩ hK hG hZ hS (k_X6_fail l D cy ld t a0 3 ht_a0 (by omega) (by omega)) hf1002 ⟨callB_of 0 hts (wl_in mw_507) rfl rfl rfl (htl _ mw_36) (htl _ mw_504) hd_yX6_fail ⟨(Nat.le_of_ble_eq_true rfl), (Nat.le_of_ble_eq_true rfl)⟩, htl _ mw_505, htl _ mw_506⟩ ht_a0 (by decide) tk_no rfl (tk_w.pick [0] rfl) rfl hl.1 rfl (Nat.le_of_ble_eq_true rfl) dX6_readPlain_130 ⟨(Nat.le_of_ble_eq_true rfl), (Nat.le_of_ble_eq_true rfl)⟩ (fun H locs hpo hG hS hq9 => ?_)
                have hf1053 := hpo
                exact tk_vret hx hb hr hlocks (show tk_f D H a0 6 9 (.int 3) from hf1053) hG hS dX6_readPlain_133
          refine lv_if_eq (tgt := 97) hx hb dX6_readPlain_89 (by decide) (fun c9 => ?_) (fun c9 => ?_)
          · have hc1009 : v1003.toInt = 0 := (fi_eq rfl (show (0 : Int32).toInt = 0 by decide)).mp c9
            refine lv_aload_n hx hb dX6_readPlain_97 rfl (lv_at hl 1 rfl) ?_
            refine lv_bipush (v := 62) hx hb dX6_readPlain_98 (by decide) ?_
            have hk_62 : (62 : Int32).toInt = 62 := by decide
            refine tk_Vi (As := [.int 62]) (rest := []) (ci := 6) ⟨hx, hb, hml, hown, hts⟩ hK hG hZ hS (k_X6_isSign l D cy ld t a0 62 ht_a0) trivial ⟨callB_of 1 hts (wl_in mw_590) rfl rfl rfl (htl _ mw_36) (htl _ mw_587) hd_yX6_isSign ⟨(Nat.le_of_ble_eq_true rfl), (Nat.le_of_ble_eq_true rfl)⟩, htl _ mw_588, htl _ mw_589⟩ ht_a0 (by decide) tk_no rfl (tk_w.pick [] rfl) rfl hl.1 rfl (Nat.le_of_ble_eq_true rfl) dX6_readPlain_100 ⟨(Nat.le_of_ble_eq_true rfl), (Nat.le_of_ble_eq_true rfl)⟩ (fun v1054 H locs hpo hG hS hq9 => ?_)
            have hf1002 := hf1002.call hq9 tk_w.nil
            obtain ⟨hpo1056, hpo1057, hpo1058, hpo1059⟩ := hpo
            refine lv_if_eq (tgt := 111) hx hb dX6_readPlain_103 (by decide) (fun c9 => ?_) (fun c9 => ?_)
            · have hc1060 : v1054.toInt = 0 := (fi_eq rfl (show (0 : Int32).toInt = 0 by decide)).mp c9
              refine lv_bipush (v := 13) hx hb dX6_readPlain_111 (by decide) ?_
              have hk_13 : (13 : Int32).toInt = 13 := by decide
              exact hj1021 13 _ _ (by omega) (by omega) hG hS hf1002 _ (lv_sub hl [0, 1] rfl)
            · have hc1060 : ¬ (v1054.toInt = 0) := fun h9 => c9 ((fi_eq rfl (show (0 : Int32).toInt = 0 by decide)).mpr h9)
              refine lv_bipush (v := 12) hx hb dX6_readPlain_106 (by decide) ?_
              refine lv_goto (tgt := 113) hx hb dX6_readPlain_108 (by decide) ?_
              have hk_12 : (12 : Int32).toInt = 12 := by decide
              exact hj1021 12 _ _ (by omega) (by omega) hG hS hf1002 _ (lv_sub hl [0, 1] rfl)
          · have hc1009 : ¬ (v1003.toInt = 0) := fun h9 => c9 ((fi_eq rfl (show (0 : Int32).toInt = 0 by decide)).mpr h9)
            refine lv_bipush (v := 11) hx hb dX6_readPlain_92 (by decide) ?_
            refine lv_goto (tgt := 113) hx hb dX6_readPlain_94 (by decide) ?_
            have hk_11 : (11 : Int32).toInt = 11 := by decide
            exact hj1021 11 _ _ (by omega) (by omega) hG hS hf1002 _ (lv_sub hl [0, 1] rfl)
        · have hc1000 : ¬ (v994.toInt = 0) := fun h9 => c9 ((fi_eq rfl (show (0 : Int32).toInt = 0 by decide)).mpr h9)
          refine lv_aload_n hx hb dX6_readPlain_49 rfl (lv_at hl 1 rfl) ?_
          refine tk_Vi (As := []) (rest := []) (ci := 6) ⟨hx, hb, hml, hown, hts⟩ hK hG hZ hS (k_X6_goDeeper_3 l D cy ld t a0 ht_a0) hg_0 ⟨callB_of 0 hts (wl_in mw_599) rfl rfl rfl (htl _ mw_36) (htl _ mw_596) hd_yX6_goDeeper ⟨(Nat.le_of_ble_eq_true rfl), (Nat.le_of_ble_eq_true rfl)⟩, htl _ mw_597, htl _ mw_598⟩ ht_a0 (by decide) tk_no rfl (tk_w.pick [0] rfl) rfl hl.1 rfl (Nat.le_of_ble_eq_true rfl) dX6_readPlain_50 ⟨(Nat.le_of_ble_eq_true rfl), (Nat.le_of_ble_eq_true rfl)⟩ (fun v1061 H locs hpo hG hS hq9 => ?_)
          obtain ⟨hpo1063, hpo1064, hpo1065, hf1066⟩ := hpo
          obtain rfl : v1061 = 1 := (fi_eq (show v1061.toInt = 1 by omega) (by decide)).mpr rfl
          refine lv_if_eq (tgt := 151) hx hb dX6_readPlain_53 (by decide) (fun c9 => absurd c9 (by decide)) (fun _ => ?_)
          refine lv_aload_n hx hb dX6_readPlain_56 rfl (lv_at hl 1 rfl) ?_
          refine tk_Vv (As := []) (rest := []) (ci := 6) ⟨hx, hb, hml, hown, hts⟩ hK hG hZ hS (k_X6_readTest_4 l D cy ld t a0 ht_a0) hf1066 ⟨callB_of 0 hts (wl_in mw_635) rfl rfl rfl (htl _ mw_36) (htl _ mw_632) hd_yX6_readTest ⟨(Nat.le_of_ble_eq_true rfl), (Nat.le_of_ble_eq_true rfl)⟩, htl _ mw_633, htl _ mw_634⟩ ht_a0 (by decide) tk_no rfl (tk_w.pick [0, 1, 2] rfl) rfl hl.1 rfl (Nat.le_of_ble_eq_true rfl) dX6_readPlain_57 ⟨(Nat.le_of_ble_eq_true rfl), (Nat.le_of_ble_eq_true rfl)⟩ (fun H locs hpo hG hS hq9 => ?_)
          have hf1068 := hpo
          refine lv_aload_n hx hb dX6_readPlain_60 rfl (lv_at hl 1 rfl) ?_
          refine lv_bipush (v := 41) hx hb dX6_readPlain_61 (by decide) ?_
          have hk_41 : (41 : Int32).toInt = 41 := by decide
          have hk_4 : (4 : Int32).toInt = 4 := by decide
          refine tk_Vv (As := [.int 41]) (rest := []) (ci := 6) ⟨hx, hb, hml, hown, hts⟩ hK hG hZ hS (k_X6_take l D cy ld t a0 41 4 ht_a0 (by omega) (by omega)) hf1068 ⟨callB_of 1 hts (wl_in mw_603) rfl rfl rfl (htl _ mw_36) (htl _ mw_600) hd_yX6_take ⟨(Nat.le_of_ble_eq_true rfl), (Nat.le_of_ble_eq_true rfl)⟩, htl _ mw_601, htl _ mw_602⟩ ht_a0 (by decide) tk_no rfl (tk_w.pick [0] rfl) rfl hl.1 rfl (Nat.le_of_ble_eq_true rfl) dX6_readPlain_63 ⟨(Nat.le_of_ble_eq_true rfl), (Nat.le_of_ble_eq_true rfl)⟩ (fun H locs hpo hG hS hq9 => ?_)
          have hf1070 := hpo
          refine lv_aload_n hx hb dX6_readPlain_66 rfl (lv_at hl 1 rfl) ?_
          refine lv_dup hx hb dX6_readPlain_67 rfl ?_
          refine tk_getk (ci := 6) (C := RX6) (T := TX6) (N := 11) (sp := (0, 0, 8, 0)) hx hb htl inX6 hown hK hG ht_a0 (by decide) tk_no rfl 9 (by decide) (htl _ mw_480) (fun _ h9 => h9) rfl hf1070 dX6_readPlain_68 ?_
          refine lv_iconst (v := 1) hx hb dX6_readPlain_71 (by decide) ?_
          refine lv_isub hx hb dX6_readPlain_72 ?_
          refine fx_ti (v := 3) (by decide) ?_
          refine tk_put (ci := 6) (v := .int 3) (ty := .int) (C := RX6) (T := TX6) (N := 11) (sp := (0, 0, 8, 0)) hx hb htl inX6 tyX6 tyX6_ok nmX6 hown hK hG hS ht_a0 (by decide) tk_no rfl 9 (by decide) (htl _ mw_480) (fun _ h9 => h9) rfl (tyX6_ok 9 (by decide)) rfl rfl rfl (tk_V0 (by decide) (by decide)) (fun _ h => tk_X7 h (by decide) (by decide)) (tk_w.of ht_a0 (by decide) (List.mem_of_getElem? (i := 0) rfl) (Nat.le_refl _) (Nat.le_refl _)) dX6_readPlain_73 (fun H locs hG hS hf1071 hq9 hj9 => ?_)
          refine lv_goto (tgt := 151) hx hb dX6_readPlain_76 (by decide) ?_
          refine lv_iload_n hx hb dX6_readPlain_151 rfl (lv_at hl 0 rfl) ?_
          refine lv_if_eq (tgt := 164) hx hb dX6_readPlain_152 (by decide) (fun c9 => ?_) (fun c9 => ?_)
          · have hc1073 : v2.toInt = 0 := (fi_eq rfl (show (0 : Int32).toInt = 0 by decide)).mp c9
            exact tk_vret hx hb hr hlocks (show tk_f D H a0 6 9 (.int 3) from hf1071) hG hS dX6_readPlain_164
          · have hc1073 : ¬ (v2.toInt = 0) := fun h9 => c9 ((fi_eq rfl (show (0 : Int32).toInt = 0 by decide)).mpr h9)
            refine lv_aload_n hx hb dX6_readPlain_155 rfl (lv_at hl 1 rfl) ?_
            refine tk_get (ci := 6) (C := RX6) (T := TX6) (N := 11) (sp := (6, 8, 512, 12)) hx hb htl inX6 hown hK hG ht_a0 (by decide) tk_no rfl 0 (by decide) (htl _ mw_132) (fun _ h9 => h9) rfl dX6_readPlain_156 (fun v9 hf1074 hV9 => ?_)
            obtain ⟨b1075, rfl, ht_b1075⟩ := hV9
            have ht_b1075 : t b1075 = (8, 512, 12) := ht_b1075
            refine lv_iconst (v := 3) hx hb dX6_readPlain_159 (by decide) ?_
            refine lv_iconst (v := 0) hx hb dX6_readPlain_160 (by decide) ?_
            have hk_3 : (3 : Int32).toInt = 3 := by decide
            have hk_0 : (0 : Int32).toInt = 0 := by decide
            refine tk_Vv (As := [.int 3, .int 0]) (rest := []) (ci := 7) ⟨hx, hb, hml, hown, hts⟩ hK hG hZ hS (k_X7_put l D cy ld t b1075 3 0 ht_b1075) trivial ⟨callB_of 2 hts (wl_in mw_594) rfl rfl rfl (htl _ mw_131) (htl _ mw_591) hd_yX7_put ⟨(Nat.le_of_ble_eq_true rfl), (Nat.le_of_ble_eq_true rfl)⟩, htl _ mw_592, htl _ mw_593⟩ ht_b1075 (by decide) tk_no rfl (tk_w.pick [1, 2] rfl) rfl hl.1 rfl (Nat.le_of_ble_eq_true rfl) dX6_readPlain_161 ⟨(Nat.le_of_ble_eq_true rfl), (Nat.le_of_ble_eq_true rfl)⟩ (fun H locs hpo hG hS hq9 => ?_)
            have hf1071 := hf1071.call hq9 (tk_w.no ht_a0 (by decide))
            exact tk_vret hx hb hr hlocks (show tk_f D H a0 6 9 (.int 3) from hf1071) hG hS dX6_readPlain_164
      refine lv_icmp_ge (tgt := 40) hx hb dX6_readPlain_8 (by decide) (fun c9 => ?_) (fun c9 => ?_)
      · have hc976 : 400 ≤ v1.toInt := (fi_le (show (400 : Int32).toInt = 400 by decide) rfl).mp c9
        exact hj993 _ _ hG hS hg_0 _ (lv_sub hl [1, 2] rfl)
      · have hc976 : ¬ (400 ≤ v1.toInt) := fun h9 => c9 ((fi_le (show (400 : Int32).toInt = 400 by decide) rfl).mpr h9)
        refine lv_aload_n hx hb dX6_readPlain_11 rfl (lv_at hl 2 rfl) ?_
        refine va_ldcS hx hb hown hK.2.2.2.2.2.2.2.2.2.2.2.2.1 dX6_readPlain_12 ?_
        refine tk_Vi (As := [.ref (ld 8)]) (rest := []) (ci := 6) ⟨hx, hb, hml, hown, hts⟩ hK hG hZ hS (k_X6_isWord_8 l D cy ld t a0 ht_a0) trivial ⟨callB_of 1 hts (wl_in mw_626) rfl rfl rfl (htl _ mw_36) (htl _ mw_623) hd_yX6_isWord ⟨(Nat.le_of_ble_eq_true rfl), (Nat.le_of_ble_eq_true rfl)⟩, htl _ mw_624, htl _ mw_625⟩ ht_a0 (by decide) tk_no rfl (tk_w.pick [] rfl) rfl hl.1 rfl (Nat.le_of_ble_eq_true rfl) dX6_readPlain_14 ⟨(Nat.le_of_ble_eq_true rfl), (Nat.le_of_ble_eq_true rfl)⟩ (fun v1077 H locs hpo hG hS hq9 => ?_)
        have hg_0 := hg_0.call hq9 tk_w.nil
        obtain ⟨hpo1079, hpo1080, hpo1081, hpo1082⟩ := hpo
        refine lv_if_eq (tgt := 40) hx hb dX6_readPlain_17 (by decide) (fun c9 => ?_) (fun c9 => ?_)
        · have hc1083 : v1077.toInt = 0 := (fi_eq rfl (show (0 : Int32).toInt = 0 by decide)).mp c9
          exact hj993 _ _ hG hS hg_0 _ (lv_sub hl [1, 2] rfl)
        · have hc1083 : ¬ (v1077.toInt = 0) := fun h9 => c9 ((fi_eq rfl (show (0 : Int32).toInt = 0 by decide)).mpr h9)
          refine lv_iload_n hx hb dX6_readPlain_20 rfl (lv_at hl 1 rfl) ?_
          have hj1087 : ∀ (v1086 : Int32), 0 ≤ v1086.toInt → v1086.toInt ≤ 1 → ∀ ls : Array Slot, lv_has ls 3 [(2, .int v1), (0, .ref a0)] → W p l e ({ frames := 27, cells := 0, slots := 0, locals := 1820 }) s m args below meth c H locs 0 0 (MQ below (tv D cy ld t [] (fun H => tk_f D H a0 6 9 (.int 3)) (tk_w t [(7, 0, 0), (20, 0, 0), (8, 12, 12)])) args s 0 0 (tk_w t [(7, 0, 0), (20, 0, 0), (8, 12, 12)])) (F0 m 29 ls [.int v1086]) := by
            intro v1086 hq0_j1087 hq1_j1087 ls hl
            refine lv_istore_n (lv' := [(1, .int v1086), (2, .int v1), (0, .ref a0)]) hx hb dX6_readPlain_29 rfl hl (by decide) rfl (fun ls hl => ?_)
            refine lv_aload_n hx hb dX6_readPlain_30 rfl (lv_at hl 2 rfl) ?_
            have hk_3 : (3 : Int32).toInt = 3 := by decide
            refine tk_Vv (As := []) (rest := []) (ci := 6) ⟨hx, hb, hml, hown, hts⟩ hK hG hZ hS (k_X6_step l D cy ld t a0 3 ht_a0 (by omega) (by omega)) hg_0 ⟨callB_of 0 hts (wl_in mw_494) rfl rfl rfl (htl _ mw_36) (htl _ mw_491) hd_yX6_step ⟨(Nat.le_of_ble_eq_true rfl), (Nat.le_of_ble_eq_true rfl)⟩, htl _ mw_492, htl _ mw_493⟩ ht_a0 (by decide) tk_no rfl (tk_w.pick [0] rfl) rfl hl.1 rfl (Nat.le_of_ble_eq_true rfl) dX6_readPlain_31 ⟨(Nat.le_of_ble_eq_true rfl), (Nat.le_of_ble_eq_true rfl)⟩ (fun H locs hpo hG hS hq9 => ?_)
            have hf1089 := hpo
            obtain ⟨v1090, h_v1090, e_v1090⟩ := tk_inc v1 1 (by decide) (by omega) (by omega)
            refine lv_iinc (v := v1090) (lv' := [(2, .int v1090), (1, .int v1086), (0, .ref a0)]) hx hb dX6_readPlain_34 hl (k := 1) rfl e_v1090 (by decide) rfl (fun ls hl => ?_)
            refine lv_goto (tgt := 4) hx hb dX6_readPlain_37 (by decide) ?_
            exact ih_l975 v1090 v1086 _ _ (by omega) (by omega) (by omega) (by omega) (by omega) hG hS hf1089 _ (lv_sub hl [0, 1, 2] rfl)
          refine lv_if_ne (tgt := 28) hx hb dX6_readPlain_21 (by decide) (fun c9 => ?_) (fun c9 => ?_)
          · have hc1084 : ¬ (v2.toInt = 0) := fun h9 => c9 ((fi_eq rfl (show (0 : Int32).toInt = 0 by decide)).mpr h9)
            refine lv_iconst (v := 0) hx hb dX6_readPlain_28 (by decide) ?_
            have hk_0 : (0 : Int32).toInt = 0 := by decide
            exact hj1087 0 (by omega) (by omega) _ (lv_sub hl [0, 2] rfl)
          · have hc1084 : v2.toInt = 0 := (fi_eq rfl (show (0 : Int32).toInt = 0 by decide)).mp c9
            refine lv_iconst (v := 1) hx hb dX6_readPlain_24 (by decide) ?_
            refine lv_goto (tgt := 29) hx hb dX6_readPlain_25 (by decide) ?_
            have hk_1 : (1 : Int32).toInt = 1 := by decide
            exact hj1087 1 (by omega) (by omega) _ (lv_sub hl [0, 2] rfl)
  have hk_0 : (0 : Int32).toInt = 0 := by decide
  have hk_0 : (0 : Int32).toInt = 0 := by decide
  exact hl975 401 0 0 _ _ (by omega) (by omega) (by omega) (by omega) (by omega) hG hS hg_0 _ (lv_sub hl [0, 1, 2] rfl)
set_option maxHeartbeats 4000000 in
set_option maxRecDepth 100000 in
theorem k_X6_readBoth_3 (l : Launch) (D : va_G) (cy : Nat → ClassId) (ld : Nat → Nat) (t : tk_T) (a0 : Nat) (ht_a0 : t a0 = (7, 0, 0)) : Met l yX6_readBoth (wl yX6_readBoth cX6_readBoth 3 none) ({ frames := 28, cells := 0, slots := 0, locals := 1890 }) (tp D cy ld t [] [.ref a0] (fun H => tk_f D H a0 6 9 (.int 3))) (tv D cy ld t [] (fun H => tk_f D H a0 6 9 (.int 3)) (tk_w t [(7, 0, 0), (20, 0, 0), (8, 12, 12)])) 0 0 (tk_w t [(7, 0, 0), (20, 0, 0), (8, 12, 12)]) := by
  refine tk_met (y := yX6_readBoth) (cc := cX6_readBoth) (maxL := 3) (ret := none) (av := [.ref a0]) _ _ (by decide) (Nat.le_of_ble_eq_true rfl) ?_
  intro p e s m args below meth c hx hb hr hml hts htl hown hlocks hK H locs hH hG hS hB hZ ls hl
  have hown : s.vm.findClass RX6 = some m.cls := hown
  have hl : lv_has ls 3 [(0, .ref a0)] := hl
  have hg_0 := hB
  refine lv_aload_n hx hb dX6_readBoth_0 rfl (lv_at hl 0 rfl) ?_
  refine tk_Vv (As := []) (rest := []) (ci := 6) ⟨hx, hb, hml, hown, hts⟩ hK hG hZ hS (k_X6_readPlain_3 l D cy ld t a0 ht_a0) hg_0 ⟨callB_of 0 hts (wl_in mw_648) rfl rfl rfl (htl _ mw_36) (htl _ mw_645) hd_yX6_readPlain ⟨(Nat.le_of_ble_eq_true rfl), (Nat.le_of_ble_eq_true rfl)⟩, htl _ mw_646, htl _ mw_647⟩ ht_a0 (by decide) tk_no rfl (tk_w.pick [0, 1, 2] rfl) rfl hl.1 rfl (Nat.le_of_ble_eq_true rfl) dX6_readBoth_1 ⟨(Nat.le_of_ble_eq_true rfl), (Nat.le_of_ble_eq_true rfl)⟩ (fun H locs hpo hG hS hq9 => ?_)
  have hf2 := hpo
  refine lv_iconst (v := 0) hx hb dX6_readBoth_4 (by decide) ?_
  refine lv_istore_n (lv' := [(1, .int 0), (0, .ref a0)]) hx hb dX6_readBoth_5 rfl hl (by decide) rfl (fun ls hl => ?_)
  have hl170 : ∀ (N_l170 : Nat) (v3 : Int32) (H : Heap) (locs : List Loc), 0 ≤ v3.toInt → v3.toInt ≤ 400 → (-1) * v3.toInt + 400 < (N_l170 : Int) → tk_G D cy ld t [] H → va_S (tk_w t [(7, 0, 0), (20, 0, 0), (8, 12, 12)]) s.heap H locs → tk_f D H a0 6 9 (.int 3) → ∀ ls : Array Slot, lv_has ls 3 [(1, .int v3), (0, .ref a0)] → W p l e ({ frames := 28, cells := 0, slots := 0, locals := 1890 }) s m args below meth c H locs 0 0 (MQ below (tv D cy ld t [] (fun H => tk_f D H a0 6 9 (.int 3)) (tk_w t [(7, 0, 0), (20, 0, 0), (8, 12, 12)])) args s 0 0 (tk_w t [(7, 0, 0), (20, 0, 0), (8, 12, 12)])) (F0 m 6 ls []) := by
    intro N_l170
    induction N_l170 with
    | zero => intro v3 H locs hq0_l170 hq1_l170 hm_l170 hG hS hf2 ls hl; exfalso; omega
    | succ N_l170 ih_l170 =>
      intro v3 H locs hq0_l170 hq1_l170 hm_l170 hG hS hf2 ls hl
      refine lv_iload_n hx hb dX6_readBoth_6 rfl (lv_at hl 0 rfl) ?_
      refine lv_sipush (v := 400) hx hb dX6_readBoth_7 (by decide) ?_
      refine lv_icmp_ge (tgt := 58) hx hb dX6_readBoth_10 (by decide) (fun c9 => ?_) (fun c9 => ?_)
      · have hc171 : 400 ≤ v3.toInt := (fi_le (show (400 : Int32).toInt = 400 by decide) rfl).mp c9
        exact tk_vret hx hb hr hlocks (show tk_f D H a0 6 9 (.int 3) from hf2) hG hS dX6_readBoth_58
      · have hc171 : ¬ (400 ≤ v3.toInt) := fun h9 => c9 ((fi_le (show (400 : Int32).toInt = 400 by decide) rfl).mpr h9)
        refine lv_aload_n hx hb dX6_readBoth_13 rfl (lv_at hl 1 rfl) ?_
        refine va_ldcS hx hb hown hK.2.2.2.2.2.2.2.2.2.2.2.2.2.1 dX6_readBoth_14 ?_
        refine tk_Vi (As := [.ref (ld 9)]) (rest := []) (ci := 6) ⟨hx, hb, hml, hown, hts⟩ hK hG hZ hS (k_X6_isWord_9 l D cy ld t a0 ht_a0) trivial ⟨callB_of 1 hts (wl_in mw_626) rfl rfl rfl (htl _ mw_36) (htl _ mw_623) hd_yX6_isWord ⟨(Nat.le_of_ble_eq_true rfl), (Nat.le_of_ble_eq_true rfl)⟩, htl _ mw_624, htl _ mw_625⟩ ht_a0 (by decide) tk_no rfl (tk_w.pick [] rfl) rfl hl.1 rfl (Nat.le_of_ble_eq_true rfl) dX6_readBoth_16 ⟨(Nat.le_of_ble_eq_true rfl), (Nat.le_of_ble_eq_true rfl)⟩ (fun v172 H locs hpo hG hS hq9 => ?_)
        have hf2 := hf2.call hq9 tk_w.nil
        obtain ⟨hpo174, hpo175, hpo176, hpo177⟩ := hpo
        refine lv_if_eq (tgt := 58) hx hb dX6_readBoth_19 (by decide) (fun c9 => ?_) (fun c9 => ?_)
        · have hc178 : v172.toInt = 0 := (fi_eq rfl (show (0 : Int32).toInt = 0 by decide)).mp c9
          exact tk_vret hx hb hr hlocks (show tk_f D H a0 6 9 (.int 3) from hf2) hG hS dX6_readBoth_58
        · have hc178 : ¬ (v172.toInt = 0) := fun h9 => c9 ((fi_eq rfl (show (0 : Int32).toInt = 0 by decide)).mpr h9)
          refine lv_aload_n hx hb dX6_readBoth_22 rfl (lv_at hl 1 rfl) ?_
          refine tk_get (ci := 6) (C := RX6) (T := TX6) (N := 11) (sp := (6, 8, 512, 12)) hx hb htl inX6 hown hK hG ht_a0 (by decide) tk_no rfl 0 (by decide) (htl _ mw_132) (fun _ h9 => h9) rfl dX6_readBoth_23 (fun v9 hf179 hV9 => ?_)
          obtain ⟨b180, rfl, ht_b180⟩ := hV9
          have ht_b180 : t b180 = (8, 512, 12) := ht_b180
          refine tk_get (ci := 7) (C := RX7) (T := TX7) (N := 10) (sp := (4, 0, 0, 0)) hx hb htl inX7 hown hK hG ht_b180 (by decide) tk_no rfl 6 (by decide) (htl _ mw_513) (fun _ h9 => h9) rfl dX6_readBoth_26 (fun v9 hf181 hV9 => ?_)
          obtain ⟨v182, rfl, (ha_v182 : 0 ≤ v182.toInt), (hb_v182 : v182.toInt ≤ 512)⟩ := hV9
          refine lv_istore_n (lv' := [(2, .int v182), (1, .int v3), (0, .ref a0)]) hx hb dX6_readBoth_29 rfl hl (by decide) rfl (fun ls hl => ?_)
          refine lv_aload_n hx hb dX6_readBoth_30 rfl (lv_at hl 2 rfl) ?_
          refine tk_get (ci := 6) (C := RX6) (T := TX6) (N := 11) (sp := (6, 8, 512, 12)) hx hb htl inX6 hown hK hG ht_a0 (by decide) tk_no rfl 0 (by decide) (htl _ mw_132) (fun _ h9 => h9) rfl dX6_readBoth_31 (fun v9 hf183 hV9 => ?_)
          obtain ⟨b184, rfl, ht_b184⟩ := hV9
          have ht_b184 : t b184 = (8, 512, 12) := ht_b184
          refine lv_iconst (v := 4) hx hb dX6_readBoth_34 (by decide) ?_
          refine lv_iconst (v := 0) hx hb dX6_readBoth_35 (by decide) ?_
          have hk_4 : (4 : Int32).toInt = 4 := by decide
          have hk_0 : (0 : Int32).toInt = 0 := by decide
          refine tk_Vv (As := [.int 4, .int 0]) (rest := []) (ci := 7) ⟨hx, hb, hml, hown, hts⟩ hK hG hZ hS (k_X7_put l D cy ld t b184 4 0 ht_b184) trivial ⟨callB_of 2 hts (wl_in mw_594) rfl rfl rfl (htl _ mw_131) (htl _ mw_591) hd_yX7_put ⟨(Nat.le_of_ble_eq_true rfl), (Nat.le_of_ble_eq_true rfl)⟩, htl _ mw_592, htl _ mw_593⟩ ht_b184 (by decide) tk_no rfl (tk_w.pick [1, 2] rfl) rfl hl.1 rfl (Nat.le_of_ble_eq_true rfl) dX6_readBoth_36 ⟨(Nat.le_of_ble_eq_true rfl), (Nat.le_of_ble_eq_true rfl)⟩ (fun H locs hpo hG hS hq9 => ?_)
          have hf2 := hf2.call hq9 (tk_w.no ht_a0 (by decide))
          refine lv_aload_n hx hb dX6_readBoth_39 rfl (lv_at hl 2 rfl) ?_
          have hk_3 : (3 : Int32).toInt = 3 := by decide
          refine tk_Vv (As := []) (rest := []) (ci := 6) ⟨hx, hb, hml, hown, hts⟩ hK hG hZ hS (k_X6_step l D cy ld t a0 3 ht_a0 (by omega) (by omega)) hf2 ⟨callB_of 0 hts (wl_in mw_494) rfl rfl rfl (htl _ mw_36) (htl _ mw_491) hd_yX6_step ⟨(Nat.le_of_ble_eq_true rfl), (Nat.le_of_ble_eq_true rfl)⟩, htl _ mw_492, htl _ mw_493⟩ ht_a0 (by decide) tk_no rfl (tk_w.pick [0] rfl) rfl hl.1 rfl (Nat.le_of_ble_eq_true rfl) dX6_readBoth_40 ⟨(Nat.le_of_ble_eq_true rfl), (Nat.le_of_ble_eq_true rfl)⟩ (fun H locs hpo hG hS hq9 => ?_)
          have hf187 := hpo
          refine lv_aload_n hx hb dX6_readBoth_43 rfl (lv_at hl 2 rfl) ?_
          refine tk_Vv (As := []) (rest := []) (ci := 6) ⟨hx, hb, hml, hown, hts⟩ hK hG hZ hS (k_X6_readPlain_3 l D cy ld t a0 ht_a0) hf187 ⟨callB_of 0 hts (wl_in mw_648) rfl rfl rfl (htl _ mw_36) (htl _ mw_645) hd_yX6_readPlain ⟨(Nat.le_of_ble_eq_true rfl), (Nat.le_of_ble_eq_true rfl)⟩, htl _ mw_646, htl _ mw_647⟩ ht_a0 (by decide) tk_no rfl (tk_w.pick [0, 1, 2] rfl) rfl hl.1 rfl (Nat.le_of_ble_eq_true rfl) dX6_readBoth_44 ⟨(Nat.le_of_ble_eq_true rfl), (Nat.le_of_ble_eq_true rfl)⟩ (fun H locs hpo hG hS hq9 => ?_)
          have hf189 := hpo
          refine lv_aload_n hx hb dX6_readBoth_47 rfl (lv_at hl 2 rfl) ?_
          refine lv_iload_n hx hb dX6_readBoth_48 rfl (lv_at hl 0 rfl) ?_
          refine tk_Vv (As := [.int v182]) (rest := []) (ci := 6) ⟨hx, hb, hml, hown, hts⟩ hK hG hZ hS (k_X6_landHere l D cy ld t a0 v182 ht_a0 (by omega) (by omega)) trivial ⟨callB_of 1 hts (wl_in mw_642) rfl rfl rfl (htl _ mw_36) (htl _ mw_639) hd_yX6_landHere ⟨(Nat.le_of_ble_eq_true rfl), (Nat.le_of_ble_eq_true rfl)⟩, htl _ mw_640, htl _ mw_641⟩ ht_a0 (by decide) tk_no rfl (tk_w.pick [1] rfl) rfl hl.1 rfl (Nat.le_of_ble_eq_true rfl) dX6_readBoth_49 ⟨(Nat.le_of_ble_eq_true rfl), (Nat.le_of_ble_eq_true rfl)⟩ (fun H locs hpo hG hS hq9 => ?_)
          have hf189 := hf189.call hq9 (tk_w.no ht_a0 (by decide))
          obtain ⟨v191, h_v191, e_v191⟩ := tk_inc v3 1 (by decide) (by omega) (by omega)
          refine lv_iinc (v := v191) (lv' := [(1, .int v191), (2, .int v182), (0, .ref a0)]) hx hb dX6_readBoth_52 hl (k := 1) rfl e_v191 (by decide) rfl (fun ls hl => ?_)
          refine lv_goto (tgt := 6) hx hb dX6_readBoth_55 (by decide) ?_
          exact ih_l170 v191 _ _ (by omega) (by omega) (by omega) hG hS hf189 _ (lv_sub hl [0, 2] rfl)
  have hk_0 : (0 : Int32).toInt = 0 := by decide
  exact hl170 401 0 _ _ (by omega) (by omega) (by omega) hG hS hf2 _ (lv_sub hl [0, 1] rfl)
set_option maxHeartbeats 4000000 in
set_option maxRecDepth 100000 in
theorem k_X6_readTest_3 (l : Launch) (D : va_G) (cy : Nat → ClassId) (ld : Nat → Nat) (t : tk_T) (a0 : Nat) (ht_a0 : t a0 = (7, 0, 0)) : Met l yX6_readTest (wl yX6_readTest cX6_readTest 3 none) ({ frames := 29, cells := 0, slots := 0, locals := 1960 }) (tp D cy ld t [] [.ref a0] (fun H => tk_f D H a0 6 9 (.int 3))) (tv D cy ld t [] (fun H => tk_f D H a0 6 9 (.int 3)) (tk_w t [(7, 0, 0), (20, 0, 0), (8, 12, 12)])) 0 0 (tk_w t [(7, 0, 0), (20, 0, 0), (8, 12, 12)]) := by
  refine tk_met (y := yX6_readTest) (cc := cX6_readTest) (maxL := 3) (ret := none) (av := [.ref a0]) _ _ (by decide) (Nat.le_of_ble_eq_true rfl) ?_
  intro p e s m args below meth c hx hb hr hml hts htl hown hlocks hK H locs hH hG hS hB hZ ls hl
  have hown : s.vm.findClass RX6 = some m.cls := hown
  have hl : lv_has ls 3 [(0, .ref a0)] := hl
  have hg_0 := hB
  refine lv_aload_n hx hb dX6_readTest_0 rfl (lv_at hl 0 rfl) ?_
  refine tk_Vv (As := []) (rest := []) (ci := 6) ⟨hx, hb, hml, hown, hts⟩ hK hG hZ hS (k_X6_readBoth_3 l D cy ld t a0 ht_a0) hg_0 ⟨callB_of 0 hts (wl_in mw_644) rfl rfl rfl (htl _ mw_36) (htl _ mw_636) hd_yX6_readBoth ⟨(Nat.le_of_ble_eq_true rfl), (Nat.le_of_ble_eq_true rfl)⟩, htl _ mw_637, htl _ mw_638⟩ ht_a0 (by decide) tk_no rfl (tk_w.pick [0, 1, 2] rfl) rfl hl.1 rfl (Nat.le_of_ble_eq_true rfl) dX6_readTest_1 ⟨(Nat.le_of_ble_eq_true rfl), (Nat.le_of_ble_eq_true rfl)⟩ (fun H locs hpo hG hS hq9 => ?_)
  have hf2 := hpo
  refine lv_iconst (v := 0) hx hb dX6_readTest_4 (by decide) ?_
  refine lv_istore_n (lv' := [(1, .int 0), (0, .ref a0)]) hx hb dX6_readTest_5 rfl hl (by decide) rfl (fun ls hl => ?_)
  have hl170 : ∀ (N_l170 : Nat) (v3 : Int32) (H : Heap) (locs : List Loc), 0 ≤ v3.toInt → v3.toInt ≤ 400 → (-1) * v3.toInt + 400 < (N_l170 : Int) → tk_G D cy ld t [] H → va_S (tk_w t [(7, 0, 0), (20, 0, 0), (8, 12, 12)]) s.heap H locs → tk_f D H a0 6 9 (.int 3) → ∀ ls : Array Slot, lv_has ls 3 [(1, .int v3), (0, .ref a0)] → W p l e ({ frames := 29, cells := 0, slots := 0, locals := 1960 }) s m args below meth c H locs 0 0 (MQ below (tv D cy ld t [] (fun H => tk_f D H a0 6 9 (.int 3)) (tk_w t [(7, 0, 0), (20, 0, 0), (8, 12, 12)])) args s 0 0 (tk_w t [(7, 0, 0), (20, 0, 0), (8, 12, 12)])) (F0 m 6 ls []) := by
    intro N_l170
    induction N_l170 with
    | zero => intro v3 H locs hq0_l170 hq1_l170 hm_l170 hG hS hf2 ls hl; exfalso; omega
    | succ N_l170 ih_l170 =>
      intro v3 H locs hq0_l170 hq1_l170 hm_l170 hG hS hf2 ls hl
      refine lv_iload_n hx hb dX6_readTest_6 rfl (lv_at hl 0 rfl) ?_
      refine lv_sipush (v := 400) hx hb dX6_readTest_7 (by decide) ?_
      refine lv_icmp_ge (tgt := 58) hx hb dX6_readTest_10 (by decide) (fun c9 => ?_) (fun c9 => ?_)
      · have hc171 : 400 ≤ v3.toInt := (fi_le (show (400 : Int32).toInt = 400 by decide) rfl).mp c9
        exact tk_vret hx hb hr hlocks (show tk_f D H a0 6 9 (.int 3) from hf2) hG hS dX6_readTest_58
      · have hc171 : ¬ (400 ≤ v3.toInt) := fun h9 => c9 ((fi_le (show (400 : Int32).toInt = 400 by decide) rfl).mpr h9)
        refine lv_aload_n hx hb dX6_readTest_13 rfl (lv_at hl 1 rfl) ?_
        refine va_ldcS hx hb hown hK.2.2.2.2.2.2.2.2.2.2.2.2.2.2 dX6_readTest_14 ?_
        refine tk_Vi (As := [.ref (ld 10)]) (rest := []) (ci := 6) ⟨hx, hb, hml, hown, hts⟩ hK hG hZ hS (k_X6_isWord_10 l D cy ld t a0 ht_a0) trivial ⟨callB_of 1 hts (wl_in mw_626) rfl rfl rfl (htl _ mw_36) (htl _ mw_623) hd_yX6_isWord ⟨(Nat.le_of_ble_eq_true rfl), (Nat.le_of_ble_eq_true rfl)⟩, htl _ mw_624, htl _ mw_625⟩ ht_a0 (by decide) tk_no rfl (tk_w.pick [] rfl) rfl hl.1 rfl (Nat.le_of_ble_eq_true rfl) dX6_readTest_16 ⟨(Nat.le_of_ble_eq_true rfl), (Nat.le_of_ble_eq_true rfl)⟩ (fun v172 H locs hpo hG hS hq9 => ?_)
        have hf2 := hf2.call hq9 tk_w.nil
        obtain ⟨hpo174, hpo175, hpo176, hpo177⟩ := hpo
        refine lv_if_eq (tgt := 58) hx hb dX6_readTest_19 (by decide) (fun c9 => ?_) (fun c9 => ?_)
        · have hc178 : v172.toInt = 0 := (fi_eq rfl (show (0 : Int32).toInt = 0 by decide)).mp c9
          exact tk_vret hx hb hr hlocks (show tk_f D H a0 6 9 (.int 3) from hf2) hG hS dX6_readTest_58
        · have hc178 : ¬ (v172.toInt = 0) := fun h9 => c9 ((fi_eq rfl (show (0 : Int32).toInt = 0 by decide)).mpr h9)
          refine lv_aload_n hx hb dX6_readTest_22 rfl (lv_at hl 1 rfl) ?_
          refine tk_get (ci := 6) (C := RX6) (T := TX6) (N := 11) (sp := (6, 8, 512, 12)) hx hb htl inX6 hown hK hG ht_a0 (by decide) tk_no rfl 0 (by decide) (htl _ mw_132) (fun _ h9 => h9) rfl dX6_readTest_23 (fun v9 hf179 hV9 => ?_)
          obtain ⟨b180, rfl, ht_b180⟩ := hV9
          have ht_b180 : t b180 = (8, 512, 12) := ht_b180
          refine tk_get (ci := 7) (C := RX7) (T := TX7) (N := 10) (sp := (4, 0, 0, 0)) hx hb htl inX7 hown hK hG ht_b180 (by decide) tk_no rfl 6 (by decide) (htl _ mw_513) (fun _ h9 => h9) rfl dX6_readTest_26 (fun v9 hf181 hV9 => ?_)
          obtain ⟨v182, rfl, (ha_v182 : 0 ≤ v182.toInt), (hb_v182 : v182.toInt ≤ 512)⟩ := hV9
          refine lv_istore_n (lv' := [(2, .int v182), (1, .int v3), (0, .ref a0)]) hx hb dX6_readTest_29 rfl hl (by decide) rfl (fun ls hl => ?_)
          refine lv_aload_n hx hb dX6_readTest_30 rfl (lv_at hl 2 rfl) ?_
          refine tk_get (ci := 6) (C := RX6) (T := TX6) (N := 11) (sp := (6, 8, 512, 12)) hx hb htl inX6 hown hK hG ht_a0 (by decide) tk_no rfl 0 (by decide) (htl _ mw_132) (fun _ h9 => h9) rfl dX6_readTest_31 (fun v9 hf183 hV9 => ?_)
          obtain ⟨b184, rfl, ht_b184⟩ := hV9
          have ht_b184 : t b184 = (8, 512, 12) := ht_b184
          refine lv_iconst (v := 5) hx hb dX6_readTest_34 (by decide) ?_
          refine lv_iconst (v := 0) hx hb dX6_readTest_35 (by decide) ?_
          have hk_5 : (5 : Int32).toInt = 5 := by decide
          have hk_0 : (0 : Int32).toInt = 0 := by decide
          refine tk_Vv (As := [.int 5, .int 0]) (rest := []) (ci := 7) ⟨hx, hb, hml, hown, hts⟩ hK hG hZ hS (k_X7_put l D cy ld t b184 5 0 ht_b184) trivial ⟨callB_of 2 hts (wl_in mw_594) rfl rfl rfl (htl _ mw_131) (htl _ mw_591) hd_yX7_put ⟨(Nat.le_of_ble_eq_true rfl), (Nat.le_of_ble_eq_true rfl)⟩, htl _ mw_592, htl _ mw_593⟩ ht_b184 (by decide) tk_no rfl (tk_w.pick [1, 2] rfl) rfl hl.1 rfl (Nat.le_of_ble_eq_true rfl) dX6_readTest_36 ⟨(Nat.le_of_ble_eq_true rfl), (Nat.le_of_ble_eq_true rfl)⟩ (fun H locs hpo hG hS hq9 => ?_)
          have hf2 := hf2.call hq9 (tk_w.no ht_a0 (by decide))
          refine lv_aload_n hx hb dX6_readTest_39 rfl (lv_at hl 2 rfl) ?_
          have hk_3 : (3 : Int32).toInt = 3 := by decide
          refine tk_Vv (As := []) (rest := []) (ci := 6) ⟨hx, hb, hml, hown, hts⟩ hK hG hZ hS (k_X6_step l D cy ld t a0 3 ht_a0 (by omega) (by omega)) hf2 ⟨callB_of 0 hts (wl_in mw_494) rfl rfl rfl (htl _ mw_36) (htl _ mw_491) hd_yX6_step ⟨(Nat.le_of_ble_eq_true rfl), (Nat.le_of_ble_eq_true rfl)⟩, htl _ mw_492, htl _ mw_493⟩ ht_a0 (by decide) tk_no rfl (tk_w.pick [0] rfl) rfl hl.1 rfl (Nat.le_of_ble_eq_true rfl) dX6_readTest_40 ⟨(Nat.le_of_ble_eq_true rfl), (Nat.le_of_ble_eq_true rfl)⟩ (fun H locs hpo hG hS hq9 => ?_)
          have hf187 := hpo
          refine lv_aload_n hx hb dX6_readTest_43 rfl (lv_at hl 2 rfl) ?_
          refine tk_Vv (As := []) (rest := []) (ci := 6) ⟨hx, hb, hml, hown, hts⟩ hK hG hZ hS (k_X6_readBoth_3 l D cy ld t a0 ht_a0) hf187 ⟨callB_of 0 hts (wl_in mw_644) rfl rfl rfl (htl _ mw_36) (htl _ mw_636) hd_yX6_readBoth ⟨(Nat.le_of_ble_eq_true rfl), (Nat.le_of_ble_eq_true rfl)⟩, htl _ mw_637, htl _ mw_638⟩ ht_a0 (by decide) tk_no rfl (tk_w.pick [0, 1, 2] rfl) rfl hl.1 rfl (Nat.le_of_ble_eq_true rfl) dX6_readTest_44 ⟨(Nat.le_of_ble_eq_true rfl), (Nat.le_of_ble_eq_true rfl)⟩ (fun H locs hpo hG hS hq9 => ?_)
          have hf189 := hpo
          refine lv_aload_n hx hb dX6_readTest_47 rfl (lv_at hl 2 rfl) ?_
          refine lv_iload_n hx hb dX6_readTest_48 rfl (lv_at hl 0 rfl) ?_
          refine tk_Vv (As := [.int v182]) (rest := []) (ci := 6) ⟨hx, hb, hml, hown, hts⟩ hK hG hZ hS (k_X6_landHere l D cy ld t a0 v182 ht_a0 (by omega) (by omega)) trivial ⟨callB_of 1 hts (wl_in mw_642) rfl rfl rfl (htl _ mw_36) (htl _ mw_639) hd_yX6_landHere ⟨(Nat.le_of_ble_eq_true rfl), (Nat.le_of_ble_eq_true rfl)⟩, htl _ mw_640, htl _ mw_641⟩ ht_a0 (by decide) tk_no rfl (tk_w.pick [1] rfl) rfl hl.1 rfl (Nat.le_of_ble_eq_true rfl) dX6_readTest_49 ⟨(Nat.le_of_ble_eq_true rfl), (Nat.le_of_ble_eq_true rfl)⟩ (fun H locs hpo hG hS hq9 => ?_)
          have hf189 := hf189.call hq9 (tk_w.no ht_a0 (by decide))
          obtain ⟨v191, h_v191, e_v191⟩ := tk_inc v3 1 (by decide) (by omega) (by omega)
          refine lv_iinc (v := v191) (lv' := [(1, .int v191), (2, .int v182), (0, .ref a0)]) hx hb dX6_readTest_52 hl (k := 1) rfl e_v191 (by decide) rfl (fun ls hl => ?_)
          refine lv_goto (tgt := 6) hx hb dX6_readTest_55 (by decide) ?_
          exact ih_l170 v191 _ _ (by omega) (by omega) (by omega) hG hS hf189 _ (lv_sub hl [0, 2] rfl)
  have hk_0 : (0 : Int32).toInt = 0 := by decide
  exact hl170 401 0 _ _ (by omega) (by omega) (by omega) hG hS hf2 _ (lv_sub hl [0, 1] rfl)
set_option maxHeartbeats 4000000 in
set_option maxRecDepth 100000 in
theorem k_X6_readPlain_2 (l : Launch) (D : va_G) (cy : Nat → ClassId) (ld : Nat → Nat) (t : tk_T) (a0 : Nat) (ht_a0 : t a0 = (7, 0, 0)) : Met l yX6_readPlain (wl yX6_readPlain cX6_readPlain 3 none) ({ frames := 30, cells := 0, slots := 0, locals := 2030 }) (tp D cy ld t [] [.ref a0] (fun H => tk_f D H a0 6 9 (.int 2))) (tv D cy ld t [] (fun H => tk_f D H a0 6 9 (.int 2)) (tk_w t [(7, 0, 0), (20, 0, 0), (8, 12, 12)])) 0 0 (tk_w t [(7, 0, 0), (20, 0, 0), (8, 12, 12)]) := by
  refine tk_met (y := yX6_readPlain) (cc := cX6_readPlain) (maxL := 3) (ret := none) (av := [.ref a0]) _ _ (by decide) (Nat.le_of_ble_eq_true rfl) ?_
  intro p e s m args below meth c hx hb hr hml hts htl hown hlocks hK H locs hH hG hS hB hZ ls hl
  have hown : s.vm.findClass RX6 = some m.cls := hown
  have hl : lv_has ls 3 [(0, .ref a0)] := hl
  have hg_0 := hB
  refine lv_iconst (v := 0) hx hb dX6_readPlain_0 (by decide) ?_
  refine lv_istore_n (lv' := [(1, .int 0), (0, .ref a0)]) hx hb dX6_readPlain_1 rfl hl (by decide) rfl (fun ls hl => ?_)
  refine lv_iconst (v := 0) hx hb dX6_readPlain_2 (by decide) ?_
  refine lv_istore_n (lv' := [(2, .int 0), (1, .int 0), (0, .ref a0)]) hx hb dX6_readPlain_3 rfl hl (by decide) rfl (fun ls hl => ?_)
  have hl975 : ∀ (N_l975 : Nat) (v1 : Int32) (v2 : Int32) (H : Heap) (locs : List Loc), 0 ≤ v2.toInt → v2.toInt ≤ 1 → 0 ≤ v1.toInt + (-1) * v2.toInt → v1.toInt ≤ 400 → (-1) * v1.toInt + 400 < (N_l975 : Int) → tk_G D cy ld t [] H → va_S (tk_w t [(7, 0, 0), (20, 0, 0), (8, 12, 12)]) s.heap H locs → tk_f D H a0 6 9 (.int 2) → ∀ ls : Array Slot, lv_has ls 3 [(2, .int v1), (1, .int v2), (0, .ref a0)] → W p l e ({ frames := 30, cells := 0, slots := 0, locals := 2030 }) s m args below meth c H locs 0 0 (MQ below (tv D cy ld t [] (fun H => tk_f D H a0 6 9 (.int 2)) (tk_w t [(7, 0, 0), (20, 0, 0), (8, 12, 12)])) args s 0 0 (tk_w t [(7, 0, 0), (20, 0, 0), (8, 12, 12)])) (F0 m 4 ls []) := by
    intro N_l975
    induction N_l975 with
    | zero => intro v1 v2 H locs hq0_l975 hq1_l975 hq2_l975 hq3_l975 hm_l975 hG hS hg_0 ls hl; exfalso; omega
    | succ N_l975 ih_l975 =>
      intro v1 v2 H locs hq0_l975 hq1_l975 hq2_l975 hq3_l975 hm_l975 hG hS hg_0 ls hl
      refine lv_iload_n hx hb dX6_readPlain_4 rfl (lv_at hl 0 rfl) ?_
      refine lv_sipush (v := 400) hx hb dX6_readPlain_5 (by decide) ?_
      have hj993 : ∀ (H : Heap) (locs : List Loc), tk_G D cy ld t [] H → va_S (tk_w t [(7, 0, 0), (20, 0, 0), (8, 12, 12)]) s.heap H locs → tk_f D H a0 6 9 (.int 2) → ∀ ls : Array Slot, lv_has ls 3 [(1, .int v2), (0, .ref a0)] → W p l e ({ frames := 30, cells := 0, slots := 0, locals := 2030 }) s m args below meth c H locs 0 0 (MQ below (tv D cy ld t [] (fun H => tk_f D H a0 6 9 (.int 2)) (tk_w t [(7, 0, 0), (20, 0, 0), (8, 12, 12)])) args s 0 0 (tk_w t [(7, 0, 0), (20, 0, 0), (8, 12, 12)])) (F0 m 40 ls []) := by
        intro H locs hG hS hg_0 ls hl
        refine lv_aload_n hx hb dX6_readPlain_40 rfl (lv_at hl 1 rfl) ?_
        refine lv_bipush (v := 40) hx hb dX6_readPlain_41 (by decide) ?_
        have hk_40 : (40 : Int32).toInt = 40 := by decide
        refine tk_Vi (As := [.int 40]) (rest := []) (ci := 6) ⟨hx, hb, hml, hown, hts⟩ hK hG hZ hS (k_X6_isSign l D cy ld t a0 40 ht_a0) trivial ⟨callB_of 1 hts (wl_in mw_590) rfl rfl rfl (htl _ mw_36) (htl _ mw_587) hd_yX6_isSign ⟨(Nat.le_of_ble_eq_true rfl), (Nat.le_of_ble_eq_true rfl)⟩, htl _ mw_588, htl _ mw_589⟩ ht_a0 (by decide) tk_no rfl (tk_w.pick [] rfl) rfl hl.1 rfl (Nat.le_of_ble_eq_true rfl) dX6_readPlain_43 ⟨(Nat.le_of_ble_eq_true rfl), (Nat.le_of_ble_eq_true rfl)⟩ (fun v994 H locs hpo hG hS hq9 => ?_)
        have hg_0 := hg_0.call hq9 tk_w.nil
        obtain ⟨hpo996, hpo997, hpo998, hpo999⟩ := hpo
        refine lv_if_eq (tgt := 79) hx hb dX6_readPlain_46 (by decide) (fun c9 => ?_) (fun c9 => ?_)
        · have hc1000 : v994.toInt = 0 := (fi_eq rfl (show (0 : Int32).toInt = 0 by decide)).mp c9
          refine lv_aload_n hx hb dX6_readPlain_79 rfl (lv_at hl 1 rfl) ?_
          refine tk_Vv (As := []) (rest := []) (ci := 6) ⟨hx, hb, hml, hown, hts⟩ hK hG hZ hS (k_X6_readSum_2 l D cy ld t a0 ht_a0) hg_0 ⟨callB_of 0 hts (wl_in mw_583) rfl rfl rfl (htl _ mw_36) (htl _ mw_580) hd_yX6_readSum ⟨(Nat.le_of_ble_eq_true rfl), (Nat.le_of_ble_eq_true rfl)⟩, htl _ mw_581, htl _ mw_582⟩ ht_a0 (by decide) tk_no rfl (tk_w.pick [0, 1, 2] rfl) rfl hl.1 rfl (Nat.le_of_ble_eq_true rfl) dX6_readPlain_80 ⟨(Nat.le_of_ble_eq_true rfl), (Nat.le_of_ble_eq_true rfl)⟩ (fun H locs hpo hG hS hq9 => ?_)
          have hf1002 := hpo
          refine lv_aload_n hx hb dX6_readPlain_83 rfl (lv_at hl 1 rfl) ?_
          refine lv_bipush (v := 60) hx hb dX6_readPlain_84 (by decide) ?_
          have hk_60 : (60 : Int32).toInt = 60 := by decide
          refine tk_Vi (As := [.int 60]) (rest := []) (ci := 6) ⟨hx, hb, hml, hown, hts⟩ hK hG hZ hS (k_X6_isSign l D cy ld t a0 60 ht_a0) trivial ⟨callB_of 1 hts (wl_in mw_590) rfl rfl rfl (htl _ mw_36) (htl _ mw_587) hd_yX6_isSign ⟨(Nat.le_of_ble_eq_true rfl), (Nat.le_of_ble_eq_true rfl)⟩, htl _ mw_588, htl _ mw_589⟩ ht_a0 (by decide) tk_no rfl (tk_w.pick [] rfl) rfl hl.1 rfl (Nat.le_of_ble_eq_true rfl) dX6_readPlain_86 ⟨(Nat.le_of_ble_eq_true rfl), (Nat.le_of_ble_eq_true rfl)⟩ (fun v1003 H locs hpo hG hS hq9 => ?_)
          have hf1002 := hf1002.call hq9 tk_w.nil
          obtain ⟨hpo1005, hpo1006, hpo1007, hpo1008⟩ := hpo
          have hj1021 : ∀ (v1019 : Int32) (H : Heap) (locs : List Loc), 11 ≤ v1019.toInt → v1019.toInt ≤ 13 → tk_G D cy ld t [] H → va_S (tk_w t [(7, 0, 0), (20, 0, 0), (8, 12, 12)]) s.heap H locs → tk_f D H a0 6 9 (.int 2) → ∀ ls : Array Slot, lv_has ls 3 [(1, .int v2), (0, .ref a0)] → W p l e ({ frames := 30, cells := 0, slots := 0, locals := 2030 }) s m args below meth c H locs 0 0 (MQ below (tv D cy ld t [] (fun H => tk_f D H a0 6 9 (.int 2)) (tk_w t [(7, 0, 0), (20, 0, 0), (8, 12, 12)])) args s 0 0 (tk_w t [(7, 0, 0), (20, 0, 0), (8, 12, 12)])) (F0 m 113 ls [.int v1019]) := by
            intro v1019 H locs hq0_j1021 hq1_j1021 hG hS hf1002 ls hl
            refine lv_istore_n (lv' := [(2, .int v1019), (1, .int v2), (0, .ref a0)]) hx hb dX6_readPlain_113 rfl hl (by decide) rfl (fun ls hl => ?_)
            refine lv_iload_n hx hb dX6_readPlain_114 rfl (lv_at hl 0 rfl) ?_
            refine lv_bipush (v := 13) hx hb dX6_readPlain_115 (by decide) ?_
            refine lv_icmp_ne (tgt := 134) hx hb dX6_readPlain_117 (by decide) (fun c9 => ?_) (fun c9 => ?_)
            · have hc1022 : ¬ (v1019.toInt = 13) := fun h9 => c9 ((fi_eq rfl (show (13 : Int32).toInt = 13 by decide)).mpr h9)
              refine lv_aload_n hx hb dX6_readPlain_134 rfl (lv_at hl 2 rfl) ?_
              have hk_2 : (2 : Int32).toInt = 2 := by decide
              refine tk_Vv (As := []) (rest := []) (ci := 6) ⟨hx, hb, hml, hown, hts⟩ hK hG hZ hS (k_X6_step l D cy ld t a0 2 ht_a0 (by omega) (by omega)) hf1002 ⟨callB_of 0 hts (wl_in mw_494) rfl rfl rfl (htl _ mw_36) (htl _ mw_491) hd_yX6_step ⟨(Nat.le_of_ble_eq_true rfl), (Nat.le_of_ble_eq_true rfl)⟩, htl _ mw_492, htl _ mw_493⟩ ht_a0 (by decide) tk_no rfl (tk_w.pick [0] rfl) rfl hl.1 rfl (Nat.le_of_ble_eq_true rfl) dX6_readPlain_135 ⟨(Nat.le_of_ble_eq_true rfl), (Nat.le_of_ble_eq_true rfl)⟩ (fun H locs hpo hG hS hq9 => ?_)
              have hf1024 := hpo
              refine lv_aload_n hx hb dX6_readPlain_138 rfl (lv_at hl 2 rfl) ?_
              refine tk_Vv (As := []) (rest := []) (ci := 6) ⟨hx, hb, hml, hown, hts⟩ hK hG hZ hS (k_X6_readSum_2 l D cy ld t a0 ht_a0) hf1024 ⟨callB_of 0 hts (wl_in mw_583) rfl rfl rfl (htl _ mw_36) (htl _ mw_580) hd_yX6_readSum ⟨(Nat.le_of_ble_eq_true rfl), (Nat.le_of_ble_eq_true rfl)⟩, htl _ mw_581, htl _ mw_582⟩ ht_a0 (by decide) tk_no rfl (tk_w.pick [0, 1, 2] rfl) rfl hl.1 rfl (Nat.le_of_ble_eq_true rfl) dX6_readPlain_139 ⟨(Nat.le_of_ble_eq_true rfl), (Nat.le_of_ble_eq_true rfl)⟩ (fun H locs hpo hG hS hq9 => ?_)
              have hf1026 := hpo
              refine lv_aload_n hx hb dX6_readPlain_142 rfl (lv_at hl 2 rfl) ?_
              refine tk_get (ci := 6) (C := RX6) (T := TX6) (N := 11) (sp := (6, 8, 512, 12)) hx hb htl inX6 hown hK hG ht_a0 (by decide) tk_no rfl 0 (by decide) (htl _ mw_132) (fun _ h9 => h9) rfl dX6_readPlain_143 (fun v9 hf1027 hV9 => ?_)
              obtain ⟨b1028, rfl, ht_b1028⟩ := hV9
              have ht_b1028 : t b1028 = (8, 512, 12) := ht_b1028
              refine lv_iload_n hx hb dX6_readPlain_146 rfl (lv_at hl 0 rfl) ?_
              refine lv_iconst (v := 0) hx hb dX6_readPlain_147 (by decide) ?_
              have hk_0 : (0 : Int32).toInt = 0 := by decide
              refine tk_Vv (As := [.int v1019, .int 0]) (rest := []) (ci := 7) ⟨hx, hb, hml, hown, hts⟩ hK hG hZ hS (k_X7_put l D cy ld t b1028 v1019 0 ht_b1028) trivial ⟨callB_of 2 hts (wl_in mw_594) rfl rfl rfl (htl _ mw_131) (htl _ mw_591) hd_yX7_put ⟨(Nat.le_of_ble_eq_true rfl), (Nat.le_of_ble_eq_true rfl)⟩, htl _ mw_592, htl _ mw_593⟩ ht_b1028 (by decide) tk_no rfl (tk_w.pick [1, 2] rfl) rfl hl.1 rfl (Nat.le_of_ble_eq_true rfl) dX6_readPlain_148 ⟨(Nat.le_of_ble_eq_true rfl), (Nat.le_of_ble_eq_true rfl)⟩ (fun H locs hpo hG hS hq9 => ?_)
              have hf1026 := hf1026.call hq9 (tk_w.no ht_a0 (by decide))
              refine lv_iload_n hx hb dX6_readPlain_151 rfl (lv_at hl 1 rfl) ?_
              refine lv_if_eq (tgt := 164) hx hb dX6_readPlain_152 (by decide) (fun c9 => ?_) (fun c9 => ?_)
              · have hc1030 : v2.toInt = 0 := (fi_eq rfl (show (0 : Int32).toInt = 0 by decide)).mp c9
                exact tk_vret hx hb hr hlocks (show tk_f D H a0 6 9 (.int 2) from hf1026) hG hS dX6_readPlain_164
              · have hc1030 : ¬ (v2.toInt = 0) := fun h9 => c9 ((fi_eq rfl (show (0 : Int32).toInt = 0 by decide)).mpr h9)
                refine lv_aload_n hx hb dX6_readPlain_155 rfl (lv_at hl 2 rfl) ?_
                refine tk_get (ci := 6) (C := RX6) (T := TX6) (N := 11) (sp := (6, 8, 512, 12)) hx hb htl inX6 hown hK hG ht_a0 (by decide) tk_no rfl 0 (by decide) (htl _ mw_132) (fun _ h9 => h9) rfl dX6_readPlain_156 (fun v9 hf1031 hV9 => ?_)
                obtain ⟨b1032, rfl, ht_b1032⟩ := hV9
                have ht_b1032 : t b1032 = (8, 512, 12) := ht_b1032
                refine lv_iconst (v := 3) hx hb dX6_readPlain_159 (by decide) ?_
                refine lv_iconst (v := 0) hx hb dX6_readPlain_160 (by decide) ?_
                have hk_3 : (3 : Int32).toInt = 3 := by decide
                have hk_0 : (0 : Int32).toInt = 0 := by decide
                refine tk_Vv (As := [.int 3, .int 0]) (rest := []) (ci := 7) ⟨hx, hb, hml, hown, hts⟩ hK hG hZ hS (k_X7_put l D cy ld t b1032 3 0 ht_b1032) trivial ⟨callB_of 2 hts (wl_in mw_594) rfl rfl rfl (htl _ mw_131) (htl _ mw_591) hd_yX7_put ⟨(Nat.le_of_ble_eq_true rfl), (Nat.le_of_ble_eq_true rfl)⟩, htl _ mw_592, htl _ mw_593⟩ ht_b1032 (by decide) tk_no rfl (tk_w.pick [1, 2] rfl) rfl hl.1 rfl (Nat.le_of_ble_eq_true rfl) dX6_readPlain_161 ⟨(Nat.le_of_ble_eq_true rfl), (Nat.le_of_ble_eq_true rfl)⟩ (fun H locs hpo hG hS hq9 => ?_)
                have hf1026 := hf1026.call hq9 (tk_w.no ht_a0 (by decide))
                exact tk_vret hx hb hr hlocks (show tk_f D H a0 6 9 (.int 2) from hf1026) hG hS dX6_readPlain_164
            · have hc1022 : v1019.toInt = 13 := (fi_eq rfl (show (13 : Int32).toInt = 13 by decide)).mp c9
              refine lv_aload_n hx hb dX6_readPlain_120 rfl (lv_at hl 2 rfl) ?_
              refine lv_bipush (v := 61) hx hb dX6_readPlain_121 (by decide) ?_
              have hk_61 : (61 : Int32).toInt = 61 := by decide
              refine tk_Vi (As := [.int 61]) (rest := []) (ci := 6) ⟨hx, hb, hml, hown, hts⟩ hK hG hZ hS (k_X6_isSign l D cy ld t a0 61 ht_a0) trivial ⟨callB_of 1 hts (wl_in mw_590) rfl rfl rfl (htl _ mw_36) (htl _ mw_587) hd_yX6_isSign ⟨(Nat.le_of_ble_eq_true rfl), (Nat.le_of_ble_eq_true rfl)⟩, htl _ mw_588, htl _ mw_589⟩ ht_a0 (by decide) tk_no rfl (tk_w.pick [] rfl) rfl hl.1 rfl (Nat.le_of_ble_eq_true rfl) dX6_readPlain_123 ⟨(Nat.le_of_ble_eq_true rfl), (Nat.le_of_ble_eq_true rfl)⟩ (fun v1034 H locs hpo hG hS hq9 => ?_)
              have hf1002 := hf1002.call hq9 tk_w.nil
              obtain ⟨hpo1036, hpo1037, hpo1038, hpo1039⟩ := hpo
              refine lv_if_ne (tgt := 134) hx hb dX6_readPlain_126 (by decide) (fun c9 => ?_) (fun c9 => ?_)
              · have hc1040 : ¬ (v1034.toInt = 0) := fun h9 => c9 ((fi_eq rfl (show (0 : Int32).toInt = 0 by decide)).mpr h9)
                refine lv_aload_n hx hb dX6_readPlain_134 rfl (lv_at hl 2 rfl) ?_
                have hk_2 : (2 : Int32).toInt = 2 := by decide
                refine tk_Vv (As := []) (rest := []) (ci := 6) ⟨hx, hb, hml, hown, hts⟩ hK hG hZ hS (k_X6_step l D cy ld t a0 2 ht_a0 (by omega) (by omega)) hf1002 ⟨callB_of 0 hts (wl_in mw_494) rfl rfl rfl (htl _ mw_36) (htl _ mw_491) hd_yX6_step ⟨(Nat.le_of_ble_eq_true rfl), (Nat.le_of_ble_eq_true rfl)⟩, htl _ mw_492, htl _ mw_493⟩ ht_a0 (by decide) tk_no rfl (tk_w.pick [0] rfl) rfl hl.1 rfl (Nat.le_of_ble_eq_true rfl) dX6_readPlain_135 ⟨(Nat.le_of_ble_eq_true rfl), (Nat.le_of_ble_eq_true rfl)⟩ (fun H locs hpo hG hS hq9 => ?_)
                have hf1042 := hpo
                refine lv_aload_n hx hb dX6_readPlain_138 rfl (lv_at hl 2 rfl) ?_
                refine tk_Vv (As := []) (rest := []) (ci := 6) ⟨hx, hb, hml, hown, hts⟩ hK hG hZ hS (k_X6_readSum_2 l D cy ld t a0 ht_a0) hf1042 ⟨callB_of 0 hts (wl_in mw_583) rfl rfl rfl (htl _ mw_36) (htl _ mw_580) hd_yX6_readSum ⟨(Nat.le_of_ble_eq_true rfl), (Nat.le_of_ble_eq_true rfl)⟩, htl _ mw_581, htl _ mw_582⟩ ht_a0 (by decide) tk_no rfl (tk_w.pick [0, 1, 2] rfl) rfl hl.1 rfl (Nat.le_of_ble_eq_true rfl) dX6_readPlain_139 ⟨(Nat.le_of_ble_eq_true rfl), (Nat.le_of_ble_eq_true rfl)⟩ (fun H locs hpo hG hS hq9 => ?_)
                have hf1044 := hpo
                refine lv_aload_n hx hb dX6_readPlain_142 rfl (lv_at hl 2 rfl) ?_
                refine tk_get (ci := 6) (C := RX6) (T := TX6) (N := 11) (sp := (6, 8, 512, 12)) hx hb htl inX6 hown hK hG ht_a0 (by decide) tk_no rfl 0 (by decide) (htl _ mw_132) (fun _ h9 => h9) rfl dX6_readPlain_143 (fun v9 hf1045 hV9 => ?_)
                obtain ⟨b1046, rfl, ht_b1046⟩ := hV9
                have ht_b1046 : t b1046 = (8, 512, 12) := ht_b1046
                refine lv_iload_n hx hb dX6_readPlain_146 rfl (lv_at hl 0 rfl) ?_
                refine lv_iconst (v := 0) hx hb dX6_readPlain_147 (by decide) ?_
                have hk_0 : (0 : Int32).toInt = 0 := by decide
                refine tk_Vv (As := [.int v1019, .int 0]) (rest := []) (ci := 7) ⟨hx, hb, hml, hown, hts⟩ hK hG hZ hS (k_X7_put l D cy ld t b1046 v1019 0 ht_b1046) trivial ⟨callB_of 2 hts (wl_in mw_594) rfl rfl rfl (htl _ mw_131) (htl _ mw_591) hd_yX7_put ⟨(Nat.le_of_ble_eq_true rfl), (Nat.le_of_ble_eq_true rfl)⟩, htl _ mw_592, htl _ mw_593⟩ ht_b1046 (by decide) tk_no rfl (tk_w.pick [1, 2] rfl) rfl hl.1 rfl (Nat.le_of_ble_eq_true rfl) dX6_readPlain_148 ⟨(Nat.le_of_ble_eq_true rfl), (Nat.le_of_ble_eq_true rfl)⟩ (fun H locs hpo hG hS hq9 => ?_)
                have hf1044 := hf1044.call hq9 (tk_w.no ht_a0 (by decide))
                refine lv_iload_n hx hb dX6_readPlain_151 rfl (lv_at hl 1 rfl) ?_
                refine lv_if_eq (tgt := 164) hx hb dX6_readPlain_152 (by decide) (fun c9 => ?_) (fun c9 => ?_)
                · have hc1048 : v2.toInt = 0 := (fi_eq rfl (show (0 : Int32).toInt = 0 by decide)).mp c9
                  exact tk_vret hx hb hr hlocks (show tk_f D H a0 6 9 (.int 2) from hf1044) hG hS dX6_readPlain_164
                · have hc1048 : ¬ (v2.toInt = 0) := fun h9 => c9 ((fi_eq rfl (show (0 : Int32).toInt = 0 by decide)).mpr h9)
                  refine lv_aload_n hx hb dX6_readPlain_155 rfl (lv_at hl 2 rfl) ?_
                  refine tk_get (ci := 6) (C := RX6) (T := TX6) (N := 11) (sp := (6, 8, 512, 12)) hx hb htl inX6 hown hK hG ht_a0 (by decide) tk_no rfl 0 (by decide) (htl _ mw_132) (fun _ h9 => h9) rfl dX6_readPlain_156 (fun v9 hf1049 hV9 => ?_)
                  obtain ⟨b1050, rfl, ht_b1050⟩ := hV9
                  have ht_b1050 : t b1050 = (8, 512, 12) := ht_b1050
                  refine lv_iconst (v := 3) hx hb dX6_readPlain_159 (by decide) ?_
                  refine lv_iconst (v := 0) hx hb dX6_readPlain_160 (by decide) ?_
                  have hk_3 : (3 : Int32).toInt = 3 := by decide
                  have hk_0 : (0 : Int32).toInt = 0 := by decide
                  refine tk_Vv (As := [.int 3, .int 0]) (rest := []) (ci := 7) ⟨hx, hb, hml, hown, hts⟩ hK hG hZ hS (k_X7_put l D cy ld t b1050 3 0 ht_b1050) trivial ⟨callB_of 2 hts (wl_in mw_594) rfl rfl rfl (htl _ mw_131) (htl _ mw_591) hd_yX7_put ⟨(Nat.le_of_ble_eq_true rfl), (Nat.le_of_ble_eq_true rfl)⟩, htl _ mw_592, htl _ mw_593⟩ ht_b1050 (by decide) tk_no rfl (tk_w.pick [1, 2] rfl) rfl hl.1 rfl (Nat.le_of_ble_eq_true rfl) dX6_readPlain_161 ⟨(Nat.le_of_ble_eq_true rfl), (Nat.le_of_ble_eq_true rfl)⟩ (fun H locs hpo hG hS hq9 => ?_)
                  have hf1044 := hf1044.call hq9 (tk_w.no ht_a0 (by decide))
                  exact tk_vret hx hb hr hlocks (show tk_f D H a0 6 9 (.int 2) from hf1044) hG hS dX6_readPlain_164
              · have hc1040 : v1034.toInt = 0 := (fi_eq rfl (show (0 : Int32).toInt = 0 by decide)).mp c9
                refine lv_aload_n hx hb dX6_readPlain_129 rfl (lv_at hl 2 rfl) ?_
                have hk_2 : (2 : Int32).toInt = 2 := by decide
                refine tk_Vv (As := []) (rest := []) (ci := 6) ⟨hx, hb, hml, hown, hts⟩ hK hG hZ hS (k_X6_fail l D cy ld t a0 2 ht_a0 (by omega) (by omega)) hf1002 ⟨callB_of 0 hts (wl_in mw_507) rfl rfl rfl (htl _ mw_36) (htl _ mw_504) hd_yX6_fail ⟨(Nat.le_of_ble_eq_true rfl), (Nat.le_of_ble_eq_true rfl)⟩, htl _ mw_505, htl _ mw_506⟩ ht_a0 (by decide) tk_no rfl (tk_w.pick [0] rfl) rfl hl.1 rfl (Nat.le_of_ble_eq_true rfl) dX6_readPlain_130 ⟨(Nat.le_of_ble_eq_true rfl), (Nat.le_of_ble_eq_true rfl)⟩ (fun H locs hpo hG hS hq9 => ?_)
                have hf1053 := hpo
                exact tk_vret hx hb hr hlocks (show tk_f D H a0 6 9 (.int 2) from hf1053) hG hS dX6_readPlain_133
          refine lv_if_eq (tgt := 97) hx hb dX6_readPlain_89 (by decide) (fun c9 => ?_) (fun c9 => ?_)
          · have hc1009 : v1003.toInt = 0 := (fi_eq rfl (show (0 : Int32).toInt = 0 by decide)).mp c9
            refine lv_aload_n hx hb dX6_readPlain_97 rfl (lv_at hl 1 rfl) ?_
            refine lv_bipush (v := 62) hx hb dX6_readPlain_98 (by decide) ?_
            have hk_62 : (62 : Int32).toInt = 62 := by decide
            refine tk_Vi (As := [.int 62]) (rest := []) (ci := 6) ⟨hx, hb, hml, hown, hts⟩ hK hG hZ hS (k_X6_isSign l D cy ld t a0 62 ht_a0) trivial ⟨callB_of 1 hts (wl_in mw_590) rfl rfl rfl (htl _ mw_36) (htl _ mw_587) hd_yX6_isSign ⟨(Nat.le_of_ble_eq_true rfl), (Nat.le_of_ble_eq_true rfl)⟩, htl _ mw_588, htl _ mw_589⟩ ht_a0 (by decide) tk_no rfl (tk_w.pick [] rfl) rfl hl.1 rfl (Nat.le_of_ble_eq_true rfl) dX6_readPlain_100 ⟨(Nat.le_of_ble_eq_true rfl), (Nat.le_of_ble_eq_true rfl)⟩ (fun v1054 H locs hpo hG hS hq9 => ?_)
            have hf1002 := hf1002.call hq9 tk_w.nil
            obtain ⟨hpo1056, hpo1057, hpo1058, hpo1059⟩ := hpo
            refine lv_if_eq (tgt := 111) hx hb dX6_readPlain_103 (by decide) (fun c9 => ?_) (fun c9 => ?_)
            · have hc1060 : v1054.toInt = 0 := (fi_eq rfl (show (0 : Int32).toInt = 0 by decide)).mp c9
              refine lv_bipush (v := 13) hx hb dX6_readPlain_111 (by decide) ?_
              have hk_13 : (13 : Int32).toInt = 13 := by decide
              exact hj1021 13 _ _ (by omega) (by omega) hG hS hf1002 _ (lv_sub hl [0, 1] rfl)
            · have hc1060 : ¬ (v1054.toInt = 0) := fun h9 => c9 ((fi_eq rfl (show (0 : Int32).toInt = 0 by decide)).mpr h9)
              refine lv_bipush (v := 12) hx hb dX6_readPlain_106 (by decide) ?_
              refine lv_goto (tgt := 113) hx hb dX6_readPlain_108 (by decide) ?_
              have hk_12 : (12 : Int32).toInt = 12 := by decide
              exact hj1021 12 _ _ (by omega) (by omega) hG hS hf1002 _ (lv_sub hl [0, 1] rfl)
          · have hc1009 : ¬ (v1003.toInt = 0) := fun h9 => c9 ((fi_eq rfl (show (0 : Int32).toInt = 0 by decide)).mpr h9)
            refine lv_bipush (v := 11) hx hb dX6_readPlain_92 (by decide) ?_
            refine lv_goto (tgt := 113) hx hb dX6_readPlain_94 (by decide) ?_
            have hk_11 : (11 : Int32).toInt = 11 := by decide
            exact hj1021 11 _ _ (by omega) (by omega) hG hS hf1002 _ (lv_sub hl [0, 1] rfl)
        · have hc1000 : ¬ (v994.toInt = 0) := fun h9 => c9 ((fi_eq rfl (show (0 : Int32).toInt = 0 by decide)).mpr h9)
          refine lv_aload_n hx hb dX6_readPlain_49 rfl (lv_at hl 1 rfl) ?_
          refine tk_Vi (As := []) (rest := []) (ci := 6) ⟨hx, hb, hml, hown, hts⟩ hK hG hZ hS (k_X6_goDeeper_2 l D cy ld t a0 ht_a0) hg_0 ⟨callB_of 0 hts (wl_in mw_599) rfl rfl rfl (htl _ mw_36) (htl _ mw_596) hd_yX6_goDeeper ⟨(Nat.le_of_ble_eq_true rfl), (Nat.le_of_ble_eq_true rfl)⟩, htl _ mw_597, htl _ mw_598⟩ ht_a0 (by decide) tk_no rfl (tk_w.pick [0] rfl) rfl hl.1 rfl (Nat.le_of_ble_eq_true rfl) dX6_readPlain_50 ⟨(Nat.le_of_ble_eq_true rfl), (Nat.le_of_ble_eq_true rfl)⟩ (fun v1061 H locs hpo hG hS hq9 => ?_)
          obtain ⟨hpo1063, hpo1064, hpo1065, hf1066⟩ := hpo
          obtain rfl : v1061 = 1 := (fi_eq (show v1061.toInt = 1 by omega) (by decide)).mpr rfl
          refine lv_if_eq (tgt := 151) hx hb dX6_readPlain_53 (by decide) (fun c9 => absurd c9 (by decide)) (fun _ => ?_)
          refine lv_aload_n hx hb dX6_readPlain_56 rfl (lv_at hl 1 rfl) ?_
          refine tk_Vv (As := []) (rest := []) (ci := 6) ⟨hx, hb, hml, hown, hts⟩ hK hG hZ hS (k_X6_readTest_3 l D cy ld t a0 ht_a0) hf1066 ⟨callB_of 0 hts (wl_in mw_635) rfl rfl rfl (htl _ mw_36) (htl _ mw_632) hd_yX6_readTest ⟨(Nat.le_of_ble_eq_true rfl), (Nat.le_of_ble_eq_true rfl)⟩, htl _ mw_633, htl _ mw_634⟩ ht_a0 (by decide) tk_no rfl (tk_w.pick [0, 1, 2] rfl) rfl hl.1 rfl (Nat.le_of_ble_eq_true rfl) dX6_readPlain_57 ⟨(Nat.le_of_ble_eq_true rfl), (Nat.le_of_ble_eq_true rfl)⟩ (fun H locs hpo hG hS hq9 => ?_)
          have hf1068 := hpo
          refine lv_aload_n hx hb dX6_readPlain_60 rfl (lv_at hl 1 rfl) ?_
          refine lv_bipush (v := 41) hx hb dX6_readPlain_61 (by decide) ?_
          have hk_41 : (41 : Int32).toInt = 41 := by decide
          have hk_3 : (3 : Int32).toInt = 3 := by decide
          refine tk_Vv (As := [.int 41]) (rest := []) (ci := 6) ⟨hx, hb, hml, hown, hts⟩ hK hG hZ hS (k_X6_take l D cy ld t a0 41 3 ht_a0 (by omega) (by omega)) hf1068 ⟨callB_of 1 hts (wl_in mw_603) rfl rfl rfl (htl _ mw_36) (htl _ mw_600) hd_yX6_take ⟨(Nat.le_of_ble_eq_true rfl), (Nat.le_of_ble_eq_true rfl)⟩, htl _ mw_601, htl _ mw_602⟩ ht_a0 (by decide) tk_no rfl (tk_w.pick [0] rfl) rfl hl.1 rfl (Nat.le_of_ble_eq_true rfl) dX6_readPlain_63 ⟨(Nat.le_of_ble_eq_true rfl), (Nat.le_of_ble_eq_true rfl)⟩ (fun H locs hpo hG hS hq9 => ?_)
          have hf1070 := hpo
          refine lv_aload_n hx hb dX6_readPlain_66 rfl (lv_at hl 1 rfl) ?_
          refine lv_dup hx hb dX6_readPlain_67 rfl ?_
          refine tk_getk (ci := 6) (C := RX6) (T := TX6) (N := 11) (sp := (0, 0, 8, 0)) hx hb htl inX6 hown hK hG ht_a0 (by decide) tk_no rfl 9 (by decide) (htl _ mw_480) (fun _ h9 => h9) rfl hf1070 dX6_readPlain_68 ?_
          refine lv_iconst (v := 1) hx hb dX6_readPlain_71 (by decide) ?_
          refine lv_isub hx hb dX6_readPlain_72 ?_
          refine fx_ti (v := 2) (by decide) ?_
          refine tk_put (ci := 6) (v := .int 2) (ty := .int) (C := RX6) (T := TX6) (N := 11) (sp := (0, 0, 8, 0)) hx hb htl inX6 tyX6 tyX6_ok nmX6 hown hK hG hS ht_a0 (by decide) tk_no rfl 9 (by decide) (htl _ mw_480) (fun _ h9 => h9) rfl (tyX6_ok 9 (by decide)) rfl rfl rfl (tk_V0 (by decide) (by decide)) (fun _ h => tk_X7 h (by decide) (by decide)) (tk_w.of ht_a0 (by decide) (List.mem_of_getElem? (i := 0) rfl) (Nat.le_refl _) (Nat.le_refl _)) dX6_readPlain_73 (fun H locs hG hS hf1071 hq9 hj9 => ?_)
          refine lv_goto (tgt := 151) hx hb dX6_readPlain_76 (by decide) ?_
          refine lv_iload_n hx hb dX6_readPlain_151 rfl (lv_at hl 0 rfl) ?_
          refine lv_if_eq (tgt := 164) hx hb dX6_readPlain_152 (by decide) (fun c9 => ?_) (fun c9 => ?_)
          · have hc1073 : v2.toInt = 0 := (fi_eq rfl (show (0 : Int32).toInt = 0 by decide)).mp c9
            exact tk_vret hx hb hr hlocks (show tk_f D H a0 6 9 (.int 2) from hf1071) hG hS dX6_readPlain_164
          · have hc1073 : ¬ (v2.toInt = 0) := fun h9 => c9 ((fi_eq rfl (show (0 : Int32).toInt = 0 by decide)).mpr h9)
            refine lv_aload_n hx hb dX6_readPlain_155 rfl (lv_at hl 1 rfl) ?_
            refine tk_get (ci := 6) (C := RX6) (T := TX6) (N := 11) (sp := (6, 8, 512, 12)) hx hb htl inX6 hown hK hG ht_a0 (by decide) tk_no rfl 0 (by decide) (htl _ mw_132) (fun _ h9 => h9) rfl dX6_readPlain_156 (fun v9 hf1074 hV9 => ?_)
            obtain ⟨b1075, rfl, ht_b1075⟩ := hV9
            have ht_b1075 : t b1075 = (8, 512, 12) := ht_b1075
            refine lv_iconst (v := 3) hx hb dX6_readPlain_159 (by decide) ?_
            refine lv_iconst (v := 0) hx hb dX6_readPlain_160 (by decide) ?_
            have hk_3 : (3 : Int32).toInt = 3 := by decide
            have hk_0 : (0 : Int32).toInt = 0 := by decide
            refine tk_Vv (As := [.int 3, .int 0]) (rest := []) (ci := 7) ⟨hx, hb, hml, hown, hts⟩ hK hG hZ hS (k_X7_put l D cy ld t b1075 3 0 ht_b1075) trivial ⟨callB_of 2 hts (wl_in mw_594) rfl rfl rfl (htl _ mw_131) (htl _ mw_591) hd_yX7_put ⟨(Nat.le_of_ble_eq_true rfl), (Nat.le_of_ble_eq_true rfl)⟩, htl _ mw_592, htl _ mw_593⟩ ht_b1075 (by decide) tk_no rfl (tk_w.pick [1, 2] rfl) rfl hl.1 rfl (Nat.le_of_ble_eq_true rfl) dX6_readPlain_161 ⟨(Nat.le_of_ble_eq_true rfl), (Nat.le_of_ble_eq_true rfl)⟩ (fun H locs hpo hG hS hq9 => ?_)
            have hf1071 := hf1071.call hq9 (tk_w.no ht_a0 (by decide))
            exact tk_vret hx hb hr hlocks (show tk_f D H a0 6 9 (.int 2) from hf1071) hG hS dX6_readPlain_164
      refine lv_icmp_ge (tgt := 40) hx hb dX6_readPlain_8 (by decide) (fun c9 => ?_) (fun c9 => ?_)
      · have hc976 : 400 ≤ v1.toInt := (fi_le (show (400 : Int32).toInt = 400 by decide) rfl).mp c9
        exact hj993 _ _ hG hS hg_0 _ (lv_sub hl [1, 2] rfl)
      · have hc976 : ¬ (400 ≤ v1.toInt) := fun h9 => c9 ((fi_le (show (400 : Int32).toInt = 400 by decide) rfl).mpr h9)
        refine lv_aload_n hx hb dX6_readPlain_11 rfl (lv_at hl 2 rfl) ?_
        refine va_ldcS hx hb hown hK.2.2.2.2.2.2.2.2.2.2.2.2.1 dX6_readPlain_12 ?_
        refine tk_Vi (As := [.ref (ld 8)]) (rest := []) (ci := 6) ⟨hx, hb, hml, hown, hts⟩ hK hG hZ hS (k_X6_isWord_8 l D cy ld t a0 ht_a0) trivial ⟨callB_of 1 hts (wl_in mw_626) rfl rfl rfl (htl _ mw_36) (htl _ mw_623) hd_yX6_isWord ⟨(Nat.le_of_ble_eq_true rfl), (Nat.le_of_ble_eq_true rfl)⟩, htl _ mw_624, htl _ mw_625⟩ ht_a0 (by decide) tk_no rfl (tk_w.pick [] rfl) rfl hl.1 rfl (Nat.le_of_ble_eq_true rfl) dX6_readPlain_14 ⟨(Nat.le_of_ble_eq_true rfl), (Nat.le_of_ble_eq_true rfl)⟩ (fun v1077 H locs hpo hG hS hq9 => ?_)
        have hg_0 := hg_0.call hq9 tk_w.nil
        obtain ⟨hpo1079, hpo1080, hpo1081, hpo1082⟩ := hpo
        refine lv_if_eq (tgt := 40) hx hb dX6_readPlain_17 (by decide) (fun c9 => ?_) (fun c9 => ?_)
        · have hc1083 : v1077.toInt = 0 := (fi_eq rfl (show (0 : Int32).toInt = 0 by decide)).mp c9
          exact hj993 _ _ hG hS hg_0 _ (lv_sub hl [1, 2] rfl)
        · have hc1083 : ¬ (v1077.toInt = 0) := fun h9 => c9 ((fi_eq rfl (show (0 : Int32).toInt = 0 by decide)).mpr h9)
          refine lv_iload_n hx hb dX6_readPlain_20 rfl (lv_at hl 1 rfl) ?_
          have hj1087 : ∀ (v1086 : Int32), 0 ≤ v1086.toInt → v1086.toInt ≤ 1 → ∀ ls : Array Slot, lv_has ls 3 [(2, .int v1), (0, .ref a0)] → W p l e ({ frames := 30, cells := 0, slots := 0, locals := 2030 }) s m args below meth c H locs 0 0 (MQ below (tv D cy ld t [] (fun H => tk_f D H a0 6 9 (.int 2)) (tk_w t [(7, 0, 0), (20, 0, 0), (8, 12, 12)])) args s 0 0 (tk_w t [(7, 0, 0), (20, 0, 0), (8, 12, 12)])) (F0 m 29 ls [.int v1086]) := by
            intro v1086 hq0_j1087 hq1_j1087 ls hl
            refine lv_istore_n (lv' := [(1, .int v1086), (2, .int v1), (0, .ref a0)]) hx hb dX6_readPlain_29 rfl hl (by decide) rfl (fun ls hl => ?_)
            refine lv_aload_n hx hb dX6_readPlain_30 rfl (lv_at hl 2 rfl) ?_
            have hk_2 : (2 : Int32).toInt = 2 := by decide
            refine tk_Vv (As := []) (rest := []) (ci := 6) ⟨hx, hb, hml, hown, hts⟩ hK hG hZ hS (k_X6_step l D cy ld t a0 2 ht_a0 (by omega) (by omega)) hg_0 ⟨callB_of 0 hts (wl_in mw_494) rfl rfl rfl (htl _ mw_36) (htl _ mw_491) hd_yX6_step ⟨(Nat.le_of_ble_eq_true rfl), (Nat.le_of_ble_eq_true rfl)⟩, htl _ mw_492, htl _ mw_493⟩ ht_a0 (by decide) tk_no rfl (tk_w.pick [0] rfl) rfl hl.1 rfl (Nat.le_of_ble_eq_true rfl) dX6_readPlain_31 ⟨(Nat.le_of_ble_eq_true rfl), (Nat.le_of_ble_eq_true rfl)⟩ (fun H locs hpo hG hS hq9 => ?_)
            have hf1089 := hpo
            obtain ⟨v1090, h_v1090, e_v1090⟩ := tk_inc v1 1 (by decide) (by omega) (by omega)
            refine lv_iinc (v := v1090) (lv' := [(2, .int v1090), (1, .int v1086), (0, .ref a0)]) hx hb dX6_readPlain_34 hl (k := 1) rfl e_v1090 (by decide) rfl (fun ls hl => ?_)
            refine lv_goto (tgt := 4) hx hb dX6_readPlain_37 (by decide) ?_
            exact ih_l975 v1090 v1086 _ _ (by omega) (by omega) (by omega) (by omega) (by omega) hG hS hf1089 _ (lv_sub hl [0, 1, 2] rfl)
          refine lv_if_ne (tgt := 28) hx hb dX6_readPlain_21 (by decide) (fun c9 => ?_) (fun c9 => ?_)
          · have hc1084 : ¬ (v2.toInt = 0) := fun h9 => c9 ((fi_eq rfl (show (0 : Int32).toInt = 0 by decide)).mpr h9)
            refine lv_iconst (v := 0) hx hb dX6_readPlain_28 (by decide) ?_
            have hk_0 : (0 : Int32).toInt = 0 := by decide
            exact hj1087 0 (by omega) (by omega) _ (lv_sub hl [0, 2] rfl)
          · have hc1084 : v2.toInt = 0 := (fi_eq rfl (show (0 : Int32).toInt = 0 by decide)).mp c9
            refine lv_iconst (v := 1) hx hb dX6_readPlain_24 (by decide) ?_
            refine lv_goto (tgt := 29) hx hb dX6_readPlain_25 (by decide) ?_
            have hk_1 : (1 : Int32).toInt = 1 := by decide
            exact hj1087 1 (by omega) (by omega) _ (lv_sub hl [0, 2] rfl)
  have hk_0 : (0 : Int32).toInt = 0 := by decide
  have hk_0 : (0 : Int32).toInt = 0 := by decide
  exact hl975 401 0 0 _ _ (by omega) (by omega) (by omega) (by omega) (by omega) hG hS hg_0 _ (lv_sub hl [0, 1, 2] rfl)
