set_option maxHeartbeats 4000000 in
set_option maxRecDepth 100000 in
theorem k_X6_readTerm_3 (l : Launch) (D : va_G) (cy : Nat → ClassId) (ld : Nat → Nat) (t : tk_T) (a0 : Nat) (ht_a0 : t a0 = (7, 0, 0)) : Met l yX6_readTerm (wl yX6_readTerm cX6_readTerm 3 none) ({ frames := 25, cells := 0, slots := 0, locals := 1680 }) (tp D cy ld t [] [.ref a0] (fun H => tk_f D H a0 6 9 (.int 3))) (tv D cy ld t [] (fun H => tk_f D H a0 6 9 (.int 3)) (tk_w t [(7, 0, 0), (20, 0, 0), (8, 12, 12)])) 0 0 (tk_w t [(7, 0, 0), (20, 0, 0), (8, 12, 12)]) := by
  refine tk_met (y := yX6_readTerm) (cc := cX6_readTerm) (maxL := 3) (ret := none) (av := [.ref a0]) _ _ (by decide) (Nat.le_of_ble_eq_true rfl) ?_
  intro p e s m args below meth c hx hb hr hml hts htl hown hlocks hK H locs hH hG hS hB hZ ls hl
  have hown : s.vm.findClass RX6 = some m.cls := hown
  have hl : lv_has ls 3 [(0, .ref a0)] := hl
  have hg_0 := hB
  refine lv_aload_n hx hb dX6_readTerm_0 rfl (lv_at hl 0 rfl) ?_
  refine tk_Vv (As := []) (rest := []) (ci := 6) ⟨hx, hb, hml, hown, hts⟩ hK hG hZ hS (k_X6_readPart_3 l D cy ld t a0 ht_a0) hg_0 ⟨callB_of 0 hts (wl_in mw_595) rfl rfl rfl (htl _ mw_36) (htl _ mw_616) hd_yX6_readPart ⟨(Nat.le_of_ble_eq_true rfl), (Nat.le_of_ble_eq_true rfl)⟩, htl _ mw_617, htl _ mw_618⟩ ht_a0 (by decide) tk_no rfl (tk_w.pick [0, 1, 2] rfl) rfl hl.1 rfl (Nat.le_of_ble_eq_true rfl) dX6_readTerm_1 ⟨(Nat.le_of_ble_eq_true rfl), (Nat.le_of_ble_eq_true rfl)⟩ (fun H locs hpo hG hS hq9 => ?_)
  have hf2 := hpo
  refine lv_iconst (v := 0) hx hb dX6_readTerm_4 (by decide) ?_
  refine lv_istore_n (lv' := [(1, .int 0), (0, .ref a0)]) hx hb dX6_readTerm_5 rfl hl (by decide) rfl (fun ls hl => ?_)
  have hl994 : ∀ (N_l994 : Nat) (v3 : Int32) (H : Heap) (locs : List Loc), 0 ≤ v3.toInt → v3.toInt ≤ 400 → (-1) * v3.toInt + 400 < (N_l994 : Int) → tk_G D cy ld t [] H → va_S (tk_w t [(7, 0, 0), (20, 0, 0), (8, 12, 12)]) s.heap H locs → tk_f D H a0 6 9 (.int 3) → ∀ ls : Array Slot, lv_has ls 3 [(1, .int v3), (0, .ref a0)] → W p l e ({ frames := 25, cells := 0, slots := 0, locals := 1680 }) s m args below meth c H locs 0 0 (MQ below (tv D cy ld t [] (fun H => tk_f D H a0 6 9 (.int 3)) (tk_w t [(7, 0, 0), (20, 0, 0), (8, 12, 12)])) args s 0 0 (tk_w t [(7, 0, 0), (20, 0, 0), (8, 12, 12)])) (F0 m 6 ls []) := by
    intro N_l994
    induction N_l994 with
    | zero => intro v3 H locs hq0_l994 hq1_l994 hm_l994 hG hS hf2 ls hl; exfalso; omega
    | succ N_l994 ih_l994 =>
      intro v3 H locs hq0_l994 hq1_l994 hm_l994 hG hS hf2 ls hl
      refine lv_iload_n hx hb dX6_readTerm_6 rfl (lv_at hl 0 rfl) ?_
      refine lv_sipush (v := 400) hx hb dX6_readTerm_7 (by decide) ?_
      refine lv_icmp_ge (tgt := 94) hx hb dX6_readTerm_10 (by decide) (fun c9 => ?_) (fun c9 => ?_)
      · have hc995 : 400 ≤ v3.toInt := (fi_le (show (400 : Int32).toInt = 400 by decide) rfl).mp c9
        exact tk_vret hx hb hr hlocks (show tk_f D H a0 6 9 (.int 3) from hf2) hG hS dX6_readTerm_94
      · have hc995 : ¬ (400 ≤ v3.toInt) := fun h9 => c9 ((fi_le (show (400 : Int32).toInt = 400 by decide) rfl).mpr h9)
        refine lv_aload_n hx hb dX6_readTerm_13 rfl (lv_at hl 1 rfl) ?_
        refine lv_bipush (v := 42) hx hb dX6_readTerm_14 (by decide) ?_
        have hk_42 : (42 : Int32).toInt = 42 := by decide
        refine tk_Vi (As := [.int 42]) (rest := []) (ci := 6) ⟨hx, hb, hml, hown, hts⟩ hK hG hZ hS (k_X6_isSign l D cy ld t a0 42 ht_a0) trivial ⟨callB_of 1 hts (wl_in mw_590) rfl rfl rfl (htl _ mw_36) (htl _ mw_587) hd_yX6_isSign ⟨(Nat.le_of_ble_eq_true rfl), (Nat.le_of_ble_eq_true rfl)⟩, htl _ mw_588, htl _ mw_589⟩ ht_a0 (by decide) tk_no rfl (tk_w.pick [] rfl) rfl hl.1 rfl (Nat.le_of_ble_eq_true rfl) dX6_readTerm_16 ⟨(Nat.le_of_ble_eq_true rfl), (Nat.le_of_ble_eq_true rfl)⟩ (fun v996 H locs hpo hG hS hq9 => ?_)
        have hf2 := hf2.call hq9 tk_w.nil
        obtain ⟨hpo998, hpo999, hpo1000, hpo1001⟩ := hpo
        refine lv_if_ne (tgt := 40) hx hb dX6_readTerm_19 (by decide) (fun c9 => ?_) (fun c9 => ?_)
        · have hc1002 : ¬ (v996.toInt = 0) := fun h9 => c9 ((fi_eq rfl (show (0 : Int32).toInt = 0 by decide)).mpr h9)
          refine lv_aload_n hx hb dX6_readTerm_40 rfl (lv_at hl 1 rfl) ?_
          refine lv_bipush (v := 42) hx hb dX6_readTerm_41 (by decide) ?_
          have hk_42 : (42 : Int32).toInt = 42 := by decide
          refine tk_Vi (As := [.int 42]) (rest := []) (ci := 6) ⟨hx, hb, hml, hown, hts⟩ hK hG hZ hS (k_X6_isSign l D cy ld t a0 42 ht_a0) trivial ⟨callB_of 1 hts (wl_in mw_590) rfl rfl rfl (htl _ mw_36) (htl _ mw_587) hd_yX6_isSign ⟨(Nat.le_of_ble_eq_true rfl), (Nat.le_of_ble_eq_true rfl)⟩, htl _ mw_588, htl _ mw_589⟩ ht_a0 (by decide) tk_no rfl (tk_w.pick [] rfl) rfl hl.1 rfl (Nat.le_of_ble_eq_true rfl) dX6_readTerm_43 ⟨(Nat.le_of_ble_eq_true rfl), (Nat.le_of_ble_eq_true rfl)⟩ (fun v1003 H locs hpo hG hS hq9 => ?_)
          have hf2 := hf2.call hq9 tk_w.nil
          obtain ⟨hpo1005, hpo1006, hpo1007, hpo1008⟩ := hpo
          have hj1021 : ∀ (v1019 : Int32) (H : Heap) (locs : List Loc), 8 ≤ v1019.toInt → v1019.toInt ≤ 10 → tk_G D cy ld t [] H → va_S (tk_w t [(7, 0, 0), (20, 0, 0), (8, 12, 12)]) s.heap H locs → tk_f D H a0 6 9 (.int 3) → ∀ ls : Array Slot, lv_has ls 3 [(1, .int v3), (0, .ref a0)] → W p l e ({ frames := 25, cells := 0, slots := 0, locals := 1680 }) s m args below meth c H locs 0 0 (MQ below (tv D cy ld t [] (fun H => tk_f D H a0 6 9 (.int 3)) (tk_w t [(7, 0, 0), (20, 0, 0), (8, 12, 12)])) args s 0 0 (tk_w t [(7, 0, 0), (20, 0, 0), (8, 12, 12)])) (F0 m 70 ls [.int v1019]) := by
            intro v1019 H locs hq0_j1021 hq1_j1021 hG hS hf2 ls hl
            refine lv_istore_n (lv' := [(2, .int v1019), (1, .int v3), (0, .ref a0)]) hx hb dX6_readTerm_70 rfl hl (by decide) rfl (fun ls hl => ?_)
            refine lv_aload_n hx hb dX6_readTerm_71 rfl (lv_at hl 2 rfl) ?_
            have hk_3 : (3 : Int32).toInt = 3 := by decide
            refine tk_Vv (As := []) (rest := []) (ci := 6) ⟨hx, hb, hml, hown, hts⟩ hK hG hZ hS (k_X6_step l D cy ld t a0 3 ht_a0 (by omega) (by omega)) hf2 ⟨callB_of 0 hts (wl_in mw_494) rfl rfl rfl (htl _ mw_36) (htl _ mw_491) hd_yX6_step ⟨(Nat.le_of_ble_eq_true rfl), (Nat.le_of_ble_eq_true rfl)⟩, htl _ mw_492, htl _ mw_493⟩ ht_a0 (by decide) tk_no rfl (tk_w.pick [0] rfl) rfl hl.1 rfl (Nat.le_of_ble_eq_true rfl) dX6_readTerm_72 ⟨(Nat.le_of_ble_eq_true rfl), (Nat.le_of_ble_eq_true rfl)⟩ (fun H locs hpo hG hS hq9 => ?_)
            have hf1023 := hpo
            refine lv_aload_n hx hb dX6_readTerm_75 rfl (lv_at hl 2 rfl) ?_
            refine tk_Vv (As := []) (rest := []) (ci := 6) ⟨hx, hb, hml, hown, hts⟩ hK hG hZ hS (k_X6_readPart_3 l D cy ld t a0 ht_a0) hf1023 ⟨callB_of 0 hts (wl_in mw_595) rfl rfl rfl (htl _ mw_36) (htl _ mw_616) hd_yX6_readPart ⟨(Nat.le_of_ble_eq_true rfl), (Nat.le_of_ble_eq_true rfl)⟩, htl _ mw_617, htl _ mw_618⟩ ht_a0 (by decide) tk_no rfl (tk_w.pick [0, 1, 2] rfl) rfl hl.1 rfl (Nat.le_of_ble_eq_true rfl) dX6_readTerm_76 ⟨(Nat.le_of_ble_eq_true rfl), (Nat.le_of_ble_eq_true rfl)⟩ (fun H locs hpo hG hS hq9 => ?_)
            have hf1025 := hpo
            refine lv_aload_n hx hb dX6_readTerm_79 rfl (lv_at hl 2 rfl) ?_
            refine tk_get (ci := 6) (C := RX6) (T := TX6) (N := 11) (sp := (6, 8, 512, 12)) hx hb htl inX6 hown hK hG ht_a0 (by decide) tk_no rfl 0 (by decide) (htl _ mw_132) (fun _ h9 => h9) rfl dX6_readTerm_80 (fun v9 hf1026 hV9 => ?_)
            obtain ⟨b1027, rfl, ht_b1027⟩ := hV9
            have ht_b1027 : t b1027 = (8, 512, 12) := ht_b1027
            refine lv_iload_n hx hb dX6_readTerm_83 rfl (lv_at hl 0 rfl) ?_
            refine lv_iconst (v := 0) hx hb dX6_readTerm_84 (by decide) ?_
            have hk_0 : (0 : Int32).toInt = 0 := by decide
            refine tk_Vv (As := [.int v1019, .int 0]) (rest := []) (ci := 7) ⟨hx, hb, hml, hown, hts⟩ hK hG hZ hS (k_X7_put l D cy ld t b1027 v1019 0 ht_b1027) trivial ⟨callB_of 2 hts (wl_in mw_594) rfl rfl rfl (htl _ mw_131) (htl _ mw_591) hd_yX7_put ⟨(Nat.le_of_ble_eq_true rfl), (Nat.le_of_ble_eq_true rfl)⟩, htl _ mw_592, htl _ mw_593⟩ ht_b1027 (by decide) tk_no rfl (tk_w.pick [1, 2] rfl) rfl hl.1 rfl (Nat.le_of_ble_eq_true rfl) dX6_readTerm_85 ⟨(Nat.le_of_ble_eq_true rfl), (Nat.le_of_ble_eq_true rfl)⟩ (fun H locs hpo hG hS hq9 => ?_)
            have hf1025 := hf1025.call hq9 (tk_w.no ht_a0 (by decide))
            obtain ⟨v1029, h_v1029, e_v1029⟩ := tk_inc v3 1 (by decide) (by omega) (by omega)
            refine lv_iinc (v := v1029) (lv' := [(1, .int v1029), (2, .int v1019), (0, .ref a0)]) hx hb dX6_readTerm_88 hl (k := 1) rfl e_v1029 (by decide) rfl (fun ls hl => ?_)
            refine lv_goto (tgt := 6) hx hb dX6_readTerm_91 (by decide) ?_
            exact ih_l994 v1029 _ _ (by omega) (by omega) (by omega) hG hS hf1025 _ (lv_sub hl [0, 2] rfl)
          refine lv_if_eq (tgt := 54) hx hb dX6_readTerm_46 (by decide) (fun c9 => ?_) (fun c9 => ?_)
          · have hc1009 : v1003.toInt = 0 := (fi_eq rfl (show (0 : Int32).toInt = 0 by decide)).mp c9
            refine lv_aload_n hx hb dX6_readTerm_54 rfl (lv_at hl 1 rfl) ?_
            refine lv_bipush (v := 47) hx hb dX6_readTerm_55 (by decide) ?_
            have hk_47 : (47 : Int32).toInt = 47 := by decide
            refine tk_Vi (As := [.int 47]) (rest := []) (ci := 6) ⟨hx, hb, hml, hown, hts⟩ hK hG hZ hS (k_X6_isSign l D cy ld t a0 47 ht_a0) trivial ⟨callB_of 1 hts (wl_in mw_590) rfl rfl rfl (htl _ mw_36) (htl _ mw_587) hd_yX6_isSign ⟨(Nat.le_of_ble_eq_true rfl), (Nat.le_of_ble_eq_true rfl)⟩, htl _ mw_588, htl _ mw_589⟩ ht_a0 (by decide) tk_no rfl (tk_w.pick [] rfl) rfl hl.1 rfl (Nat.le_of_ble_eq_true rfl) dX6_readTerm_57 ⟨(Nat.le_of_ble_eq_true rfl), (Nat.le_of_ble_eq_true rfl)⟩ (fun v1030 H locs hpo hG hS hq9 => ?_)
            have hf2 := hf2.call hq9 tk_w.nil
            obtain ⟨hpo1032, hpo1033, hpo1034, hpo1035⟩ := hpo
            refine lv_if_eq (tgt := 68) hx hb dX6_readTerm_60 (by decide) (fun c9 => ?_) (fun c9 => ?_)
            · have hc1036 : v1030.toInt = 0 := (fi_eq rfl (show (0 : Int32).toInt = 0 by decide)).mp c9
              refine lv_bipush (v := 10) hx hb dX6_readTerm_68 (by decide) ?_
              have hk_10 : (10 : Int32).toInt = 10 := by decide
              exact hj1021 10 _ _ (by omega) (by omega) hG hS hf2 _ (lv_sub hl [0, 1] rfl)
            · have hc1036 : ¬ (v1030.toInt = 0) := fun h9 => c9 ((fi_eq rfl (show (0 : Int32).toInt = 0 by decide)).mpr h9)
              refine lv_bipush (v := 9) hx hb dX6_readTerm_63 (by decide) ?_
              refine lv_goto (tgt := 70) hx hb dX6_readTerm_65 (by decide) ?_
              have hk_9 : (9 : Int32).toInt = 9 := by decide
              exact hj1021 9 _ _ (by omega) (by omega) hG hS hf2 _ (lv_sub hl [0, 1] rfl)
          · have hc1009 : ¬ (v1003.toInt = 0) := fun h9 => c9 ((fi_eq rfl (show (0 : Int32).toInt = 0 by decide)).mpr h9)
            refine lv_bipush (v := 8) hx hb dX6_readTerm_49 (by decide) ?_
            refine lv_goto (tgt := 70) hx hb dX6_readTerm_51 (by decide) ?_
            have hk_8 : (8 : Int32).toInt = 8 := by decide
            exact hj1021 8 _ _ (by omega) (by omega) hG hS hf2 _ (lv_sub hl [0, 1] rfl)
        · have hc1002 : v996.toInt = 0 := (fi_eq rfl (show (0 : Int32).toInt = 0 by decide)).mp c9
          refine lv_aload_n hx hb dX6_readTerm_22 rfl (lv_at hl 1 rfl) ?_
          refine lv_bipush (v := 47) hx hb dX6_readTerm_23 (by decide) ?_
          have hk_47 : (47 : Int32).toInt = 47 := by decide
          refine tk_Vi (As := [.int 47]) (rest := []) (ci := 6) ⟨hx, hb, hml, hown, hts⟩ hK hG hZ hS (k_X6_isSign l D cy ld t a0 47 ht_a0) trivial ⟨callB_of 1 hts (wl_in mw_590) rfl rfl rfl (htl _ mw_36) (htl _ mw_587) hd_yX6_isSign ⟨(Nat.le_of_ble_eq_true rfl), (Nat.le_of_ble_eq_true rfl)⟩, htl _ mw_588, htl _ mw_589⟩ ht_a0 (by decide) tk_no rfl (tk_w.pick [] rfl) rfl hl.1 rfl (Nat.le_of_ble_eq_true rfl) dX6_readTerm_25 ⟨(Nat.le_of_ble_eq_true rfl), (Nat.le_of_ble_eq_true rfl)⟩ (fun v1037 H locs hpo hG hS hq9 => ?_)
          have hf2 := hf2.call hq9 tk_w.nil
          obtain ⟨hpo1039, hpo1040, hpo1041, hpo1042⟩ := hpo
          refine lv_if_ne (tgt := 40) hx hb dX6_readTerm_28 (by decide) (fun c9 => ?_) (fun c9 => ?_)
          · have hc1043 : ¬ (v1037.toInt = 0) := fun h9 => c9 ((fi_eq rfl (show (0 : Int32).toInt = 0 by decide)).mpr h9)
            refine lv_aload_n hx hb dX6_readTerm_40 rfl (lv_at hl 1 rfl) ?_
            refine lv_bipush (v := 42) hx hb dX6_readTerm_41 (by decide) ?_
            have hk_42 : (42 : Int32).toInt = 42 := by decide
            refine tk_Vi (As := [.int 42]) (rest := []) (ci := 6) ⟨hx, hb, hml, hown, hts⟩ hK hG hZ hS (k_X6_isSign l D cy ld t a0 42 ht_a0) trivial ⟨callB_of 1 hts (wl_in mw_590) rfl rfl rfl (htl _ mw_36) (htl _ mw_587) hd_yX6_isSign ⟨(Nat.le_of_ble_eq_true rfl), (Nat.le_of_ble_eq_true rfl)⟩, htl _ mw_588, htl _ mw_589⟩ ht_a0 (by decide) tk_no rfl (tk_w.pick [] rfl) rfl hl.1 rfl (Nat.le_of_ble_eq_true rfl) dX6_readTerm_43 ⟨(Nat.le_of_ble_eq_true rfl), (Nat.le_of_ble_eq_true rfl)⟩ (fun v1044 H locs hpo hG hS hq9 => ?_)
            have hf2 := hf2.call hq9 tk_w.nil
            obtain ⟨hpo1046, hpo1047, hpo1048, hpo1049⟩ := hpo
            have hj1062 : ∀ (v1060 : Int32) (H : Heap) (locs : List Loc), 8 ≤ v1060.toInt → v1060.toInt ≤ 10 → tk_G D cy ld t [] H → va_S (tk_w t [(7, 0, 0), (20, 0, 0), (8, 12, 12)]) s.heap H locs → tk_f D H a0 6 9 (.int 3) → ∀ ls : Array Slot, lv_has ls 3 [(1, .int v3), (0, .ref a0)] → W p l e ({ frames := 25, cells := 0, slots := 0, locals := 1680 }) s m args below meth c H locs 0 0 (MQ below (tv D cy ld t [] (fun H => tk_f D H a0 6 9 (.int 3)) (tk_w t [(7, 0, 0), (20, 0, 0), (8, 12, 12)])) args s 0 0 (tk_w t [(7, 0, 0), (20, 0, 0), (8, 12, 12)])) (F0 m 70 ls [.int v1060]) := by
              intro v1060 H locs hq0_j1062 hq1_j1062 hG hS hf2 ls hl
              refine lv_istore_n (lv' := [(2, .int v1060), (1, .int v3), (0, .ref a0)]) hx hb dX6_readTerm_70 rfl hl (by decide) rfl (fun ls hl => ?_)
              refine lv_aload_n hx hb dX6_readTerm_71 rfl (lv_at hl 2 rfl) ?_
              have hk_3 : (3 : Int32).toInt = 3 := by decide
              refine tk_Vv (As := []) (rest := []) (ci := 6) ⟨hx, hb, hml, hown, hts⟩ hK hG hZ hS (k_X6_step l D cy ld t a0 3 ht_a0 (by omega) (by omega)) hf2 ⟨callB_of 0 hts (wl_in mw_494) rfl rfl rfl (htl _ mw_36) (htl _ mw_491) hd_yX6_step ⟨(Nat.le_of_ble_eq_true rfl), (Nat.le_of_ble_eq_true rfl)⟩, htl _ mw_492, htl _ mw_493⟩ ht_a0 (by decide) tk_no rfl (tk_w.pick [0] rfl) rfl hl.1 rfl (Nat.le_of_ble_eq_true rfl) dX6_readTerm_72 ⟨(Nat.le_of_ble_eq_true rfl), (Nat.le_of_ble_eq_true rfl)⟩ (fun H locs hpo hG hS hq9 => ?_)
              have hf1064 := hpo
              refine lv_aload_n hx hb dX6_readTerm_75 rfl (lv_at hl 2 rfl) ?_
              refine tk_Vv (As := []) (rest := []) (ci := 6) ⟨hx, hb, hml, hown, hts⟩ hK hG hZ hS (k_X6_readPart_3 l D cy ld t a0 ht_a0) hf1064 ⟨callB_of 0 hts (wl_in mw_595) rfl rfl rfl (htl _ mw_36) (htl _ mw_616) hd_yX6_readPart ⟨(Nat.le_of_ble_eq_true rfl), (Nat.le_of_ble_eq_true rfl)⟩, htl _ mw_617, htl _ mw_618⟩ ht_a0 (by decide) tk_no rfl (tk_w.pick [0, 1, 2] rfl) rfl hl.1 rfl (Nat.le_of_ble_eq_true rfl) dX6_readTerm_76 ⟨(Nat.le_of_ble_eq_true rfl), (Nat.le_of_ble_eq_true rfl)⟩ (fun H locs hpo hG hS hq9 => ?_)
              have hf1066 := hpo
              refine lv_aload_n hx hb dX6_readTerm_79 rfl (lv_at hl 2 rfl) ?_
              refine tk_get (ci := 6) (C := RX6) (T := TX6) (N := 11) (sp := (6, 8, 512, 12)) hx hb htl inX6 hown hK hG ht_a0 (by decide) tk_no rfl 0 (by decide) (htl _ mw_132) (fun _ h9 => h9) rfl dX6_readTerm_80 (fun v9 hf1067 hV9 => ?_)
              obtain ⟨b1068, rfl, ht_b1068⟩ := hV9
              have ht_b1068 : t b1068 = (8, 512, 12) := ht_b1068
              refine lv_iload_n hx hb dX6_readTerm_83 rfl (lv_at hl 0 rfl) ?_
              refine lv_iconst (v := 0) hx hb dX6_readTerm_84 (by decide) ?_
              have hk_0 : (0 : Int32).toInt = 0 := by decide
              refine tk_Vv (As := [.int v1060, .int 0]) (rest := []) (ci := 7) ⟨hx, hb, hml, hown, hts⟩ hK hG hZ hS (k_X7_put l D cy ld t b1068 v1060 0 ht_b1068) trivial ⟨callB_of 2 hts (wl_in mw_594) rfl rfl rfl (htl _ mw_131) (htl _ mw_591) hd_yX7_put ⟨(Nat.le_of_ble_eq_true rfl), (Nat.le_of_ble_eq_true rfl)⟩, htl _ mw_592, htl _ mw_593⟩ ht_b1068 (by decide) tk_no rfl (tk_w.pick [1, 2] rfl) rfl hl.1 rfl (Nat.le_of_ble_eq_true rfl) dX6_readTerm_85 ⟨(Nat.le_of_ble_eq_true rfl), (Nat.le_of_ble_eq_true rfl)⟩ (fun H locs hpo hG hS hq9 => ?_)
              have hf1066 := hf1066.call hq9 (tk_w.no ht_a0 (by decide))
              obtain ⟨v1070, h_v1070, e_v1070⟩ := tk_inc v3 1 (by decide) (by omega) (by omega)
              refine lv_iinc (v := v1070) (lv' := [(1, .int v1070), (2, .int v1060), (0, .ref a0)]) hx hb dX6_readTerm_88 hl (k := 1) rfl e_v1070 (by decide) rfl (fun ls hl => ?_)
              refine lv_goto (tgt := 6) hx hb dX6_readTerm_91 (by decide) ?_
              exact ih_l994 v1070 _ _ (by omega) (by omega) (by omega) hG hS hf1066 _ (lv_sub hl [0, 2] rfl)
            refine lv_if_eq (tgt := 54) hx hb dX6_readTerm_46 (by decide) (fun c9 => ?_) (fun c9 => ?_)
            · have hc1050 : v1044.toInt = 0 := (fi_eq rfl (show (0 : Int32).toInt = 0 by decide)).mp c9
              refine lv_aload_n hx hb dX6_readTerm_54 rfl (lv_at hl 1 rfl) ?_
              refine lv_bipush (v := 47) hx hb dX6_readTerm_55 (by decide) ?_
              have hk_47 : (47 : Int32).toInt = 47 := by decide
              refine tk_Vi (As := [.int 47]) (rest := []) (ci := 6) ⟨hx, hb, hml, hown, hts⟩ hK hG hZ hS (k_X6_isSign l D cy ld t a0 47 ht_a0) trivial ⟨callB_of 1 hts (wl_in mw_590) rfl rfl rfl (htl _ mw_36) (htl _ mw_587) hd_yX6_isSign ⟨(Nat.le_of_ble_eq_true rfl), (Nat.le_of_ble_eq_true rfl)⟩, htl _ mw_588, htl _ mw_589⟩ ht_a0 (by decide) tk_no rfl (tk_w.pick [] rfl) rfl hl.1 rfl (Nat.le_of_ble_eq_true rfl) dX6_readTerm_57 ⟨(Nat.le_of_ble_eq_true rfl), (Nat.le_of_ble_eq_true rfl)⟩ (fun v1071 H locs hpo hG hS hq9 => ?_)
              have hf2 := hf2.call hq9 tk_w.nil
              obtain ⟨hpo1073, hpo1074, hpo1075, hpo1076⟩ := hpo
              refine lv_if_eq (tgt := 68) hx hb dX6_readTerm_60 (by decide) (fun c9 => ?_) (fun c9 => ?_)
              · have hc1077 : v1071.toInt = 0 := (fi_eq rfl (show (0 : Int32).toInt = 0 by decide)).mp c9
                refine lv_bipush (v := 10) hx hb dX6_readTerm_68 (by decide) ?_
                have hk_10 : (10 : Int32).toInt = 10 := by decide
                exact hj1062 10 _ _ (by omega) (by omega) hG hS hf2 _ (lv_sub hl [0, 1] rfl)
              · have hc1077 : ¬ (v1071.toInt = 0) := fun h9 => c9 ((fi_eq rfl (show (0 : Int32).toInt = 0 by decide)).mpr h9)
                refine lv_bipush (v := 9) hx hb dX6_readTerm_63 (by decide) ?_
                refine lv_goto (tgt := 70) hx hb dX6_readTerm_65 (by decide) ?_
                have hk_9 : (9 : Int32).toInt = 9 := by decide
                exact hj1062 9 _ _ (by omega) (by omega) hG hS hf2 _ (lv_sub hl [0, 1] rfl)
            · have hc1050 : ¬ (v1044.toInt = 0) := fun h9 => c9 ((fi_eq rfl (show (0 : Int32).toInt = 0 by decide)).mpr h9)
              refine lv_bipush (v := 8) hx hb dX6_readTerm_49 (by decide) ?_
              refine lv_goto (tgt := 70) hx hb dX6_readTerm_51 (by decide) ?_
              have hk_8 : (8 : Int32).toInt = 8 := by decide
              exact hj1062 8 _ _ (by omega) (by omega) hG hS hf2 _ (lv_sub hl [0, 1] rfl)
          · have hc1043 : v1037.toInt = 0 := (fi_eq rfl (show (0 : Int32).toInt = 0 by decide)).mp c9
            refine lv_aload_n hx hb dX6_readTerm_31 rfl (lv_at hl 1 rfl) ?_
            refine lv_bipush (v := 37) hx hb dX6_readTerm_32 (by decide) ?_
            have hk_37 : (37 : Int32).toInt = 37 := by decide
            refine tk_Vi (As := [.int 37]) (rest := []) (ci := 6) ⟨hx, hb, hml, hown, hts⟩ hK hG hZ hS (k_X6_isSign l D cy ld t a0 37 ht_a0) trivial ⟨callB_of 1 hts (wl_in mw_590) rfl rfl rfl (htl _ mw_36) (htl _ mw_587) hd_yX6_isSign ⟨(Nat.le_of_ble_eq_true rfl), (Nat.le_of_ble_eq_true rfl)⟩, htl _ mw_588, htl _ mw_589⟩ ht_a0 (by decide) tk_no rfl (tk_w.pick [] rfl) rfl hl.1 rfl (Nat.le_of_ble_eq_true rfl) dX6_readTerm_34 ⟨(Nat.le_of_ble_eq_true rfl), (Nat.le_of_ble_eq_true rfl)⟩ (fun v1078 H locs hpo hG hS hq9 => ?_)
            have hf2 := hf2.call hq9 tk_w.nil
            obtain ⟨hpo1080, hpo1081, hpo1082, hpo1083⟩ := hpo
            refine lv_if_eq (tgt := 94) hx hb dX6_readTerm_37 (by decide) (fun c9 => ?_) (fun c9 => ?_)
            · have hc1084 : v1078.toInt = 0 := (fi_eq rfl (show (0 : Int32).toInt = 0 by decide)).mp c9
              exact tk_vret hx hb hr hlocks (show tk_f D H a0 6 9 (.int 3) from hf2) hG hS dX6_readTerm_94
            · have hc1084 : ¬ (v1078.toInt = 0) := fun h9 => c9 ((fi_eq rfl (show (0 : Int32).toInt = 0 by decide)).mpr h9)
              refine lv_aload_n hx hb dX6_readTerm_40 rfl (lv_at hl 1 rfl) ?_
              refine lv_bipush (v := 42) hx hb dX6_readTerm_41 (by decide) ?_
              have hk_42 : (42 : Int32).toInt = 42 := by decide
              refine tk_Vi (As := [.int 42]) (rest := []) (ci := 6) ⟨hx, hb, hml, hown, hts⟩ hK hG hZ hS (k_X6_isSign l D cy ld t a0 42 ht_a0) trivial ⟨callB_of 1 hts (wl_in mw_590) rfl rfl rfl (htl _ mw_36) (htl _ mw_587) hd_yX6_isSign ⟨(Nat.le_of_ble_eq_true rfl), (Nat.le_of_ble_eq_true rfl)⟩, htl _ mw_588, htl _ mw_589⟩ ht_a0 (by decide) tk_no rfl (tk_w.pick [] rfl) rfl hl.1 rfl (Nat.le_of_ble_eq_true rfl) dX6_readTerm_43 ⟨(Nat.le_of_ble_eq_true rfl), (Nat.le_of_ble_eq_true rfl)⟩ (fun v1085 H locs hpo hG hS hq9 => ?_)
              have hf2 := hf2.call hq9 tk_w.nil
              obtain ⟨hpo1087, hpo1088, hpo1089, hpo1090⟩ := hpo
              have hj1103 : ∀ (v1101 : Int32) (H : Heap) (locs : List Loc), 8 ≤ v1101.toInt → v1101.toInt ≤ 10 → tk_G D cy ld t [] H → va_S (tk_w t [(7, 0, 0), (20, 0, 0), (8, 12, 12)]) s.heap H locs → tk_f D H a0 6 9 (.int 3) → ∀ ls : Array Slot, lv_has ls 3 [(1, .int v3), (0, .ref a0)] → W p l e ({ frames := 25, cells := 0, slots := 0, locals := 1680 }) s m args below meth c H locs 0 0 (MQ below (tv D cy ld t [] (fun H => tk_f D H a0 6 9 (.int 3)) (tk_w t [(7, 0, 0), (20, 0, 0), (8, 12, 12)])) args s 0 0 (tk_w t [(7, 0, 0), (20, 0, 0), (8, 12, 12)])) (F0 m 70 ls [.int v1101]) := by
                intro v1101 H locs hq0_j1103 hq1_j1103 hG hS hf2 ls hl
                refine lv_istore_n (lv' := [(2, .int v1101), (1, .int v3), (0, .ref a0)]) hx hb dX6_readTerm_70 rfl hl (by decide) rfl (fun ls hl => ?_)
                refine lv_aload_n hx hb dX6_readTerm_71 rfl (lv_at hl 2 rfl) ?_
                have hk_3 : (3 : Int32).toInt = 3 := by decide
                refine tk_Vv (As := []) (rest := []) (ci := 6) ⟨hx, hb, hml, hown, hts⟩ hK hG hZ hS (k_X6_step l D cy ld t a0 3 ht_a0 (by omega) (by omega)) hf2 ⟨callB_of 0 hts (wl_in mw_494) rfl rfl rfl (htl _ mw_36) (htl _ mw_491) hd_yX6_step ⟨(Nat.le_of_ble_eq_true rfl), (Nat.le_of_ble_eq_true rfl)⟩, htl _ mw_492, htl _ mw_493⟩ ht_a0 (by decide) tk_no rfl (tk_w.pick [0] rfl) rfl hl.1 rfl (Nat.le_of_ble_eq_true rfl) dX6_readTerm_72 ⟨(Nat.le_of_ble_eq_true rfl), (Nat.le_of_ble_eq_true rfl)⟩ (fun H locs hpo hG hS hq9 => ?_)
                have hf1105 := hpo
                refine lv_aload_n hx hb dX6_readTerm_75 rfl (lv_at hl 2 rfl) ?_
                refine tk_Vv (As := []) (rest := []) (ci := 6) ⟨hx, hb, hml, hown, hts⟩ hK hG hZ hS (k_X6_readPart_3 l D cy ld t a0 ht_a0) hf1105 ⟨callB_of 0 hts (wl_in mw_595) rfl rfl rfl (htl _ mw_36) (htl _ mw_616) hd_yX6_readPart ⟨(Nat.le_of_ble_eq_true rfl), (Nat.le_of_ble_eq_true rfl)⟩, htl _ mw_617, htl _ mw_618⟩ ht_a0 (by decide) tk_no rfl (tk_w.pick [0, 1, 2] rfl) rfl hl.1 rfl (Nat.le_of_ble_eq_true rfl) dX6_readTerm_76 ⟨(Nat.le_of_ble_eq_true rfl), (Nat.le_of_ble_eq_true rfl)⟩ (fun H locs hpo hG hS hq9 => ?_)
                have hf1107 := hpo
                refine lv_aload_n hx hb dX6_readTerm_79 rfl (lv_at hl 2 rfl) ?_
                refine tk_get (ci := 6) (C := RX6) (T := TX6) (N := 11) (sp := (6, 8, 512, 12)) hx hb htl inX6 hown hK hG ht_a0 (by decide) tk_no rfl 0 (by decide) (htl _ mw_132) (fun _ h9 => h9) rfl dX6_readTerm_80 (fun v9 hf1108 hV9 => ?_)
                obtain ⟨b1109, rfl, ht_b1109⟩ := hV9
                have ht_b1109 : t b1109 = (8, 512, 12) := ht_b1109
                refine lv_iload_n hx hb dX6_readTerm_83 rfl (lv_at hl 0 rfl) ?_
                refine lv_iconst (v := 0) hx hb dX6_readTerm_84 (by decide) ?_
                have hk_0 : (0 : Int32).toInt = 0 := by decide
                refine tk_Vv (As := [.int v1101, .int 0]) (rest := []) (ci := 7) ⟨hx, hb, hml, hown, hts⟩ hK hG hZ hS (k_X7_put l D cy ld t b1109 v1101 0 ht_b1109) trivial ⟨callB_of 2 hts (wl_in mw_594) rfl rfl rfl (htl _ mw_131) (htl _ mw_591) hd_yX7_put ⟨(Nat.le_of_ble_eq_true rfl), (Nat.le_of_ble_eq_true rfl)⟩, htl _ mw_592, htl _ mw_593⟩ ht_b1109 (by decide) tk_no rfl (tk_w.pick [1, 2] rfl) rfl hl.1 rfl (Nat.le_of_ble_eq_true rfl) dX6_readTerm_85 ⟨(Nat.le_of_ble_eq_true rfl), (Nat.le_of_ble_eq_true rfl)⟩ (fun H locs hpo hG hS hq9 => ?_)
                have hf1107 := hf1107.call hq9 (tk_w.no ht_a0 (by decide))
                obtain ⟨v1111, h_v1111, e_v1111⟩ := tk_inc v3 1 (by decide) (by omega) (by omega)
                refine lv_iinc (v := v1111) (lv' := [(1, .int v1111), (2, .int v1101), (0, .ref a0)]) hx hb dX6_readTerm_88 hl (k := 1) rfl e_v1111 (by decide) rfl (fun ls hl => ?_)
                refine lv_goto (tgt := 6) hx hb dX6_readTerm_91 (by decide) ?_
                exact ih_l994 v1111 _ _ (by omega) (by omega) (by omega) hG hS hf1107 _ (lv_sub hl [0, 2] rfl)
              refine lv_if_eq (tgt := 54) hx hb dX6_readTerm_46 (by decide) (fun c9 => ?_) (fun c9 => ?_)
              · have hc1091 : v1085.toInt = 0 := (fi_eq rfl (show (0 : Int32).toInt = 0 by decide)).mp c9
                refine lv_aload_n hx hb dX6_readTerm_54 rfl (lv_at hl 1 rfl) ?_
                refine lv_bipush (v := 47) hx hb dX6_readTerm_55 (by decide) ?_
                have hk_47 : (47 : Int32).toInt = 47 := by decide
                refine tk_Vi (As := [.int 47]) (rest := []) (ci := 6) ⟨hx, hb, hml, hown, hts⟩ hK hG hZ hS (k_X6_isSign l D cy ld t a0 47 ht_a0) trivial ⟨callB_of 1 hts (wl_in mw_590) rfl rfl rfl (htl _ mw_36) (htl _ mw_587) hd_yX6_isSign ⟨(Nat.le_of_ble_eq_true rfl), (Nat.le_of_ble_eq_true rfl)⟩, htl _ mw_588, htl _ mw_589⟩ ht_a0 (by decide) tk_no rfl (tk_w.pick [] rfl) rfl hl.1 rfl (Nat.le_of_ble_eq_true rfl) dX6_readTerm_57 ⟨(Nat.le_of_ble_eq_true rfl), (Nat.le_of_ble_eq_true rfl)⟩ (fun v1112 H locs hpo hG hS hq9 => ?_)
                have hf2 := hf2.call hq9 tk_w.nil
                obtain ⟨hpo1114, hpo1115, hpo1116, hpo1117⟩ := hpo
                refine lv_if_eq (tgt := 68) hx hb dX6_readTerm_60 (by decide) (fun c9 => ?_) (fun c9 => ?_)
                · have hc1118 : v1112.toInt = 0 := (fi_eq rfl (show (0 : Int32).toInt = 0 by decide)).mp c9
                  refine lv_bipush (v := 10) hx hb dX6_readTerm_68 (by decide) ?_
                  have hk_10 : (10 : Int32).toInt = 10 := by decide
                  exact hj1103 10 _ _ (by omega) (by omega) hG hS hf2 _ (lv_sub hl [0, 1] rfl)
                · have hc1118 : ¬ (v1112.toInt = 0) := fun h9 => c9 ((fi_eq rfl (show (0 : Int32).toInt = 0 by decide)).mpr h9)
                  refine lv_bipush (v := 9) hx hb dX6_readTerm_63 (by decide) ?_
                  refine lv_goto (tgt := 70) hx hb dX6_readTerm_65 (by decide) ?_
                  have hk_9 : (9 : Int32).toInt = 9 := by decide
                  exact hj1103 9 _ _ (by omega) (by omega) hG hS hf2 _ (lv_sub hl [0, 1] rfl)
              · have hc1091 : ¬ (v1085.toInt = 0) := fun h9 => c9 ((fi_eq rfl (show (0 : Int32).toInt = 0 by decide)).mpr h9)
                refine lv_bipush (v := 8) hx hb dX6_readTerm_49 (by decide) ?_
                refine lv_goto (tgt := 70) hx hb dX6_readTerm_51 (by decide) ?_
                have hk_8 : (8 : Int32).toInt = 8 := by decide
                exact hj1103 8 _ _ (by omega) (by omega) hG hS hf2 _ (lv_sub hl [0, 1] rfl)
  have hk_0 : (0 : Int32).toInt = 0 := by decide
  exact hl994 401 0 _ _ (by omega) (by omega) (by omega) hG hS hf2 _ (lv_sub hl [0, 1] rfl)
set_option maxHeartbeats 4000000 in
set_option maxRecDepth 100000 in
theorem k_X6_readSum_3 (l : Launch) (D : va_G) (cy : Nat → ClassId) (ld : Nat → Nat) (t : tk_T) (a0 : Nat) (ht_a0 : t a0 = (7, 0, 0)) : Met l yX6_readSum (wl yX6_readSum cX6_readSum 3 none) ({ frames := 26, cells := 0, slots := 0, locals := 1750 }) (tp D cy ld t [] [.ref a0] (fun H => tk_f D H a0 6 9 (.int 3))) (tv D cy ld t [] (fun H => tk_f D H a0 6 9 (.int 3)) (tk_w t [(7, 0, 0), (20, 0, 0), (8, 12, 12)])) 0 0 (tk_w t [(7, 0, 0), (20, 0, 0), (8, 12, 12)]) := by
  refine tk_met (y := yX6_readSum) (cc := cX6_readSum) (maxL := 3) (ret := none) (av := [.ref a0]) _ _ (by decide) (Nat.le_of_ble_eq_true rfl) ?_
  intro p e s m args below meth c hx hb hr hml hts htl hown hlocks hK H locs hH hG hS hB hZ ls hl
  have hown : s.vm.findClass RX6 = some m.cls := hown
  have hl : lv_has ls 3 [(0, .ref a0)] := hl
  have hg_0 := hB
  refine lv_aload_n hx hb dX6_readSum_0 rfl (lv_at hl 0 rfl) ?_
  refine tk_Vv (As := []) (rest := []) (ci := 6) ⟨hx, hb, hml, hown, hts⟩ hK hG hZ hS (k_X6_readTerm_3 l D cy ld t a0 ht_a0) hg_0 ⟨callB_of 0 hts (wl_in mw_615) rfl rfl rfl (htl _ mw_36) (htl _ mw_584) hd_yX6_readTerm ⟨(Nat.le_of_ble_eq_true rfl), (Nat.le_of_ble_eq_true rfl)⟩, htl _ mw_585, htl _ mw_586⟩ ht_a0 (by decide) tk_no rfl (tk_w.pick [0, 1, 2] rfl) rfl hl.1 rfl (Nat.le_of_ble_eq_true rfl) dX6_readSum_1 ⟨(Nat.le_of_ble_eq_true rfl), (Nat.le_of_ble_eq_true rfl)⟩ (fun H locs hpo hG hS hq9 => ?_)
  have hf2 := hpo
  refine lv_iconst (v := 0) hx hb dX6_readSum_4 (by decide) ?_
  refine lv_istore_n (lv' := [(1, .int 0), (0, .ref a0)]) hx hb dX6_readSum_5 rfl hl (by decide) rfl (fun ls hl => ?_)
  have hl410 : ∀ (N_l410 : Nat) (v3 : Int32) (H : Heap) (locs : List Loc), 0 ≤ v3.toInt → v3.toInt ≤ 400 → (-1) * v3.toInt + 400 < (N_l410 : Int) → tk_G D cy ld t [] H → va_S (tk_w t [(7, 0, 0), (20, 0, 0), (8, 12, 12)]) s.heap H locs → tk_f D H a0 6 9 (.int 3) → ∀ ls : Array Slot, lv_has ls 3 [(1, .int v3), (0, .ref a0)] → W p l e ({ frames := 26, cells := 0, slots := 0, locals := 1750 }) s m args below meth c H locs 0 0 (MQ below (tv D cy ld t [] (fun H => tk_f D H a0 6 9 (.int 3)) (tk_w t [(7, 0, 0), (20, 0, 0), (8, 12, 12)])) args s 0 0 (tk_w t [(7, 0, 0), (20, 0, 0), (8, 12, 12)])) (F0 m 6 ls []) := by
    intro N_l410
    induction N_l410 with
    | zero => intro v3 H locs hq0_l410 hq1_l410 hm_l410 hG hS hf2 ls hl; exfalso; omega
    | succ N_l410 ih_l410 =>
      intro v3 H locs hq0_l410 hq1_l410 hm_l410 hG hS hf2 ls hl
      refine lv_iload_n hx hb dX6_readSum_6 rfl (lv_at hl 0 rfl) ?_
      refine lv_sipush (v := 400) hx hb dX6_readSum_7 (by decide) ?_
      refine lv_icmp_ge (tgt := 71) hx hb dX6_readSum_10 (by decide) (fun c9 => ?_) (fun c9 => ?_)
      · have hc411 : 400 ≤ v3.toInt := (fi_le (show (400 : Int32).toInt = 400 by decide) rfl).mp c9
        exact tk_vret hx hb hr hlocks (show tk_f D H a0 6 9 (.int 3) from hf2) hG hS dX6_readSum_71
      · have hc411 : ¬ (400 ≤ v3.toInt) := fun h9 => c9 ((fi_le (show (400 : Int32).toInt = 400 by decide) rfl).mpr h9)
        refine lv_aload_n hx hb dX6_readSum_13 rfl (lv_at hl 1 rfl) ?_
        refine lv_bipush (v := 43) hx hb dX6_readSum_14 (by decide) ?_
        have hk_43 : (43 : Int32).toInt = 43 := by decide
        refine tk_Vi (As := [.int 43]) (rest := []) (ci := 6) ⟨hx, hb, hml, hown, hts⟩ hK hG hZ hS (k_X6_isSign l D cy ld t a0 43 ht_a0) trivial ⟨callB_of 1 hts (wl_in mw_590) rfl rfl rfl (htl _ mw_36) (htl _ mw_587) hd_yX6_isSign ⟨(Nat.le_of_ble_eq_true rfl), (Nat.le_of_ble_eq_true rfl)⟩, htl _ mw_588, htl _ mw_589⟩ ht_a0 (by decide) tk_no rfl (tk_w.pick [] rfl) rfl hl.1 rfl (Nat.le_of_ble_eq_true rfl) dX6_readSum_16 ⟨(Nat.le_of_ble_eq_true rfl), (Nat.le_of_ble_eq_true rfl)⟩ (fun v412 H locs hpo hG hS hq9 => ?_)
        have hf2 := hf2.call hq9 tk_w.nil
        obtain ⟨hpo414, hpo415, hpo416, hpo417⟩ := hpo
        refine lv_if_ne (tgt := 31) hx hb dX6_readSum_19 (by decide) (fun c9 => ?_) (fun c9 => ?_)
        · have hc418 : ¬ (v412.toInt = 0) := fun h9 => c9 ((fi_eq rfl (show (0 : Int32).toInt = 0 by decide)).mpr h9)
          refine lv_aload_n hx hb dX6_readSum_31 rfl (lv_at hl 1 rfl) ?_
          refine lv_bipush (v := 43) hx hb dX6_readSum_32 (by decide) ?_
          have hk_43 : (43 : Int32).toInt = 43 := by decide
          refine tk_Vi (As := [.int 43]) (rest := []) (ci := 6) ⟨hx, hb, hml, hown, hts⟩ hK hG hZ hS (k_X6_isSign l D cy ld t a0 43 ht_a0) trivial ⟨callB_of 1 hts (wl_in mw_590) rfl rfl rfl (htl _ mw_36) (htl _ mw_587) hd_yX6_isSign ⟨(Nat.le_of_ble_eq_true rfl), (Nat.le_of_ble_eq_true rfl)⟩, htl _ mw_588, htl _ mw_589⟩ ht_a0 (by decide) tk_no rfl (tk_w.pick [] rfl) rfl hl.1 rfl (Nat.le_of_ble_eq_true rfl) dX6_readSum_34 ⟨(Nat.le_of_ble_eq_true rfl), (Nat.le_of_ble_eq_true rfl)⟩ (fun v419 H locs hpo hG hS hq9 => ?_)
          have hf2 := hf2.call hq9 tk_w.nil
          obtain ⟨hpo421, hpo422, hpo423, hpo424⟩ := hpo
          have hj428 : ∀ (v427 : Int32), 6 ≤ v427.toInt → v427.toInt ≤ 7 → ∀ ls : Array Slot, lv_has ls 3 [(1, .int v3), (0, .ref a0)] → W p l e ({ frames := 26, cells := 0, slots := 0, locals := 1750 }) s m args below meth c H locs 0 0 (MQ below (tv D cy ld t [] (fun H => tk_f D H a0 6 9 (.int 3)) (tk_w t [(7, 0, 0), (20, 0, 0), (8, 12, 12)])) args s 0 0 (tk_w t [(7, 0, 0), (20, 0, 0), (8, 12, 12)])) (F0 m 47 ls [.int v427]) := by
            intro v427 hq0_j428 hq1_j428 ls hl
            refine lv_istore_n (lv' := [(2, .int v427), (1, .int v3), (0, .ref a0)]) hx hb dX6_readSum_47 rfl hl (by decide) rfl (fun ls hl => ?_)
            refine lv_aload_n hx hb dX6_readSum_48 rfl (lv_at hl 2 rfl) ?_
            have hk_3 : (3 : Int32).toInt = 3 := by decide
            refine tk_Vv (As := []) (rest := []) (ci := 6) ⟨hx, hb, hml, hown, hts⟩ hK hG hZ hS (k_X6_step l D cy ld t a0 3 ht_a0 (by omega) (by omega)) hf2 ⟨callB_of 0 hts (wl_in mw_494) rfl rfl rfl (htl _ mw_36) (htl _ mw_491) hd_yX6_step ⟨(Nat.le_of_ble_eq_true rfl), (Nat.le_of_ble_eq_true rfl)⟩, htl _ mw_492, htl _ mw_493⟩ ht_a0 (by decide) tk_no rfl (tk_w.pick [0] rfl) rfl hl.1 rfl (Nat.le_of_ble_eq_true rfl) dX6_readSum_49 ⟨(Nat.le_of_ble_eq_true rfl), (Nat.le_of_ble_eq_true rfl)⟩ (fun H locs hpo hG hS hq9 => ?_)
            have hf430 := hpo
            refine lv_aload_n hx hb dX6_readSum_52 rfl (lv_at hl 2 rfl) ?_
            refine tk_Vv (As := []) (rest := []) (ci := 6) ⟨hx, hb, hml, hown, hts⟩ hK hG hZ hS (k_X6_readTerm_3 l D cy ld t a0 ht_a0) hf430 ⟨callB_of 0 hts (wl_in mw_615) rfl rfl rfl (htl _ mw_36) (htl _ mw_584) hd_yX6_readTerm ⟨(Nat.le_of_ble_eq_true rfl), (Nat.le_of_ble_eq_true rfl)⟩, htl _ mw_585, htl _ mw_586⟩ ht_a0 (by decide) tk_no rfl (tk_w.pick [0, 1, 2] rfl) rfl hl.1 rfl (Nat.le_of_ble_eq_true rfl) dX6_readSum_53 ⟨(Nat.le_of_ble_eq_true rfl), (Nat.le_of_ble_eq_true rfl)⟩ (fun H locs hpo hG hS hq9 => ?_)
            have hf432 := hpo
            refine lv_aload_n hx hb dX6_readSum_56 rfl (lv_at hl 2 rfl) ?_
            refine tk_get (ci := 6) (C := RX6) (T := TX6) (N := 11) (sp := (6, 8, 512, 12)) hx hb htl inX6 hown hK hG ht_a0 (by decide) tk_no rfl 0 (by decide) (htl _ mw_132) (fun _ h9 => h9) rfl dX6_readSum_57 (fun v9 hf433 hV9 => ?_)
            obtain ⟨b434, rfl, ht_b434⟩ := hV9
            have ht_b434 : t b434 = (8, 512, 12) := ht_b434
            refine lv_iload_n hx hb dX6_readSum_60 rfl (lv_at hl 0 rfl) ?_
            refine lv_iconst (v := 0) hx hb dX6_readSum_61 (by decide) ?_
            have hk_0 : (0 : Int32).toInt = 0 := by decide
            refine tk_Vv (As := [.int v427, .int 0]) (rest := []) (ci := 7) ⟨hx, hb, hml, hown, hts⟩ hK hG hZ hS (k_X7_put l D cy ld t b434 v427 0 ht_b434) trivial ⟨callB_of 2 hts (wl_in mw_594) rfl rfl rfl (htl _ mw_131) (htl _ mw_591) hd_yX7_put ⟨(Nat.le_of_ble_eq_true rfl), (Nat.le_of_ble_eq_true rfl)⟩, htl _ mw_592, htl _ mw_593⟩ ht_b434 (by decide) tk_no rfl (tk_w.pick [1, 2] rfl) rfl hl.1 rfl (Nat.le_of_ble_eq_true rfl) dX6_readSum_62 ⟨(Nat.le_of_ble_eq_true rfl), (Nat.le_of_ble_eq_true rfl)⟩ (fun H locs hpo hG hS hq9 => ?_)
            have hf432 := hf432.call hq9 (tk_w.no ht_a0 (by decide))
            obtain ⟨v436, h_v436, e_v436⟩ := tk_inc v3 1 (by decide) (by omega) (by omega)
            refine lv_iinc (v := v436) (lv' := [(1, .int v436), (2, .int v427), (0, .ref a0)]) hx hb dX6_readSum_65 hl (k := 1) rfl e_v436 (by decide) rfl (fun ls hl => ?_)
            refine lv_goto (tgt := 6) hx hb dX6_readSum_68 (by decide) ?_
            exact ih_l410 v436 _ _ (by omega) (by omega) (by omega) hG hS hf432 _ (lv_sub hl [0, 2] rfl)
          refine lv_if_eq (tgt := 45) hx hb dX6_readSum_37 (by decide) (fun c9 => ?_) (fun c9 => ?_)
          · have hc425 : v419.toInt = 0 := (fi_eq rfl (show (0 : Int32).toInt = 0 by decide)).mp c9
            refine lv_bipush (v := 7) hx hb dX6_readSum_45 (by decide) ?_
            have hk_7 : (7 : Int32).toInt = 7 := by decide
            exact hj428 7 (by omega) (by omega) _ (lv_sub hl [0, 1] rfl)
          · have hc425 : ¬ (v419.toInt = 0) := fun h9 => c9 ((fi_eq rfl (show (0 : Int32).toInt = 0 by decide)).mpr h9)
            refine lv_bipush (v := 6) hx hb dX6_readSum_40 (by decide) ?_
            refine lv_goto (tgt := 47) hx hb dX6_readSum_42 (by decide) ?_
            have hk_6 : (6 : Int32).toInt = 6 := by decide
            exact hj428 6 (by omega) (by omega) _ (lv_sub hl [0, 1] rfl)
        · have hc418 : v412.toInt = 0 := (fi_eq rfl (show (0 : Int32).toInt = 0 by decide)).mp c9
          refine lv_aload_n hx hb dX6_readSum_22 rfl (lv_at hl 1 rfl) ?_
          refine lv_bipush (v := 45) hx hb dX6_readSum_23 (by decide) ?_
          have hk_45 : (45 : Int32).toInt = 45 := by decide
          refine tk_Vi (As := [.int 45]) (rest := []) (ci := 6) ⟨hx, hb, hml, hown, hts⟩ hK hG hZ hS (k_X6_isSign l D cy ld t a0 45 ht_a0) trivial ⟨callB_of 1 hts (wl_in mw_590) rfl rfl rfl (htl _ mw_36) (htl _ mw_587) hd_yX6_isSign ⟨(Nat.le_of_ble_eq_true rfl), (Nat.le_of_ble_eq_true rfl)⟩, htl _ mw_588, htl _ mw_589⟩ ht_a0 (by decide) tk_no rfl (tk_w.pick [] rfl) rfl hl.1 rfl (Nat.le_of_ble_eq_true rfl) dX6_readSum_25 ⟨(Nat.le_of_ble_eq_true rfl), (Nat.le_of_ble_eq_true rfl)⟩ (fun v437 H locs hpo hG hS hq9 => ?_)
          have hf2 := hf2.call hq9 tk_w.nil
          obtain ⟨hpo439, hpo440, hpo441, hpo442⟩ := hpo
          refine lv_if_eq (tgt := 71) hx hb dX6_readSum_28 (by decide) (fun c9 => ?_) (fun c9 => ?_)
          · have hc443 : v437.toInt = 0 := (fi_eq rfl (show (0 : Int32).toInt = 0 by decide)).mp c9
            exact tk_vret hx hb hr hlocks (show tk_f D H a0 6 9 (.int 3) from hf2) hG hS dX6_readSum_71
          · have hc443 : ¬ (v437.toInt = 0) := fun h9 => c9 ((fi_eq rfl (show (0 : Int32).toInt = 0 by decide)).mpr h9)
            refine lv_aload_n hx hb dX6_readSum_31 rfl (lv_at hl 1 rfl) ?_
            refine lv_bipush (v := 43) hx hb dX6_readSum_32 (by decide) ?_
            have hk_43 : (43 : Int32).toInt = 43 := by decide
            refine tk_Vi (As := [.int 43]) (rest := []) (ci := 6) ⟨hx, hb, hml, hown, hts⟩ hK hG hZ hS (k_X6_isSign l D cy ld t a0 43 ht_a0) trivial ⟨callB_of 1 hts (wl_in mw_590) rfl rfl rfl (htl _ mw_36) (htl _ mw_587) hd_yX6_isSign ⟨(Nat.le_of_ble_eq_true rfl), (Nat.le_of_ble_eq_true rfl)⟩, htl _ mw_588, htl _ mw_589⟩ ht_a0 (by decide) tk_no rfl (tk_w.pick [] rfl) rfl hl.1 rfl (Nat.le_of_ble_eq_true rfl) dX6_readSum_34 ⟨(Nat.le_of_ble_eq_true rfl), (Nat.le_of_ble_eq_true rfl)⟩ (fun v444 H locs hpo hG hS hq9 => ?_)
            have hf2 := hf2.call hq9 tk_w.nil
            obtain ⟨hpo446, hpo447, hpo448, hpo449⟩ := hpo
            have hj453 : ∀ (v452 : Int32), 6 ≤ v452.toInt → v452.toInt ≤ 7 → ∀ ls : Array Slot, lv_has ls 3 [(1, .int v3), (0, .ref a0)] → W p l e ({ frames := 26, cells := 0, slots := 0, locals := 1750 }) s m args below meth c H locs 0 0 (MQ below (tv D cy ld t [] (fun H => tk_f D H a0 6 9 (.int 3)) (tk_w t [(7, 0, 0), (20, 0, 0), (8, 12, 12)])) args s 0 0 (tk_w t [(7, 0, 0), (20, 0, 0), (8, 12, 12)])) (F0 m 47 ls [.int v452]) := by
              intro v452 hq0_j453 hq1_j453 ls hl
              refine lv_istore_n (lv' := [(2, .int v452), (1, .int v3), (0, .ref a0)]) hx hb dX6_readSum_47 rfl hl (by decide) rfl (fun ls hl => ?_)
              refine lv_aload_n hx hb dX6_readSum_48 rfl (lv_at hl 2 rfl) ?_
              have hk_3 : (3 : Int32).toInt = 3 := by decide
              refine tk_Vv (As := []) (rest := []) (ci := 6) ⟨hx, hb, hml, hown, hts⟩ hK hG hZ hS (k_X6_step l D cy ld t a0 3 ht_a0 (by omega) (by omega)) hf2 ⟨callB_of 0 hts (wl_in mw_494) rfl rfl rfl (htl _ mw_36) (htl _ mw_491) hd_yX6_step ⟨(Nat.le_of_ble_eq_true rfl), (Nat.le_of_ble_eq_true rfl)⟩, htl _ mw_492, htl _ mw_493⟩ ht_a0 (by decide) tk_no rfl (tk_w.pick [0] rfl) rfl hl.1 rfl (Nat.le_of_ble_eq_true rfl) dX6_readSum_49 ⟨(Nat.le_of_ble_eq_true rfl), (Nat.le_of_ble_eq_true rfl)⟩ (fun H locs hpo hG hS hq9 => ?_)
              have hf455 := hpo
              refine lv_aload_n hx hb dX6_readSum_52 rfl (lv_at hl 2 rfl) ?_
              refine tk_Vv (As := []) (rest := []) (ci := 6) ⟨hx, hb, hml, hown, hts⟩ hK hG hZ hS (k_X6_readTerm_3 l D cy ld t a0 ht_a0) hf455 ⟨callB_of 0 hts (wl_in mw_615) rfl rfl rfl (htl _ mw_36) (htl _ mw_584) hd_yX6_readTerm ⟨(Nat.le_of_ble_eq_true rfl), (Nat.le_of_ble_eq_true rfl)⟩, htl _ mw_585, htl _ mw_586⟩ ht_a0 (by decide) tk_no rfl (tk_w.pick [0, 1, 2] rfl) rfl hl.1 rfl (Nat.le_of_ble_eq_true rfl) dX6_readSum_53 ⟨(Nat.le_of_ble_eq_true rfl), (Nat.le_of_ble_eq_true rfl)⟩ (fun H locs hpo hG hS hq9 => ?_)
              have hf457 := hpo
              refine lv_aload_n hx hb dX6_readSum_56 rfl (lv_at hl 2 rfl) ?_
              refine tk_get (ci := 6) (C := RX6) (T := TX6) (N := 11) (sp := (6, 8, 512, 12)) hx hb htl inX6 hown hK hG ht_a0 (by decide) tk_no rfl 0 (by decide) (htl _ mw_132) (fun _ h9 => h9) rfl dX6_readSum_57 (fun v9 hf458 hV9 => ?_)
              obtain ⟨b459, rfl, ht_b459⟩ := hV9
              have ht_b459 : t b459 = (8, 512, 12) := ht_b459
              refine lv_iload_n hx hb dX6_readSum_60 rfl (lv_at hl 0 rfl) ?_
              refine lv_iconst (v := 0) hx hb dX6_readSum_61 (by decide) ?_
              have hk_0 : (0 : Int32).toInt = 0 := by decide
              refine tk_Vv (As := [.int v452, .int 0]) (rest := []) (ci := 7) ⟨hx, hb, hml, hown, hts⟩ hK hG hZ hS (k_X7_put l D cy ld t b459 v452 0 ht_b459) trivial ⟨callB_of 2 hts (wl_in mw_594) rfl rfl rfl (htl _ mw_131) (htl _ mw_591) hd_yX7_put ⟨(Nat.le_of_ble_eq_true rfl), (Nat.le_of_ble_eq_true rfl)⟩, htl _ mw_592, htl _ mw_593⟩ ht_b459 (by decide) tk_no rfl (tk_w.pick [1, 2] rfl) rfl hl.1 rfl (Nat.le_of_ble_eq_true rfl) dX6_readSum_62 ⟨(Nat.le_of_ble_eq_true rfl), (Nat.le_of_ble_eq_true rfl)⟩ (fun H locs hpo hG hS hq9 => ?_)
              have hf457 := hf457.call hq9 (tk_w.no ht_a0 (by decide))
              obtain ⟨v461, h_v461, e_v461⟩ := tk_inc v3 1 (by decide) (by omega) (by omega)
              refine lv_iinc (v := v461) (lv' := [(1, .int v461), (2, .int v452), (0, .ref a0)]) hx hb dX6_readSum_65 hl (k := 1) rfl e_v461 (by decide) rfl (fun ls hl => ?_)
              refine lv_goto (tgt := 6) hx hb dX6_readSum_68 (by decide) ?_
              exact ih_l410 v461 _ _ (by omega) (by omega) (by omega) hG hS hf457 _ (lv_sub hl [0, 2] rfl)
            refine lv_if_eq (tgt := 45) hx hb dX6_readSum_37 (by decide) (fun c9 => ?_) (fun c9 => ?_)
            · have hc450 : v444.toInt = 0 := (fi_eq rfl (show (0 : Int32).toInt = 0 by decide)).mp c9
              refine lv_bipush (v := 7) hx hb dX6_readSum_45 (by decide) ?_
              have hk_7 : (7 : Int32).toInt = 7 := by decide
              exact hj453 7 (by omega) (by omega) _ (lv_sub hl [0, 1] rfl)
            · have hc450 : ¬ (v444.toInt = 0) := fun h9 => c9 ((fi_eq rfl (show (0 : Int32).toInt = 0 by decide)).mpr h9)
              refine lv_bipush (v := 6) hx hb dX6_readSum_40 (by decide) ?_
              refine lv_goto (tgt := 47) hx hb dX6_readSum_42 (by decide) ?_
              have hk_6 : (6 : Int32).toInt = 6 := by decide
              exact hj453 6 (by omega) (by omega) _ (lv_sub hl [0, 1] rfl)
  have hk_0 : (0 : Int32).toInt = 0 := by decide
  exact hl410 401 0 _ _ (by omega) (by omega) (by omega) hG hS hf2 _ (lv_sub hl [0, 1] rfl)
set_option maxHeartbeats 4000000 in
set_option maxRecDepth 100000 in
theorem k_X6_readPart_2 (l : Launch) (D : va_G) (cy : Nat → ClassId) (ld : Nat → Nat) (t : tk_T) (a0 : Nat) (ht_a0 : t a0 = (7, 0, 0)) : Met l yX6_readPart (wl yX6_readPart cX6_readPart 3 none) ({ frames := 27, cells := 0, slots := 0, locals := 1820 }) (tp D cy ld t [] [.ref a0] (fun H => tk_f D H a0 6 9 (.int 2))) (tv D cy ld t [] (fun H => tk_f D H a0 6 9 (.int 2)) (tk_w t [(7, 0, 0), (20, 0, 0), (8, 12, 12)])) 0 0 (tk_w t [(7, 0, 0), (20, 0, 0), (8, 12, 12)]) := by
  refine tk_met (y := yX6_readPart) (cc := cX6_readPart) (maxL := 3) (ret := none) (av := [.ref a0]) _ _ (by decide) (Nat.le_of_ble_eq_true rfl) ?_
  intro p e s m args below meth c hx hb hr hml hts htl hown hlocks hK H locs hH hG hS hB hZ ls hl
  have hown : s.vm.findClass RX6 = some m.cls := hown
  have hl : lv_has ls 3 [(0, .ref a0)] := hl
  have hg_0 := hB
  refine lv_aload_n hx hb dX6_readPart_0 rfl (lv_at hl 0 rfl) ?_
  refine lv_bipush (v := 91) hx hb dX6_readPart_1 (by decide) ?_
  have hk_91 : (91 : Int32).toInt = 91 := by decide
  refine tk_Vi (As := [.int 91]) (rest := []) (ci := 6) ⟨hx, hb, hml, hown, hts⟩ hK hG hZ hS (k_X6_isSign l D cy ld t a0 91 ht_a0) trivial ⟨callB_of 1 hts (wl_in mw_590) rfl rfl rfl (htl _ mw_36) (htl _ mw_587) hd_yX6_isSign ⟨(Nat.le_of_ble_eq_true rfl), (Nat.le_of_ble_eq_true rfl)⟩, htl _ mw_588, htl _ mw_589⟩ ht_a0 (by decide) tk_no rfl (tk_w.pick [] rfl) rfl hl.1 rfl (Nat.le_of_ble_eq_true rfl) dX6_readPart_3 ⟨(Nat.le_of_ble_eq_true rfl), (Nat.le_of_ble_eq_true rfl)⟩ (fun v1 H locs hpo hG hS hq9 => ?_)
  have hg_0 := hg_0.call hq9 tk_w.nil
  obtain ⟨hpo3, hpo4, hpo5, hpo6⟩ := hpo
  refine lv_if_eq (tgt := 37) hx hb dX6_readPart_6 (by decide) (fun c9 => ?_) (fun c9 => ?_)
  · have hc7 : v1.toInt = 0 := (fi_eq rfl (show (0 : Int32).toInt = 0 by decide)).mp c9
    refine lv_aload_n hx hb dX6_readPart_37 rfl (lv_at hl 0 rfl) ?_
    refine tk_Vi (As := []) (rest := []) (ci := 6) ⟨hx, hb, hml, hown, hts⟩ hK hG hZ hS (k_X6_isGood l D cy ld t a0 ht_a0) trivial ⟨callB_of 0 hts (wl_in mw_503) rfl rfl rfl (htl _ mw_36) (htl _ mw_500) hd_yX6_isGood ⟨(Nat.le_of_ble_eq_true rfl), (Nat.le_of_ble_eq_true rfl)⟩, htl _ mw_501, htl _ mw_502⟩ ht_a0 (by decide) tk_no rfl (tk_w.pick [] rfl) rfl hl.1 rfl (Nat.le_of_ble_eq_true rfl) dX6_readPart_38 ⟨(Nat.le_of_ble_eq_true rfl), (Nat.le_of_ble_eq_true rfl)⟩ (fun v8 H locs hpo hG hS hq9 => ?_)
    have hg_0 := hg_0.call hq9 tk_w.nil
    obtain ⟨hpo10, hpo11, hpo12, hpo13⟩ := hpo
    have hj23 : ∀ (v22 : Int32), 0 ≤ v22.toInt → v22.toInt ≤ 1 → ∀ ls : Array Slot, lv_has ls 3 [(0, .ref a0)] → W p l e ({ frames := 27, cells := 0, slots := 0, locals := 1820 }) s m args below meth c H locs 0 0 (MQ below (tv D cy ld t [] (fun H => tk_f D H a0 6 9 (.int 2)) (tk_w t [(7, 0, 0), (20, 0, 0), (8, 12, 12)])) args s 0 0 (tk_w t [(7, 0, 0), (20, 0, 0), (8, 12, 12)])) (F0 m 67 ls [.int v22]) := by
      intro v22 hq0_j23 hq1_j23 ls hl
      refine lv_istore_n (lv' := [(1, .int v22), (0, .ref a0)]) hx hb dX6_readPart_67 rfl hl (by decide) rfl (fun ls hl => ?_)
      refine lv_aload_n hx hb dX6_readPart_68 rfl (lv_at hl 1 rfl) ?_
      refine lv_aload_n hx hb dX6_readPart_69 rfl (lv_at hl 1 rfl) ?_
      refine tk_get (ci := 6) (C := RX6) (T := TX6) (N := 11) (sp := (0, 0, 1, 0)) hx hb htl inX6 hown hK hG ht_a0 (by decide) tk_no rfl 3 (by decide) (htl _ mw_477) (fun _ h9 => h9) rfl dX6_readPart_70 (fun v9 hf24 hV9 => ?_)
      obtain ⟨v25, rfl, (ha_v25 : 0 ≤ v25.toInt), (hb_v25 : v25.toInt ≤ 1)⟩ := hV9
      refine lv_if_eq (tgt := 81) hx hb dX6_readPart_73 (by decide) (fun c9 => ?_) (fun c9 => ?_)
      · have hc26 : v25.toInt = 0 := (fi_eq rfl (show (0 : Int32).toInt = 0 by decide)).mp c9
        refine va_ldcS hx hb hown hK.2.2.2.2.2.2.2.1 dX6_readPart_81 ?_
        refine tk_Vi (As := [.ref (ld 3)]) (rest := []) (ci := 6) ⟨hx, hb, hml, hown, hts⟩ hK hG hZ hS (k_X6_wordAmong_3 l D cy ld t a0 ht_a0) trivial ⟨callB_of 1 hts (wl_in mw_517) rfl rfl rfl (htl _ mw_36) (htl _ mw_514) hd_yX6_wordAmong ⟨(Nat.le_of_ble_eq_true rfl), (Nat.le_of_ble_eq_true rfl)⟩, htl _ mw_515, htl _ mw_516⟩ ht_a0 (by decide) tk_no rfl (tk_w.pick [] rfl) rfl hl.1 rfl (Nat.le_of_ble_eq_true rfl) dX6_readPart_83 ⟨(Nat.le_of_ble_eq_true rfl), (Nat.le_of_ble_eq_true rfl)⟩ (fun v27 H locs hpo hG hS hq9 => ?_)
        have hg_0 := hg_0.call hq9 tk_w.nil
        obtain ⟨hpo29, hpo30⟩ := hpo
        refine lv_istore_n (lv' := [(2, .int v27), (1, .int v22), (0, .ref a0)]) hx hb dX6_readPart_86 rfl hl (by decide) rfl (fun ls hl => ?_)
        refine lv_iload_n hx hb dX6_readPart_87 rfl (lv_at hl 1 rfl) ?_
        refine lv_if_ne (tgt := 96) hx hb dX6_readPart_88 (by decide) (fun c9 => ?_) (fun c9 => ?_)
        · have hc31 : ¬ (v22.toInt = 0) := fun h9 => c9 ((fi_eq rfl (show (0 : Int32).toInt = 0 by decide)).mpr h9)
          refine lv_aload_n hx hb dX6_readPart_96 rfl (lv_at hl 2 rfl) ?_
          refine tk_get (ci := 6) (C := RX6) (T := TX6) (N := 11) (sp := (0, (-2147483648), 2147483647, 0)) hx hb htl inX6 hown hK hG ht_a0 (by decide) tk_no rfl 8 (by decide) (htl _ mw_479) (fun _ h9 => h9) rfl dX6_readPart_97 (fun v9 hf32 hV9 => ?_)
          obtain ⟨v33, rfl, (ha_v33 : (-2147483648) ≤ v33.toInt), (hb_v33 : v33.toInt ≤ 2147483647)⟩ := hV9
          refine lv_bipush (v := 50) hx hb dX6_readPart_100 (by decide) ?_
          refine lv_icmp_lt (tgt := 110) hx hb dX6_readPart_102 (by decide) (fun c9 => ?_) (fun c9 => ?_)
          · have hc34 : v33.toInt < 50 := (fi_lt rfl (show (50 : Int32).toInt = 50 by decide)).mp c9
            refine lv_aload_n hx hb dX6_readPart_110 rfl (lv_at hl 2 rfl) ?_
            refine lv_dup hx hb dX6_readPart_111 rfl ?_
            refine tk_get (ci := 6) (C := RX6) (T := TX6) (N := 11) (sp := (0, (-2147483648), 2147483647, 0)) hx hb htl inX6 hown hK hG ht_a0 (by decide) tk_no rfl 8 (by decide) (htl _ mw_479) (fun _ h9 => h9) rfl dX6_readPart_112 (fun v9 hf35 hV9 => ?_)
            obtain ⟨v36, rfl, (ha_v36 : (-2147483648) ≤ v36.toInt), (hb_v36 : v36.toInt ≤ 2147483647)⟩ := hV9
            refine lv_iconst (v := 1) hx hb dX6_readPart_115 (by decide) ?_
            refine lv_iadd hx hb dX6_readPart_116 ?_
            obtain ⟨v37, hm_v37⟩ : ∃ z : Int32, v36 + 1 = z := ⟨_, rfl⟩
            refine fx_ti hm_v37 ?_
            refine tk_put (ci := 6) (v := .int v37) (ty := .int) (C := RX6) (T := TX6) (N := 11) (sp := (0, (-2147483648), 2147483647, 0)) hx hb htl inX6 tyX6 tyX6_ok nmX6 hown hK hG hS ht_a0 (by decide) tk_no rfl 8 (by decide) (htl _ mw_479) (fun _ h9 => h9) rfl (tyX6_ok 8 (by decide)) rfl rfl rfl (tk_V0 (tk_rng _).1 (tk_rng _).2) (fun _ h => tk_X7 h (by decide) (by decide)) (tk_w.of ht_a0 (by decide) (List.mem_of_getElem? (i := 0) rfl) (Nat.le_refl _) (Nat.le_refl _)) dX6_readPart_117 (fun H locs hG hS hf38 hq9 hj9 => ?_)
            have hg_0 := hj9 9 _ (by decide) (by decide) hg_0
            refine lv_iload_n hx hb dX6_readPart_120 rfl (lv_at hl 1 rfl) ?_
            refine lv_if_eq (tgt := 143) hx hb dX6_readPart_121 (by decide) (fun c9 => absurd (show v22.toInt = 0 from (fi_eq rfl (show (0 : Int32).toInt = 0 by decide)).mp c9) (by omega)) (fun _ => ?_)
            refine lv_aload_n hx hb dX6_readPart_124 rfl (lv_at hl 2 rfl) ?_
            refine tk_get (ci := 6) (C := RX6) (T := TX6) (N := 11) (sp := (6, 8, 512, 12)) hx hb htl inX6 hown hK hG ht_a0 (by decide) tk_no rfl 0 (by decide) (htl _ mw_132) (fun _ h9 => h9) rfl dX6_readPart_125 (fun v9 hf40 hV9 => ?_)
            obtain ⟨b41, rfl, ht_b41⟩ := hV9
            have ht_b41 : t b41 = (8, 512, 12) := ht_b41
            refine lv_iconst (v := 1) hx hb dX6_readPart_128 (by decide) ?_
            refine lv_aload_n hx hb dX6_readPart_129 rfl (lv_at hl 2 rfl) ?_
            refine tk_get (ci := 6) (C := RX6) (T := TX6) (N := 11) (sp := (0, (-2147483648), 2147483647, 0)) hx hb htl inX6 hown hK hG ht_a0 (by decide) tk_no rfl 7 (by decide) (htl _ mw_496) (fun _ h9 => h9) rfl dX6_readPart_130 (fun v9 hf42 hV9 => ?_)
            obtain ⟨v43, rfl, (ha_v43 : (-2147483648) ≤ v43.toInt), (hb_v43 : v43.toInt ≤ 2147483647)⟩ := hV9
            have hk_1 : (1 : Int32).toInt = 1 := by decide
            refine tk_Vv (As := [.int 1, .int v43]) (rest := []) (ci := 7) ⟨hx, hb, hml, hown, hts⟩ hK hG hZ hS (k_X7_put l D cy ld t b41 1 v43 ht_b41) trivial ⟨callB_of 2 hts (wl_in mw_594) rfl rfl rfl (htl _ mw_131) (htl _ mw_591) hd_yX7_put ⟨(Nat.le_of_ble_eq_true rfl), (Nat.le_of_ble_eq_true rfl)⟩, htl _ mw_592, htl _ mw_593⟩ ht_b41 (by decide) tk_no rfl (tk_w.pick [1, 2] rfl) rfl hl.1 rfl (Nat.le_of_ble_eq_true rfl) dX6_readPart_133 ⟨(Nat.le_of_ble_eq_true rfl), (Nat.le_of_ble_eq_true rfl)⟩ (fun H locs hpo hG hS hq9 => ?_)
            have hg_0 := hg_0.call hq9 (tk_w.no ht_a0 (by decide))
            have hf42 := hf42.call hq9 (tk_w.no ht_a0 (by decide))
            refine lv_aload_n hx hb dX6_readPart_136 rfl (lv_at hl 2 rfl) ?_
            have hk_2 : (2 : Int32).toInt = 2 := by decide
            refine tk_Vv (As := []) (rest := []) (ci := 6) ⟨hx, hb, hml, hown, hts⟩ hK hG hZ hS (k_X6_step l D cy ld t a0 2 ht_a0 (by omega) (by omega)) hg_0 ⟨callB_of 0 hts (wl_in mw_494) rfl rfl rfl (htl _ mw_36) (htl _ mw_491) hd_yX6_step ⟨(Nat.le_of_ble_eq_true rfl), (Nat.le_of_ble_eq_true rfl)⟩, htl _ mw_492, htl _ mw_493⟩ ht_a0 (by decide) tk_no rfl (tk_w.pick [0] rfl) rfl hl.1 rfl (Nat.le_of_ble_eq_true rfl) dX6_readPart_137 ⟨(Nat.le_of_ble_eq_true rfl), (Nat.le_of_ble_eq_true rfl)⟩ (fun H locs hpo hG hS hq9 => ?_)
            have hf46 := hpo
            refine lv_goto (tgt := 175) hx hb dX6_readPart_140 (by decide) ?_
            exact tk_vret hx hb hr hlocks (show tk_f D H a0 6 9 (.int 2) from hf46) hG hS dX6_readPart_175
          · have hc34 : ¬ (v33.toInt < 50) := fun h9 => c9 ((fi_lt rfl (show (50 : Int32).toInt = 50 by decide)).mpr h9)
            refine lv_aload_n hx hb dX6_readPart_105 rfl (lv_at hl 2 rfl) ?_
            have hk_2 : (2 : Int32).toInt = 2 := by decide
            refine tk_Vv (As := []) (rest := []) (ci := 6) ⟨hx, hb, hml, hown, hts⟩ hK hG hZ hS (k_X6_fail l D cy ld t a0 2 ht_a0 (by omega) (by omega)) hg_0 ⟨callB_of 0 hts (wl_in mw_507) rfl rfl rfl (htl _ mw_36) (htl _ mw_504) hd_yX6_fail ⟨(Nat.le_of_ble_eq_true rfl), (Nat.le_of_ble_eq_true rfl)⟩, htl _ mw_505, htl _ mw_506⟩ ht_a0 (by decide) tk_no rfl (tk_w.pick [0] rfl) rfl hl.1 rfl (Nat.le_of_ble_eq_true rfl) dX6_readPart_106 ⟨(Nat.le_of_ble_eq_true rfl), (Nat.le_of_ble_eq_true rfl)⟩ (fun H locs hpo hG hS hq9 => ?_)
            have hf48 := hpo
            exact tk_vret hx hb hr hlocks (show tk_f D H a0 6 9 (.int 2) from hf48) hG hS dX6_readPart_109
        · have hc31 : v22.toInt = 0 := (fi_eq rfl (show (0 : Int32).toInt = 0 by decide)).mp c9
          refine lv_iload_n hx hb dX6_readPart_91 rfl (lv_at hl 0 rfl) ?_
          refine lv_iconst (v := (-1)) hx hb dX6_readPart_92 (by decide) ?_
          refine lv_icmp_eq (tgt := 105) hx hb dX6_readPart_93 (by decide) (fun c9 => ?_) (fun c9 => ?_)
          · have hc49 : v27.toInt = (-1) := (fi_eq rfl (show ((-1) : Int32).toInt = (-1) by decide)).mp c9
            refine lv_aload_n hx hb dX6_readPart_105 rfl (lv_at hl 2 rfl) ?_
            have hk_2 : (2 : Int32).toInt = 2 := by decide
            refine tk_Vv (As := []) (rest := []) (ci := 6) ⟨hx, hb, hml, hown, hts⟩ hK hG hZ hS (k_X6_fail l D cy ld t a0 2 ht_a0 (by omega) (by omega)) hg_0 ⟨callB_of 0 hts (wl_in mw_507) rfl rfl rfl (htl _ mw_36) (htl _ mw_504) hd_yX6_fail ⟨(Nat.le_of_ble_eq_true rfl), (Nat.le_of_ble_eq_true rfl)⟩, htl _ mw_505, htl _ mw_506⟩ ht_a0 (by decide) tk_no rfl (tk_w.pick [0] rfl) rfl hl.1 rfl (Nat.le_of_ble_eq_true rfl) dX6_readPart_106 ⟨(Nat.le_of_ble_eq_true rfl), (Nat.le_of_ble_eq_true rfl)⟩ (fun H locs hpo hG hS hq9 => ?_)
            have hf51 := hpo
            exact tk_vret hx hb hr hlocks (show tk_f D H a0 6 9 (.int 2) from hf51) hG hS dX6_readPart_109
          · have hc49 : ¬ (v27.toInt = (-1)) := fun h9 => c9 ((fi_eq rfl (show ((-1) : Int32).toInt = (-1) by decide)).mpr h9)
            refine lv_aload_n hx hb dX6_readPart_96 rfl (lv_at hl 2 rfl) ?_
            refine tk_get (ci := 6) (C := RX6) (T := TX6) (N := 11) (sp := (0, (-2147483648), 2147483647, 0)) hx hb htl inX6 hown hK hG ht_a0 (by decide) tk_no rfl 8 (by decide) (htl _ mw_479) (fun _ h9 => h9) rfl dX6_readPart_97 (fun v9 hf52 hV9 => ?_)
            obtain ⟨v53, rfl, (ha_v53 : (-2147483648) ≤ v53.toInt), (hb_v53 : v53.toInt ≤ 2147483647)⟩ := hV9
            refine lv_bipush (v := 50) hx hb dX6_readPart_100 (by decide) ?_
            refine lv_icmp_lt (tgt := 110) hx hb dX6_readPart_102 (by decide) (fun c9 => ?_) (fun c9 => ?_)
            · have hc54 : v53.toInt < 50 := (fi_lt rfl (show (50 : Int32).toInt = 50 by decide)).mp c9
              refine lv_aload_n hx hb dX6_readPart_110 rfl (lv_at hl 2 rfl) ?_
              refine lv_dup hx hb dX6_readPart_111 rfl ?_
              refine tk_get (ci := 6) (C := RX6) (T := TX6) (N := 11) (sp := (0, (-2147483648), 2147483647, 0)) hx hb htl inX6 hown hK hG ht_a0 (by decide) tk_no rfl 8 (by decide) (htl _ mw_479) (fun _ h9 => h9) rfl dX6_readPart_112 (fun v9 hf55 hV9 => ?_)
              obtain ⟨v56, rfl, (ha_v56 : (-2147483648) ≤ v56.toInt), (hb_v56 : v56.toInt ≤ 2147483647)⟩ := hV9
              refine lv_iconst (v := 1) hx hb dX6_readPart_115 (by decide) ?_
              refine lv_iadd hx hb dX6_readPart_116 ?_
              obtain ⟨v57, hm_v57⟩ : ∃ z : Int32, v56 + 1 = z := ⟨_, rfl⟩
              refine fx_ti hm_v57 ?_
              refine tk_put (ci := 6) (v := .int v57) (ty := .int) (C := RX6) (T := TX6) (N := 11) (sp := (0, (-2147483648), 2147483647, 0)) hx hb htl inX6 tyX6 tyX6_ok nmX6 hown hK hG hS ht_a0 (by decide) tk_no rfl 8 (by decide) (htl _ mw_479) (fun _ h9 => h9) rfl (tyX6_ok 8 (by decide)) rfl rfl rfl (tk_V0 (tk_rng _).1 (tk_rng _).2) (fun _ h => tk_X7 h (by decide) (by decide)) (tk_w.of ht_a0 (by decide) (List.mem_of_getElem? (i := 0) rfl) (Nat.le_refl _) (Nat.le_refl _)) dX6_readPart_117 (fun H locs hG hS hf58 hq9 hj9 => ?_)
              have hg_0 := hj9 9 _ (by decide) (by decide) hg_0
              refine lv_iload_n hx hb dX6_readPart_120 rfl (lv_at hl 1 rfl) ?_
              refine lv_if_eq (tgt := 143) hx hb dX6_readPart_121 (by decide) (fun _ => ?_) (fun c9 => absurd ((fi_eq rfl (show (0 : Int32).toInt = 0 by decide)).mpr (show v22.toInt = 0 by omega)) c9)
              refine lv_aload_n hx hb dX6_readPart_143 rfl (lv_at hl 2 rfl) ?_
              have hk_2 : (2 : Int32).toInt = 2 := by decide
              refine tk_Vv (As := []) (rest := []) (ci := 6) ⟨hx, hb, hml, hown, hts⟩ hK hG hZ hS (k_X6_step l D cy ld t a0 2 ht_a0 (by omega) (by omega)) hg_0 ⟨callB_of 0 hts (wl_in mw_494) rfl rfl rfl (htl _ mw_36) (htl _ mw_491) hd_yX6_step ⟨(Nat.le_of_ble_eq_true rfl), (Nat.le_of_ble_eq_true rfl)⟩, htl _ mw_492, htl _ mw_493⟩ ht_a0 (by decide) tk_no rfl (tk_w.pick [0] rfl) rfl hl.1 rfl (Nat.le_of_ble_eq_true rfl) dX6_readPart_144 ⟨(Nat.le_of_ble_eq_true rfl), (Nat.le_of_ble_eq_true rfl)⟩ (fun H locs hpo hG hS hq9 => ?_)
              have hf61 := hpo
              refine lv_aload_n hx hb dX6_readPart_147 rfl (lv_at hl 2 rfl) ?_
              refine tk_get (ci := 6) (C := RX6) (T := TX6) (N := 11) (sp := (6, 8, 512, 12)) hx hb htl inX6 hown hK hG ht_a0 (by decide) tk_no rfl 0 (by decide) (htl _ mw_132) (fun _ h9 => h9) rfl dX6_readPart_148 (fun v9 hf62 hV9 => ?_)
              obtain ⟨b63, rfl, ht_b63⟩ := hV9
              have ht_b63 : t b63 = (8, 512, 12) := ht_b63
              refine lv_iconst (v := 2) hx hb dX6_readPart_151 (by decide) ?_
              refine lv_aload_n hx hb dX6_readPart_152 rfl (lv_at hl 2 rfl) ?_
              refine tk_get (ci := 6) (C := RX6) (T := TX6) (N := 11) (sp := (0, 0, 1, 0)) hx hb htl inX6 hown hK hG ht_a0 (by decide) tk_no rfl 3 (by decide) (htl _ mw_477) (fun _ h9 => h9) rfl dX6_readPart_153 (fun v9 hf64 hV9 => ?_)
              obtain ⟨v65, rfl, (ha_v65 : 0 ≤ v65.toInt), (hb_v65 : v65.toInt ≤ 1)⟩ := hV9
              have hj76 : ∀ (v74 : Int32) (H : Heap) (locs : List Loc), tk_G D cy ld t [] H → va_S (tk_w t [(7, 0, 0), (20, 0, 0), (8, 12, 12)]) s.heap H locs → tk_f D H a0 6 9 (.int 2) → ∀ ls : Array Slot, lv_has ls 3 [] → W p l e ({ frames := 27, cells := 0, slots := 0, locals := 1820 }) s m args below meth c H locs 0 0 (MQ below (tv D cy ld t [] (fun H => tk_f D H a0 6 9 (.int 2)) (tk_w t [(7, 0, 0), (20, 0, 0), (8, 12, 12)])) args s 0 0 (tk_w t [(7, 0, 0), (20, 0, 0), (8, 12, 12)])) (F0 m 172 ls [.int v74, .int 2, .ref b63]) := by
                intro v74 H locs hG hS hf69 ls hl
                have hk_2 : (2 : Int32).toInt = 2 := by decide
                refine tk_Vv (As := [.int 2, .int v74]) (rest := []) (ci := 7) ⟨hx, hb, hml, hown, hts⟩ hK hG hZ hS (k_X7_put l D cy ld t b63 2 v74 ht_b63) trivial ⟨callB_of 2 hts (wl_in mw_594) rfl rfl rfl (htl _ mw_131) (htl _ mw_591) hd_yX7_put ⟨(Nat.le_of_ble_eq_true rfl), (Nat.le_of_ble_eq_true rfl)⟩, htl _ mw_592, htl _ mw_593⟩ ht_b63 (by decide) tk_no rfl (tk_w.pick [1, 2] rfl) rfl hl.1 rfl (Nat.le_of_ble_eq_true rfl) dX6_readPart_172 ⟨(Nat.le_of_ble_eq_true rfl), (Nat.le_of_ble_eq_true rfl)⟩ (fun H locs hpo hG hS hq9 => ?_)
                have hf69 := hf69.call hq9 (tk_w.no ht_a0 (by decide))
                exact tk_vret hx hb hr hlocks (show tk_f D H a0 6 9 (.int 2) from hf69) hG hS dX6_readPart_175
              refine lv_if_eq (tgt := 167) hx hb dX6_readPart_156 (by decide) (fun c9 => ?_) (fun c9 => ?_)
              · have hc66 : v65.toInt = 0 := (fi_eq rfl (show (0 : Int32).toInt = 0 by decide)).mp c9
                refine lv_aload_n hx hb dX6_readPart_167 rfl (lv_at hl 2 rfl) ?_
                refine lv_iload_n hx hb dX6_readPart_168 rfl (lv_at hl 0 rfl) ?_
                have hk_2 : (2 : Int32).toInt = 2 := by decide
                refine tk_Vi (As := [.int v27]) (rest := [.int 2, .ref b63]) (ci := 6) ⟨hx, hb, hml, hown, hts⟩ hK hG hZ hS (k_X6_readOwner l D cy ld t a0 v27 2 ht_a0 (by omega) (by omega)) hf61 ⟨callB_of 1 hts (wl_in mw_614) rfl rfl rfl (htl _ mw_36) (htl _ mw_611) hd_yX6_readOwner ⟨(Nat.le_of_ble_eq_true rfl), (Nat.le_of_ble_eq_true rfl)⟩, htl _ mw_612, htl _ mw_613⟩ ht_a0 (by decide) tk_no rfl (tk_w.pick [0] rfl) rfl hl.1 rfl (Nat.le_of_ble_eq_true rfl) dX6_readPart_169 ⟨(Nat.le_of_ble_eq_true rfl), (Nat.le_of_ble_eq_true rfl)⟩ (fun v78 H locs hpo hG hS hq9 => ?_)
                have hf80 := hpo
                exact hj76 v78 _ _ hG hS hf80 _ (lv_sub hl [] rfl)
              · have hc66 : ¬ (v65.toInt = 0) := fun h9 => c9 ((fi_eq rfl (show (0 : Int32).toInt = 0 by decide)).mpr h9)
                refine lv_aload_n hx hb dX6_readPart_159 rfl (lv_at hl 2 rfl) ?_
                refine lv_iload_n hx hb dX6_readPart_160 rfl (lv_at hl 0 rfl) ?_
                refine tk_Vi (As := [.int v27]) (rest := [.int 2, .ref b63]) (ci := 6) ⟨hx, hb, hml, hown, hts⟩ hK hG hZ hS (k_X6_noteLawWord l D cy ld t a0 v27 ht_a0) trivial ⟨callB_of 1 hts (wl_in mw_607) rfl rfl rfl (htl _ mw_36) (htl _ mw_604) hd_yX6_noteLawWord ⟨(Nat.le_of_ble_eq_true rfl), (Nat.le_of_ble_eq_true rfl)⟩, htl _ mw_605, htl _ mw_606⟩ ht_a0 (by decide) tk_no rfl (tk_w.pick [2] rfl) rfl hl.1 rfl (Nat.le_of_ble_eq_true rfl) dX6_readPart_161 ⟨(Nat.le_of_ble_eq_true rfl), (Nat.le_of_ble_eq_true rfl)⟩ (fun v81 H locs hpo hG hS hq9 => ?_)
                have hf61 := hf61.call hq9 (tk_w.no ht_a0 (by decide))
                refine lv_goto (tgt := 172) hx hb dX6_readPart_164 (by decide) ?_
                exact hj76 v81 _ _ hG hS hf61 _ (lv_sub hl [] rfl)
            · have hc54 : ¬ (v53.toInt < 50) := fun h9 => c9 ((fi_lt rfl (show (50 : Int32).toInt = 50 by decide)).mpr h9)
              refine lv_aload_n hx hb dX6_readPart_105 rfl (lv_at hl 2 rfl) ?_
              have hk_2 : (2 : Int32).toInt = 2 := by decide
              refine tk_Vv (As := []) (rest := []) (ci := 6) ⟨hx, hb, hml, hown, hts⟩ hK hG hZ hS (k_X6_fail l D cy ld t a0 2 ht_a0 (by omega) (by omega)) hg_0 ⟨callB_of 0 hts (wl_in mw_507) rfl rfl rfl (htl _ mw_36) (htl _ mw_504) hd_yX6_fail ⟨(Nat.le_of_ble_eq_true rfl), (Nat.le_of_ble_eq_true rfl)⟩, htl _ mw_505, htl _ mw_506⟩ ht_a0 (by decide) tk_no rfl (tk_w.pick [0] rfl) rfl hl.1 rfl (Nat.le_of_ble_eq_true rfl) dX6_readPart_106 ⟨(Nat.le_of_ble_eq_true rfl), (Nat.le_of_ble_eq_true rfl)⟩ (fun H locs hpo hG hS hq9 => ?_)
              have hf84 := hpo
              exact tk_vret hx hb hr hlocks (show tk_f D H a0 6 9 (.int 2) from hf84) hG hS dX6_readPart_109
      · have hc26 : ¬ (v25.toInt = 0) := fun h9 => c9 ((fi_eq rfl (show (0 : Int32).toInt = 0 by decide)).mpr h9)
        refine va_ldcS hx hb hown hK.2.2.2.2.2.2.1 dX6_readPart_76 ?_
        refine lv_goto (tgt := 83) hx hb dX6_readPart_78 (by decide) ?_
        refine tk_Vi (As := [.ref (ld 2)]) (rest := []) (ci := 6) ⟨hx, hb, hml, hown, hts⟩ hK hG hZ hS (k_X6_wordAmong_2 l D cy ld t a0 ht_a0) trivial ⟨callB_of 1 hts (wl_in mw_517) rfl rfl rfl (htl _ mw_36) (htl _ mw_514) hd_yX6_wordAmong ⟨(Nat.le_of_ble_eq_true rfl), (Nat.le_of_ble_eq_true rfl)⟩, htl _ mw_515, htl _ mw_516⟩ ht_a0 (by decide) tk_no rfl (tk_w.pick [] rfl) rfl hl.1 rfl (Nat.le_of_ble_eq_true rfl) dX6_readPart_83 ⟨(Nat.le_of_ble_eq_true rfl), (Nat.le_of_ble_eq_true rfl)⟩ (fun v85 H locs hpo hG hS hq9 => ?_)
        have hg_0 := hg_0.call hq9 tk_w.nil
        obtain ⟨hpo87, hpo88⟩ := hpo
        refine lv_istore_n (lv' := [(2, .int v85), (1, .int v22), (0, .ref a0)]) hx hb dX6_readPart_86 rfl hl (by decide) rfl (fun ls hl => ?_)
        refine lv_iload_n hx hb dX6_readPart_87 rfl (lv_at hl 1 rfl) ?_
        refine lv_if_ne (tgt := 96) hx hb dX6_readPart_88 (by decide) (fun c9 => ?_) (fun c9 => ?_)
        · have hc89 : ¬ (v22.toInt = 0) := fun h9 => c9 ((fi_eq rfl (show (0 : Int32).toInt = 0 by decide)).mpr h9)
          refine lv_aload_n hx hb dX6_readPart_96 rfl (lv_at hl 2 rfl) ?_
          refine tk_get (ci := 6) (C := RX6) (T := TX6) (N := 11) (sp := (0, (-2147483648), 2147483647, 0)) hx hb htl inX6 hown hK hG ht_a0 (by decide) tk_no rfl 8 (by decide) (htl _ mw_479) (fun _ h9 => h9) rfl dX6_readPart_97 (fun v9 hf90 hV9 => ?_)
          obtain ⟨v91, rfl, (ha_v91 : (-2147483648) ≤ v91.toInt), (hb_v91 : v91.toInt ≤ 2147483647)⟩ := hV9
          refine lv_bipush (v := 50) hx hb dX6_readPart_100 (by decide) ?_
          refine lv_icmp_lt (tgt := 110) hx hb dX6_readPart_102 (by decide) (fun c9 => ?_) (fun c9 => ?_)
          · have hc92 : v91.toInt < 50 := (fi_lt rfl (show (50 : Int32).toInt = 50 by decide)).mp c9
            refine lv_aload_n hx hb dX6_readPart_110 rfl (lv_at hl 2 rfl) ?_
            refine lv_dup hx hb dX6_readPart_111 rfl ?_
            refine tk_get (ci := 6) (C := RX6) (T := TX6) (N := 11) (sp := (0, (-2147483648), 2147483647, 0)) hx hb htl inX6 hown hK hG ht_a0 (by decide) tk_no rfl 8 (by decide) (htl _ mw_479) (fun _ h9 => h9) rfl dX6_readPart_112 (fun v9 hf93 hV9 => ?_)
            obtain ⟨v94, rfl, (ha_v94 : (-2147483648) ≤ v94.toInt), (hb_v94 : v94.toInt ≤ 2147483647)⟩ := hV9
            refine lv_iconst (v := 1) hx hb dX6_readPart_115 (by decide) ?_
            refine lv_iadd hx hb dX6_readPart_116 ?_
            obtain ⟨v95, hm_v95⟩ : ∃ z : Int32, v94 + 1 = z := ⟨_, rfl⟩
            refine fx_ti hm_v95 ?_
            refine tk_put (ci := 6) (v := .int v95) (ty := .int) (C := RX6) (T := TX6) (N := 11) (sp := (0, (-2147483648), 2147483647, 0)) hx hb htl inX6 tyX6 tyX6_ok nmX6 hown hK hG hS ht_a0 (by decide) tk_no rfl 8 (by decide) (htl _ mw_479) (fun _ h9 => h9) rfl (tyX6_ok 8 (by decide)) rfl rfl rfl (tk_V0 (tk_rng _).1 (tk_rng _).2) (fun _ h => tk_X7 h (by decide) (by decide)) (tk_w.of ht_a0 (by decide) (List.mem_of_getElem? (i := 0) rfl) (Nat.le_refl _) (Nat.le_refl _)) dX6_readPart_117 (fun H locs hG hS hf96 hq9 hj9 => ?_)
            have hg_0 := hj9 9 _ (by decide) (by decide) hg_0
            refine lv_iload_n hx hb dX6_readPart_120 rfl (lv_at hl 1 rfl) ?_
            refine lv_if_eq (tgt := 143) hx hb dX6_readPart_121 (by decide) (fun c9 => absurd (show v22.toInt = 0 from (fi_eq rfl (show (0 : Int32).toInt = 0 by decide)).mp c9) (by omega)) (fun _ => ?_)
            refine lv_aload_n hx hb dX6_readPart_124 rfl (lv_at hl 2 rfl) ?_
            refine tk_get (ci := 6) (C := RX6) (T := TX6) (N := 11) (sp := (6, 8, 512, 12)) hx hb htl inX6 hown hK hG ht_a0 (by decide) tk_no rfl 0 (by decide) (htl _ mw_132) (fun _ h9 => h9) rfl dX6_readPart_125 (fun v9 hf98 hV9 => ?_)
            obtain ⟨b99, rfl, ht_b99⟩ := hV9
            have ht_b99 : t b99 = (8, 512, 12) := ht_b99
            refine lv_iconst (v := 1) hx hb dX6_readPart_128 (by decide) ?_
            refine lv_aload_n hx hb dX6_readPart_129 rfl (lv_at hl 2 rfl) ?_
            refine tk_get (ci := 6) (C := RX6) (T := TX6) (N := 11) (sp := (0, (-2147483648), 2147483647, 0)) hx hb htl inX6 hown hK hG ht_a0 (by decide) tk_no rfl 7 (by decide) (htl _ mw_496) (fun _ h9 => h9) rfl dX6_readPart_130 (fun v9 hf100 hV9 => ?_)
            obtain ⟨v101, rfl, (ha_v101 : (-2147483648) ≤ v101.toInt), (hb_v101 : v101.toInt ≤ 2147483647)⟩ := hV9
            have hk_1 : (1 : Int32).toInt = 1 := by decide
            refine tk_Vv (As := [.int 1, .int v101]) (rest := []) (ci := 7) ⟨hx, hb, hml, hown, hts⟩ hK hG hZ hS (k_X7_put l D cy ld t b99 1 v101 ht_b99) trivial ⟨callB_of 2 hts (wl_in mw_594) rfl rfl rfl (htl _ mw_131) (htl _ mw_591) hd_yX7_put ⟨(Nat.le_of_ble_eq_true rfl), (Nat.le_of_ble_eq_true rfl)⟩, htl _ mw_592, htl _ mw_593⟩ ht_b99 (by decide) tk_no rfl (tk_w.pick [1, 2] rfl) rfl hl.1 rfl (Nat.le_of_ble_eq_true rfl) dX6_readPart_133 ⟨(Nat.le_of_ble_eq_true rfl), (Nat.le_of_ble_eq_true rfl)⟩ (fun H locs hpo hG hS hq9 => ?_)
            have hg_0 := hg_0.call hq9 (tk_w.no ht_a0 (by decide))
            have hf100 := hf100.call hq9 (tk_w.no ht_a0 (by decide))
            refine lv_aload_n hx hb dX6_readPart_136 rfl (lv_at hl 2 rfl) ?_
            have hk_2 : (2 : Int32).toInt = 2 := by decide
            refine tk_Vv (As := []) (rest := []) (ci := 6) ⟨hx, hb, hml, hown, hts⟩ hK hG hZ hS (k_X6_step l D cy ld t a0 2 ht_a0 (by omega) (by omega)) hg_0 ⟨callB_of 0 hts (wl_in mw_494) rfl rfl rfl (htl _ mw_36) (htl _ mw_491) hd_yX6_step ⟨(Nat.le_of_ble_eq_true rfl), (Nat.le_of_ble_eq_true rfl)⟩, htl _ mw_492, htl _ mw_493⟩ ht_a0 (by decide) tk_no rfl (tk_w.pick [0] rfl) rfl hl.1 rfl (Nat.le_of_ble_eq_true rfl) dX6_readPart_137 ⟨(Nat.le_of_ble_eq_true rfl), (Nat.le_of_ble_eq_true rfl)⟩ (fun H locs hpo hG hS hq9 => ?_)
            have hf104 := hpo
            refine lv_goto (tgt := 175) hx hb dX6_readPart_140 (by decide) ?_
            exact tk_vret hx hb hr hlocks (show tk_f D H a0 6 9 (.int 2) from hf104) hG hS dX6_readPart_175
          · have hc92 : ¬ (v91.toInt < 50) := fun h9 => c9 ((fi_lt rfl (show (50 : Int32).toInt = 50 by decide)).mpr h9)
            refine lv_aload_n hx hb dX6_readPart_105 rfl (lv_at hl 2 rfl) ?_
            have hk_2 : (2 : Int32).toInt = 2 := by decide
            refine tk_Vv (As := []) (rest := []) (ci := 6) ⟨hx, hb, hml, hown, hts⟩ hK hG hZ hS (k_X6_fail l D cy ld t a0 2 ht_a0 (by omega) (by omega)) hg_0 ⟨callB_of 0 hts (wl_in mw_507) rfl rfl rfl (htl _ mw_36) (htl _ mw_504) hd_yX6_fail ⟨(Nat.le_of_ble_eq_true rfl), (Nat.le_of_ble_eq_true rfl)⟩, htl _ mw_505, htl _ mw_506⟩ ht_a0 (by decide) tk_no rfl (tk_w.pick [0] rfl) rfl hl.1 rfl (Nat.le_of_ble_eq_true rfl) dX6_readPart_106 ⟨(Nat.le_of_ble_eq_true rfl), (Nat.le_of_ble_eq_true rfl)⟩ (fun H locs hpo hG hS hq9 => ?_)
            have hf106 := hpo
            exact tk_vret hx hb hr hlocks (show tk_f D H a0 6 9 (.int 2) from hf106) hG hS dX6_readPart_109
        · have hc89 : v22.toInt = 0 := (fi_eq rfl (show (0 : Int32).toInt = 0 by decide)).mp c9
          refine lv_iload_n hx hb dX6_readPart_91 rfl (lv_at hl 0 rfl) ?_
          refine lv_iconst (v := (-1)) hx hb dX6_readPart_92 (by decide) ?_
          refine lv_icmp_eq (tgt := 105) hx hb dX6_readPart_93 (by decide) (fun c9 => ?_) (fun c9 => ?_)
          · have hc107 : v85.toInt = (-1) := (fi_eq rfl (show ((-1) : Int32).toInt = (-1) by decide)).mp c9
            refine lv_aload_n hx hb dX6_readPart_105 rfl (lv_at hl 2 rfl) ?_
            have hk_2 : (2 : Int32).toInt = 2 := by decide
            refine tk_Vv (As := []) (rest := []) (ci := 6) ⟨hx, hb, hml, hown, hts⟩ hK hG hZ hS (k_X6_fail l D cy ld t a0 2 ht_a0 (by omega) (by omega)) hg_0 ⟨callB_of 0 hts (wl_in mw_507) rfl rfl rfl (htl _ mw_36) (htl _ mw_504) hd_yX6_fail ⟨(Nat.le_of_ble_eq_true rfl), (Nat.le_of_ble_eq_true rfl)⟩, htl _ mw_505, htl _ mw_506⟩ ht_a0 (by decide) tk_no rfl (tk_w.pick [0] rfl) rfl hl.1 rfl (Nat.le_of_ble_eq_true rfl) dX6_readPart_106 ⟨(Nat.le_of_ble_eq_true rfl), (Nat.le_of_ble_eq_true rfl)⟩ (fun H locs hpo hG hS hq9 => ?_)
            have hf109 := hpo
            exact tk_vret hx hb hr hlocks (show tk_f D H a0 6 9 (.int 2) from hf109) hG hS dX6_readPart_109
          · have hc107 : ¬ (v85.toInt = (-1)) := fun h9 => c9 ((fi_eq rfl (show ((-1) : Int32).toInt = (-1) by decide)).mpr h9)
            refine lv_aload_n hx hb dX6_readPart_96 rfl (lv_at hl 2 rfl) ?_
            refine tk_get (ci := 6) (C := RX6) (T := TX6) (N := 11) (sp := (0, (-2147483648), 2147483647, 0)) hx hb htl inX6 hown hK hG ht_a0 (by decide) tk_no rfl 8 (by decide) (htl _ mw_479) (fun _ h9 => h9) rfl dX6_readPart_97 (fun v9 hf110 hV9 => ?_)
            obtain ⟨v111, rfl, (ha_v111 : (-2147483648) ≤ v111.toInt), (hb_v111 : v111.toInt ≤ 2147483647)⟩ := hV9
            refine lv_bipush (v := 50) hx hb dX6_readPart_100 (by decide) ?_
            refine lv_icmp_lt (tgt := 110) hx hb dX6_readPart_102 (by decide) (fun c9 => ?_) (fun c9 => ?_)
            · have hc112 : v111.toInt < 50 := (fi_lt rfl (show (50 : Int32).toInt = 50 by decide)).mp c9
              refine lv_aload_n hx hb dX6_readPart_110 rfl (lv_at hl 2 rfl) ?_
              refine lv_dup hx hb dX6_readPart_111 rfl ?_
              refine tk_get (ci := 6) (C := RX6) (T := TX6) (N := 11) (sp := (0, (-2147483648), 2147483647, 0)) hx hb htl inX6 hown hK hG ht_a0 (by decide) tk_no rfl 8 (by decide) (htl _ mw_479) (fun _ h9 => h9) rfl dX6_readPart_112 (fun v9 hf113 hV9 => ?_)
              obtain ⟨v114, rfl, (ha_v114 : (-2147483648) ≤ v114.toInt), (hb_v114 : v114.toInt ≤ 2147483647)⟩ := hV9
              refine lv_iconst (v := 1) hx hb dX6_readPart_115 (by decide) ?_
              refine lv_iadd hx hb dX6_readPart_116 ?_
              obtain ⟨v115, hm_v115⟩ : ∃ z : Int32, v114 + 1 = z := ⟨_, rfl⟩
              refine fx_ti hm_v115 ?_
              refine tk_put (ci := 6) (v := .int v115) (ty := .int) (C := RX6) (T := TX6) (N := 11) (sp := (0, (-2147483648), 2147483647, 0)) hx hb htl inX6 tyX6 tyX6_ok nmX6 hown hK hG hS ht_a0 (by decide) tk_no rfl 8 (by decide) (htl _ mw_479) (fun _ h9 => h9) rfl (tyX6_ok 8 (by decide)) rfl rfl rfl (tk_V0 (tk_rng _).1 (tk_rng _).2) (fun _ h => tk_X7 h (by decide) (by decide)) (tk_w.of ht_a0 (by decide) (List.mem_of_getElem? (i := 0) rfl) (Nat.le_refl _) (Nat.le_refl _)) dX6_readPart_117 (fun H locs hG hS hf116 hq9 hj9 => ?_)
              have hg_0 := hj9 9 _ (by decide) (by decide) hg_0
              refine lv_iload_n hx hb dX6_readPart_120 rfl (lv_at hl 1 rfl) ?_
              refine lv_if_eq (tgt := 143) hx hb dX6_readPart_121 (by decide) (fun _ => ?_) (fun c9 => absurd ((fi_eq rfl (show (0 : Int32).toInt = 0 by decide)).mpr (show v22.toInt = 0 by omega)) c9)
              refine lv_aload_n hx hb dX6_readPart_143 rfl (lv_at hl 2 rfl) ?_
              have hk_2 : (2 : Int32).toInt = 2 := by decide
              refine tk_Vv (As := []) (rest := []) (ci := 6) ⟨hx, hb, hml, hown, hts⟩ hK hG hZ hS (k_X6_step l D cy ld t a0 2 ht_a0 (by omega) (by omega)) hg_0 ⟨callB_of 0 hts (wl_in mw_494) rfl rfl rfl (htl _ mw_36) (htl _ mw_491) hd_yX6_step ⟨(Nat.le_of_ble_eq_true rfl), (Nat.le_of_ble_eq_true rfl)⟩, htl _ mw_492, htl _ mw_493⟩ ht_a0 (by decide) tk_no rfl (tk_w.pick [0] rfl) rfl hl.1 rfl (Nat.le_of_ble_eq_true rfl) dX6_readPart_144 ⟨(Nat.le_of_ble_eq_true rfl), (Nat.le_of_ble_eq_true rfl)⟩ (fun H locs hpo hG hS hq9 => ?_)
              have hf119 := hpo
              refine lv_aload_n hx hb dX6_readPart_147 rfl (lv_at hl 2 rfl) ?_
              refine tk_get (ci := 6) (C := RX6) (T := TX6) (N := 11) (sp := (6, 8, 512, 12)) hx hb htl inX6 hown hK hG ht_a0 (by decide) tk_no rfl 0 (by decide) (htl _ mw_132) (fun _ h9 => h9) rfl dX6_readPart_148 (fun v9 hf120 hV9 => ?_)
              obtain ⟨b121, rfl, ht_b121⟩ := hV9
              have ht_b121 : t b121 = (8, 512, 12) := ht_b121
              refine lv_iconst (v := 2) hx hb dX6_readPart_151 (by decide) ?_
              refine lv_aload_n hx hb dX6_readPart_152 rfl (lv_at hl 2 rfl) ?_
              refine tk_get (ci := 6) (C := RX6) (T := TX6) (N := 11) (sp := (0, 0, 1, 0)) hx hb htl inX6 hown hK hG ht_a0 (by decide) tk_no rfl 3 (by decide) (htl _ mw_477) (fun _ h9 => h9) rfl dX6_readPart_153 (fun v9 hf122 hV9 => ?_)
              obtain ⟨v123, rfl, (ha_v123 : 0 ≤ v123.toInt), (hb_v123 : v123.toInt ≤ 1)⟩ := hV9
              have hj134 : ∀ (v132 : Int32) (H : Heap) (locs : List Loc), tk_G D cy ld t [] H → va_S (tk_w t [(7, 0, 0), (20, 0, 0), (8, 12, 12)]) s.heap H locs → tk_f D H a0 6 9 (.int 2) → ∀ ls : Array Slot, lv_has ls 3 [] → W p l e ({ frames := 27, cells := 0, slots := 0, locals := 1820 }) s m args below meth c H locs 0 0 (MQ below (tv D cy ld t [] (fun H => tk_f D H a0 6 9 (.int 2)) (tk_w t [(7, 0, 0), (20, 0, 0), (8, 12, 12)])) args s 0 0 (tk_w t [(7, 0, 0), (20, 0, 0), (8, 12, 12)])) (F0 m 172 ls [.int v132, .int 2, .ref b121]) := by
                intro v132 H locs hG hS hf127 ls hl
                have hk_2 : (2 : Int32).toInt = 2 := by decide
                refine tk_Vv (As := [.int 2, .int v132]) (rest := []) (ci := 7) ⟨hx, hb, hml, hown, hts⟩ hK hG hZ hS (k_X7_put l D cy ld t b121 2 v132 ht_b121) trivial ⟨callB_of 2 hts (wl_in mw_594) rfl rfl rfl (htl _ mw_131) (htl _ mw_591) hd_yX7_put ⟨(Nat.le_of_ble_eq_true rfl), (Nat.le_of_ble_eq_true rfl)⟩, htl _ mw_592, htl _ mw_593⟩ ht_b121 (by decide) tk_no rfl (tk_w.pick [1, 2] rfl) rfl hl.1 rfl (Nat.le_of_ble_eq_true rfl) dX6_readPart_172 ⟨(Nat.le_of_ble_eq_true rfl), (Nat.le_of_ble_eq_true rfl)⟩ (fun H locs hpo hG hS hq9 => ?_)
                have hf127 := hf127.call hq9 (tk_w.no ht_a0 (by decide))
                exact tk_vret hx hb hr hlocks (show tk_f D H a0 6 9 (.int 2) from hf127) hG hS dX6_readPart_175
              refine lv_if_eq (tgt := 167) hx hb dX6_readPart_156 (by decide) (fun c9 => ?_) (fun c9 => ?_)
              · have hc124 : v123.toInt = 0 := (fi_eq rfl (show (0 : Int32).toInt = 0 by decide)).mp c9
                refine lv_aload_n hx hb dX6_readPart_167 rfl (lv_at hl 2 rfl) ?_
                refine lv_iload_n hx hb dX6_readPart_168 rfl (lv_at hl 0 rfl) ?_
                have hk_2 : (2 : Int32).toInt = 2 := by decide
                refine tk_Vi (As := [.int v85]) (rest := [.int 2, .ref b121]) (ci := 6) ⟨hx, hb, hml, hown, hts⟩ hK hG hZ hS (k_X6_readOwner l D cy ld t a0 v85 2 ht_a0 (by omega) (by omega)) hf119 ⟨callB_of 1 hts (wl_in mw_614) rfl rfl rfl (htl _ mw_36) (htl _ mw_611) hd_yX6_readOwner ⟨(Nat.le_of_ble_eq_true rfl), (Nat.le_of_ble_eq_true rfl)⟩, htl _ mw_612, htl _ mw_613⟩ ht_a0 (by decide) tk_no rfl (tk_w.pick [0] rfl) rfl hl.1 rfl (Nat.le_of_ble_eq_true rfl) dX6_readPart_169 ⟨(Nat.le_of_ble_eq_true rfl), (Nat.le_of_ble_eq_true rfl)⟩ (fun v136 H locs hpo hG hS hq9 => ?_)
                have hf138 := hpo
                exact hj134 v136 _ _ hG hS hf138 _ (lv_sub hl [] rfl)
              · have hc124 : ¬ (v123.toInt = 0) := fun h9 => c9 ((fi_eq rfl (show (0 : Int32).toInt = 0 by decide)).mpr h9)
                refine lv_aload_n hx hb dX6_readPart_159 rfl (lv_at hl 2 rfl) ?_
                refine lv_iload_n hx hb dX6_readPart_160 rfl (lv_at hl 0 rfl) ?_
                refine tk_Vi (As := [.int v85]) (rest := [.int 2, .ref b121]) (ci := 6) ⟨hx, hb, hml, hown, hts⟩ hK hG hZ hS (k_X6_noteLawWord l D cy ld t a0 v85 ht_a0) trivial ⟨callB_of 1 hts (wl_in mw_607) rfl rfl rfl (htl _ mw_36) (htl _ mw_604) hd_yX6_noteLawWord ⟨(Nat.le_of_ble_eq_true rfl), (Nat.le_of_ble_eq_true rfl)⟩, htl _ mw_605, htl _ mw_606⟩ ht_a0 (by decide) tk_no rfl (tk_w.pick [2] rfl) rfl hl.1 rfl (Nat.le_of_ble_eq_true rfl) dX6_readPart_161 ⟨(Nat.le_of_ble_eq_true rfl), (Nat.le_of_ble_eq_true rfl)⟩ (fun v139 H locs hpo hG hS hq9 => ?_)
                have hf119 := hf119.call hq9 (tk_w.no ht_a0 (by decide))
                refine lv_goto (tgt := 172) hx hb dX6_readPart_164 (by decide) ?_
                exact hj134 v139 _ _ hG hS hf119 _ (lv_sub hl [] rfl)
            · have hc112 : ¬ (v111.toInt < 50) := fun h9 => c9 ((fi_lt rfl (show (50 : Int32).toInt = 50 by decide)).mpr h9)
              refine lv_aload_n hx hb dX6_readPart_105 rfl (lv_at hl 2 rfl) ?_
              have hk_2 : (2 : Int32).toInt = 2 := by decide
              refine tk_Vv (As := []) (rest := []) (ci := 6) ⟨hx, hb, hml, hown, hts⟩ hK hG hZ hS (k_X6_fail l D cy ld t a0 2 ht_a0 (by omega) (by omega)) hg_0 ⟨callB_of 0 hts (wl_in mw_507) rfl rfl rfl (htl _ mw_36) (htl _ mw_504) hd_yX6_fail ⟨(Nat.le_of_ble_eq_true rfl), (Nat.le_of_ble_eq_true rfl)⟩, htl _ mw_505, htl _ mw_506⟩ ht_a0 (by decide) tk_no rfl (tk_w.pick [0] rfl) rfl hl.1 rfl (Nat.le_of_ble_eq_true rfl) dX6_readPart_106 ⟨(Nat.le_of_ble_eq_true rfl), (Nat.le_of_ble_eq_true rfl)⟩ (fun H locs hpo hG hS hq9 => ?_)
              have hf142 := hpo
              exact tk_vret hx hb hr hlocks (show tk_f D H a0 6 9 (.int 2) from hf142) hG hS dX6_readPart_109
    refine lv_if_eq (tgt := 66) hx hb dX6_readPart_41 (by decide) (fun c9 => ?_) (fun c9 => ?_)
    · have hc14 : v8.toInt = 0 := (fi_eq rfl (show (0 : Int32).toInt = 0 by decide)).mp c9
      refine lv_iconst (v := 0) hx hb dX6_readPart_66 (by decide) ?_
      have hk_0 : (0 : Int32).toInt = 0 := by decide
      exact hj23 0 (by omega) (by omega) _ (lv_sub hl [0] rfl)
    · have hc14 : ¬ (v8.toInt = 0) := fun h9 => c9 ((fi_eq rfl (show (0 : Int32).toInt = 0 by decide)).mpr h9)
      refine lv_aload_n hx hb dX6_readPart_44 rfl (lv_at hl 0 rfl) ?_
      refine tk_get (ci := 6) (C := RX6) (T := TX6) (N := 11) (sp := (0, (-2147483648), 2147483647, 0)) hx hb htl inX6 hown hK hG ht_a0 (by decide) tk_no rfl 6 (by decide) (htl _ mw_482) (fun _ h9 => h9) rfl dX6_readPart_45 (fun v9 hf143 hV9 => ?_)
      obtain ⟨v144, rfl, (ha_v144 : (-2147483648) ≤ v144.toInt), (hb_v144 : v144.toInt ≤ 2147483647)⟩ := hV9
      refine lv_iconst (v := 2) hx hb dX6_readPart_48 (by decide) ?_
      refine lv_icmp_ne (tgt := 66) hx hb dX6_readPart_49 (by decide) (fun c9 => ?_) (fun c9 => ?_)
      · have hc145 : ¬ (v144.toInt = 2) := fun h9 => c9 ((fi_eq rfl (show (2 : Int32).toInt = 2 by decide)).mpr h9)
        refine lv_iconst (v := 0) hx hb dX6_readPart_66 (by decide) ?_
        have hk_0 : (0 : Int32).toInt = 0 := by decide
        exact hj23 0 (by omega) (by omega) _ (lv_sub hl [0] rfl)
      · have hc145 : v144.toInt = 2 := (fi_eq rfl (show (2 : Int32).toInt = 2 by decide)).mp c9
        refine lv_aload_n hx hb dX6_readPart_52 rfl (lv_at hl 0 rfl) ?_
        refine tk_get (ci := 6) (C := RX6) (T := TX6) (N := 11) (sp := (0, (-2147483648), 2147483647, 0)) hx hb htl inX6 hown hK hG ht_a0 (by decide) tk_no rfl 7 (by decide) (htl _ mw_496) (fun _ h9 => h9) rfl dX6_readPart_53 (fun v9 hf146 hV9 => ?_)
        obtain ⟨v147, rfl, (ha_v147 : (-2147483648) ≤ v147.toInt), (hb_v147 : v147.toInt ≤ 2147483647)⟩ := hV9
        refine lv_sipush (v := 1000) hx hb dX6_readPart_56 (by decide) ?_
        refine lv_icmp_gt (tgt := 66) hx hb dX6_readPart_59 (by decide) (fun c9 => ?_) (fun c9 => ?_)
        · have hc148 : 1000 < v147.toInt := (fi_lt (show (1000 : Int32).toInt = 1000 by decide) rfl).mp c9
          refine lv_iconst (v := 0) hx hb dX6_readPart_66 (by decide) ?_
          have hk_0 : (0 : Int32).toInt = 0 := by decide
          exact hj23 0 (by omega) (by omega) _ (lv_sub hl [0] rfl)
        · have hc148 : ¬ (1000 < v147.toInt) := fun h9 => c9 ((fi_lt (show (1000 : Int32).toInt = 1000 by decide) rfl).mpr h9)
          refine lv_iconst (v := 1) hx hb dX6_readPart_62 (by decide) ?_
          refine lv_goto (tgt := 67) hx hb dX6_readPart_63 (by decide) ?_
          have hk_1 : (1 : Int32).toInt = 1 := by decide
          exact hj23 1 (by omega) (by omega) _ (lv_sub hl [0] rfl)
  · have hc7 : ¬ (v1.toInt = 0) := fun h9 => c9 ((fi_eq rfl (show (0 : Int32).toInt = 0 by decide)).mpr h9)
    refine lv_aload_n hx hb dX6_readPart_9 rfl (lv_at hl 0 rfl) ?_
    refine tk_Vi (As := []) (rest := []) (ci := 6) ⟨hx, hb, hml, hown, hts⟩ hK hG hZ hS (k_X6_goDeeper_2 l D cy ld t a0 ht_a0) hg_0 ⟨callB_of 0 hts (wl_in mw_599) rfl rfl rfl (htl _ mw_36) (htl _ mw_596) hd_yX6_goDeeper ⟨(Nat.le_of_ble_eq_true rfl), (Nat.le_of_ble_eq_true rfl)⟩, htl _ mw_597, htl _ mw_598⟩ ht_a0 (by decide) tk_no rfl (tk_w.pick [0] rfl) rfl hl.1 rfl (Nat.le_of_ble_eq_true rfl) dX6_readPart_10 ⟨(Nat.le_of_ble_eq_true rfl), (Nat.le_of_ble_eq_true rfl)⟩ (fun v149 H locs hpo hG hS hq9 => ?_)
    obtain ⟨hpo151, hpo152, hpo153, hf154⟩ := hpo
    obtain rfl : v149 = 1 := (fi_eq (show v149.toInt = 1 by omega) (by decide)).mpr rfl
    refine lv_if_eq (tgt := 36) hx hb dX6_readPart_13 (by decide) (fun c9 => absurd c9 (by decide)) (fun _ => ?_)
    refine lv_aload_n hx hb dX6_readPart_16 rfl (lv_at hl 0 rfl) ?_
    refine tk_Vv (As := []) (rest := []) (ci := 6) ⟨hx, hb, hml, hown, hts⟩ hK hG hZ hS (k_X6_readSum_3 l D cy ld t a0 ht_a0) hf154 ⟨callB_of 0 hts (wl_in mw_583) rfl rfl rfl (htl _ mw_36) (htl _ mw_580) hd_yX6_readSum ⟨(Nat.le_of_ble_eq_true rfl), (Nat.le_of_ble_eq_true rfl)⟩, htl _ mw_581, htl _ mw_582⟩ ht_a0 (by decide) tk_no rfl (tk_w.pick [0, 1, 2] rfl) rfl hl.1 rfl (Nat.le_of_ble_eq_true rfl) dX6_readPart_17 ⟨(Nat.le_of_ble_eq_true rfl), (Nat.le_of_ble_eq_true rfl)⟩ (fun H locs hpo hG hS hq9 => ?_)
    have hf156 := hpo
    refine lv_aload_n hx hb dX6_readPart_20 rfl (lv_at hl 0 rfl) ?_
    refine lv_bipush (v := 93) hx hb dX6_readPart_21 (by decide) ?_
    have hk_93 : (93 : Int32).toInt = 93 := by decide
    have hk_3 : (3 : Int32).toInt = 3 := by decide
    refine tk_Vv (As := [.int 93]) (rest := []) (ci := 6) ⟨hx, hb, hml, hown, hts⟩ hK hG hZ hS (k_X6_take l D cy ld t a0 93 3 ht_a0 (by omega) (by omega)) hf156 ⟨callB_of 1 hts (wl_in mw_603) rfl rfl rfl (htl _ mw_36) (htl _ mw_600) hd_yX6_take ⟨(Nat.le_of_ble_eq_true rfl), (Nat.le_of_ble_eq_true rfl)⟩, htl _ mw_601, htl _ mw_602⟩ ht_a0 (by decide) tk_no rfl (tk_w.pick [0] rfl) rfl hl.1 rfl (Nat.le_of_ble_eq_true rfl) dX6_readPart_23 ⟨(Nat.le_of_ble_eq_true rfl), (Nat.le_of_ble_eq_true rfl)⟩ (fun H locs hpo hG hS hq9 => ?_)
    have hf158 := hpo
    refine lv_aload_n hx hb dX6_readPart_26 rfl (lv_at hl 0 rfl) ?_
    refine lv_dup hx hb dX6_readPart_27 rfl ?_
    refine tk_getk (ci := 6) (C := RX6) (T := TX6) (N := 11) (sp := (0, 0, 8, 0)) hx hb htl inX6 hown hK hG ht_a0 (by decide) tk_no rfl 9 (by decide) (htl _ mw_480) (fun _ h9 => h9) rfl hf158 dX6_readPart_28 ?_
    refine lv_iconst (v := 1) hx hb dX6_readPart_31 (by decide) ?_
    refine lv_isub hx hb dX6_readPart_32 ?_
    refine fx_ti (v := 2) (by decide) ?_
    refine tk_put (ci := 6) (v := .int 2) (ty := .int) (C := RX6) (T := TX6) (N := 11) (sp := (0, 0, 8, 0)) hx hb htl inX6 tyX6 tyX6_ok nmX6 hown hK hG hS ht_a0 (by decide) tk_no rfl 9 (by decide) (htl _ mw_480) (fun _ h9 => h9) rfl (tyX6_ok 9 (by decide)) rfl rfl rfl (tk_V0 (by decide) (by decide)) (fun _ h => tk_X7 h (by decide) (by decide)) (tk_w.of ht_a0 (by decide) (List.mem_of_getElem? (i := 0) rfl) (Nat.le_refl _) (Nat.le_refl _)) dX6_readPart_33 (fun H locs hG hS hf159 hq9 hj9 => ?_)
    exact tk_vret hx hb hr hlocks (show tk_f D H a0 6 9 (.int 2) from hf159) hG hS dX6_readPart_36
set_option maxHeartbeats 4000000 in
set_option maxRecDepth 100000 in
theorem k_X6_readTerm_2 (l : Launch) (D : va_G) (cy : Nat → ClassId) (ld : Nat → Nat) (t : tk_T) (a0 : Nat) (ht_a0 : t a0 = (7, 0, 0)) : Met l yX6_readTerm (wl yX6_readTerm cX6_readTerm 3 none) ({ frames := 28, cells := 0, slots := 0, locals := 1890 }) (tp D cy ld t [] [.ref a0] (fun H => tk_f D H a0 6 9 (.int 2))) (tv D cy ld t [] (fun H => tk_f D H a0 6 9 (.int 2)) (tk_w t [(7, 0, 0), (20, 0, 0), (8, 12, 12)])) 0 0 (tk_w t [(7, 0, 0), (20, 0, 0), (8, 12, 12)]) := by
  refine tk_met (y := yX6_readTerm) (cc := cX6_readTerm) (maxL := 3) (ret := none) (av := [.ref a0]) _ _ (by decide) (Nat.le_of_ble_eq_true rfl) ?_
  intro p e s m args below meth c hx hb hr hml hts htl hown hlocks hK H locs hH hG hS hB hZ ls hl
  have hown : s.vm.findClass RX6 = some m.cls := hown
  have hl : lv_has ls 3 [(0, .ref a0)] := hl
  have hg_0 := hB
  refine lv_aload_n hx hb dX6_readTerm_0 rfl (lv_at hl 0 rfl) ?_
  refine tk_Vv (As := []) (rest := []) (ci := 6) ⟨hx, hb, hml, hown, hts⟩ hK hG hZ hS (k_X6_readPart_2 l D cy ld t a0 ht_a0) hg_0 ⟨callB_of 0 hts (wl_in mw_595) rfl rfl rfl (htl _ mw_36) (htl _ mw_616) hd_yX6_readPart ⟨(Nat.le_of_ble_eq_true rfl), (Nat.le_of_ble_eq_true rfl)⟩, htl _ mw_617, htl _ mw_618⟩ ht_a0 (by decide) tk_no rfl (tk_w.pick [0, 1, 2] rfl) rfl hl.1 rfl (Nat.le_of_ble_eq_true rfl) dX6_readTerm_1 ⟨(Nat.le_of_ble_eq_true rfl), (Nat.le_of_ble_eq_true rfl)⟩ (fun H locs hpo hG hS hq9 => ?_)
  have hf2 := hpo
  refine lv_iconst (v := 0) hx hb dX6_readTerm_4 (by decide) ?_
  refine lv_istore_n (lv' := [(1, .int 0), (0, .ref a0)]) hx hb dX6_readTerm_5 rfl hl (by decide) rfl (fun ls hl => ?_)
  have hl994 : ∀ (N_l994 : Nat) (v3 : Int32) (H : Heap) (locs : List Loc), 0 ≤ v3.toInt → v3.toInt ≤ 400 → (-1) * v3.toInt + 400 < (N_l994 : Int) → tk_G D cy ld t [] H → va_S (tk_w t [(7, 0, 0), (20, 0, 0), (8, 12, 12)]) s.heap H locs → tk_f D H a0 6 9 (.int 2) → ∀ ls : Array Slot, lv_has ls 3 [(1, .int v3), (0, .ref a0)] → W p l e ({ frames := 28, cells := 0, slots := 0, locals := 1890 }) s m args below meth c H locs 0 0 (MQ below (tv D cy ld t [] (fun H => tk_f D H a0 6 9 (.int 2)) (tk_w t [(7, 0, 0), (20, 0, 0), (8, 12, 12)])) args s 0 0 (tk_w t [(7, 0, 0), (20, 0, 0), (8, 12, 12)])) (F0 m 6 ls []) := by
    intro N_l994
    induction N_l994 with
    | zero => intro v3 H locs hq0_l994 hq1_l994 hm_l994 hG hS hf2 ls hl; exfalso; omega
    | succ N_l994 ih_l994 =>
      intro v3 H locs hq0_l994 hq1_l994 hm_l994 hG hS hf2 ls hl
      refine lv_iload_n hx hb dX6_readTerm_6 rfl (lv_at hl 0 rfl) ?_
      refine lv_sipush (v := 400) hx hb dX6_readTerm_7 (by decide) ?_
      refine lv_icmp_ge (tgt := 94) hx hb dX6_readTerm_10 (by decide) (fun c9 => ?_) (fun c9 => ?_)
      · have hc995 : 400 ≤ v3.toInt := (fi_le (show (400 : Int32).toInt = 400 by decide) rfl).mp c9
        exact tk_vret hx hb hr hlocks (show tk_f D H a0 6 9 (.int 2) from hf2) hG hS dX6_readTerm_94
      · have hc995 : ¬ (400 ≤ v3.toInt) := fun h9 => c9 ((fi_le (show (400 : Int32).toInt = 400 by decide) rfl).mpr h9)
        refine lv_aload_n hx hb dX6_readTerm_13 rfl (lv_at hl 1 rfl) ?_
        refine lv_bipush (v := 42) hx hb dX6_readTerm_14 (by decide) ?_
        have hk_42 : (42 : Int32).toInt = 42 := by decide
        refine tk_Vi (As := [.int 42]) (rest := []) (ci := 6) ⟨hx, hb, hml, hown, hts⟩ hK hG hZ hS (k_X6_isSign l D cy ld t a0 42 ht_a0) trivial ⟨callB_of 1 hts (wl_in mw_590) rfl rfl rfl (htl _ mw_36) (htl _ mw_587) hd_yX6_isSign ⟨(Nat.le_of_ble_eq_true rfl), (Nat.le_of_ble_eq_true rfl)⟩, htl _ mw_588, htl _ mw_589⟩ ht_a0 (by decide) tk_no rfl (tk_w.pick [] rfl) rfl hl.1 rfl (Nat.le_of_ble_eq_true rfl) dX6_readTerm_16 ⟨(Nat.le_of_ble_eq_true rfl), (Nat.le_of_ble_eq_true rfl)⟩ (fun v996 H locs hpo hG hS hq9 => ?_)
        have hf2 := hf2.call hq9 tk_w.nil
        obtain ⟨hpo998, hpo999, hpo1000, hpo1001⟩ := hpo
        refine lv_if_ne (tgt := 40) hx hb dX6_readTerm_19 (by decide) (fun c9 => ?_) (fun c9 => ?_)
        · have hc1002 : ¬ (v996.toInt = 0) := fun h9 => c9 ((fi_eq rfl (show (0 : Int32).toInt = 0 by decide)).mpr h9)
          refine lv_aload_n hx hb dX6_readTerm_40 rfl (lv_at hl 1 rfl) ?_
          refine lv_bipush (v := 42) hx hb dX6_readTerm_41 (by decide) ?_
          have hk_42 : (42 : Int32).toInt = 42 := by decide
          refine tk_Vi (As := [.int 42]) (rest := []) (ci := 6) ⟨hx, hb, hml, hown, hts⟩ hK hG hZ hS (k_X6_isSign l D cy ld t a0 42 ht_a0) trivial ⟨callB_of 1 hts (wl_in mw_590) rfl rfl rfl (htl _ mw_36) (htl _ mw_587) hd_yX6_isSign ⟨(Nat.le_of_ble_eq_true rfl), (Nat.le_of_ble_eq_true rfl)⟩, htl _ mw_588, htl _ mw_589⟩ ht_a0 (by decide) tk_no rfl (tk_w.pick [] rfl) rfl hl.1 rfl (Nat.le_of_ble_eq_true rfl) dX6_readTerm_43 ⟨(Nat.le_of_ble_eq_true rfl), (Nat.le_of_ble_eq_true rfl)⟩ (fun v1003 H locs hpo hG hS hq9 => ?_)
          have hf2 := hf2.call hq9 tk_w.nil
          obtain ⟨hpo1005, hpo1006, hpo1007, hpo1008⟩ := hpo
          have hj1021 : ∀ (v1019 : Int32) (H : Heap) (locs : List Loc), 8 ≤ v1019.toInt → v1019.toInt ≤ 10 → tk_G D cy ld t [] H → va_S (tk_w t [(7, 0, 0), (20, 0, 0), (8, 12, 12)]) s.heap H locs → tk_f D H a0 6 9 (.int 2) → ∀ ls : Array Slot, lv_has ls 3 [(1, .int v3), (0, .ref a0)] → W p l e ({ frames := 28, cells := 0, slots := 0, locals := 1890 }) s m args below meth c H locs 0 0 (MQ below (tv D cy ld t [] (fun H => tk_f D H a0 6 9 (.int 2)) (tk_w t [(7, 0, 0), (20, 0, 0), (8, 12, 12)])) args s 0 0 (tk_w t [(7, 0, 0), (20, 0, 0), (8, 12, 12)])) (F0 m 70 ls [.int v1019]) := by
            intro v1019 H locs hq0_j1021 hq1_j1021 hG hS hf2 ls hl
            refine lv_istore_n (lv' := [(2, .int v1019), (1, .int v3), (0, .ref a0)]) hx hb dX6_readTerm_70 rfl hl (by decide) rfl (fun ls hl => ?_)
            refine lv_aload_n hx hb dX6_readTerm_71 rfl (lv_at hl 2 rfl) ?_
            have hk_2 : (2 : Int32).toInt = 2 := by decide
            refine tk_Vv (As := []) (rest := []) (ci := 6) ⟨hx, hb, hml, hown, hts⟩ hK hG hZ hS (k_X6_step l D cy ld t a0 2 ht_a0 (by omega) (by omega)) hf2 ⟨callB_of 0 hts (wl_in mw_494) rfl rfl rfl (htl _ mw_36) (htl _ mw_491) hd_yX6_step ⟨(Nat.le_of_ble_eq_true rfl), (Nat.le_of_ble_eq_true rfl)⟩, htl _ mw_492, htl _ mw_493⟩ ht_a0 (by decide) tk_no rfl (tk_w.pick [0] rfl) rfl hl.1 rfl (Nat.le_of_ble_eq_true rfl) dX6_readTerm_72 ⟨(Nat.le_of_ble_eq_true rfl), (Nat.le_of_ble_eq_true rfl)⟩ (fun H locs hpo hG hS hq9 => ?_)
            have hf1023 := hpo
            refine lv_aload_n hx hb dX6_readTerm_75 rfl (lv_at hl 2 rfl) ?_
            refine tk_Vv (As := []) (rest := []) (ci := 6) ⟨hx, hb, hml, hown, hts⟩ hK hG hZ hS (k_X6_readPart_2 l D cy ld t a0 ht_a0) hf1023 ⟨callB_of 0 hts (wl_in mw_595) rfl rfl rfl (htl _ mw_36) (htl _ mw_616) hd_yX6_readPart ⟨(Nat.le_of_ble_eq_true rfl), (Nat.le_of_ble_eq_true rfl)⟩, htl _ mw_617, htl _ mw_618⟩ ht_a0 (by decide) tk_no rfl (tk_w.pick [0, 1, 2] rfl) rfl hl.1 rfl (Nat.le_of_ble_eq_true rfl) dX6_readTerm_76 ⟨(Nat.le_of_ble_eq_true rfl), (Nat.le_of_ble_eq_true rfl)⟩ (fun H locs hpo hG hS hq9 => ?_)
            have hf1025 := hpo
            refine lv_aload_n hx hb dX6_readTerm_79 rfl (lv_at hl 2 rfl) ?_
            refine tk_get (ci := 6) (C := RX6) (T := TX6) (N := 11) (sp := (6, 8, 512, 12)) hx hb htl inX6 hown hK hG ht_a0 (by decide) tk_no rfl 0 (by decide) (htl _ mw_132) (fun _ h9 => h9) rfl dX6_readTerm_80 (fun v9 hf1026 hV9 => ?_)
            obtain ⟨b1027, rfl, ht_b1027⟩ := hV9
            have ht_b1027 : t b1027 = (8, 512, 12) := ht_b1027
            refine lv_iload_n hx hb dX6_readTerm_83 rfl (lv_at hl 0 rfl) ?_
            refine lv_iconst (v := 0) hx hb dX6_readTerm_84 (by decide) ?_
            have hk_0 : (0 : Int32).toInt = 0 := by decide
            refine tk_Vv (As := [.int v1019, .int 0]) (rest := []) (ci := 7) ⟨hx, hb, hml, hown, hts⟩ hK hG hZ hS (k_X7_put l D cy ld t b1027 v1019 0 ht_b1027) trivial ⟨callB_of 2 hts (wl_in mw_594) rfl rfl rfl (htl _ mw_131) (htl _ mw_591) hd_yX7_put ⟨(Nat.le_of_ble_eq_true rfl), (Nat.le_of_ble_eq_true rfl)⟩, htl _ mw_592, htl _ mw_593⟩ ht_b1027 (by decide) tk_no rfl (tk_w.pick [1, 2] rfl) rfl hl.1 rfl (Nat.le_of_ble_eq_true rfl) dX6_readTerm_85 ⟨(Nat.le_of_ble_eq_true rfl), (Nat.le_of_ble_eq_true rfl)⟩ (fun H locs hpo hG hS hq9 => ?_)
            have hf1025 := hf1025.call hq9 (tk_w.no ht_a0 (by decide))
            obtain ⟨v1029, h_v1029, e_v1029⟩ := tk_inc v3 1 (by decide) (by omega) (by omega)
            refine lv_iinc (v := v1029) (lv' := [(1, .int v1029), (2, .int v1019), (0, .ref a0)]) hx hb dX6_readTerm_88 hl (k := 1) rfl e_v1029 (by decide) rfl (fun ls hl => ?_)
            refine lv_goto (tgt := 6) hx hb dX6_readTerm_91 (by decide) ?_
            exact ih_l994 v1029 _ _ (by omega) (by omega) (by omega) hG hS hf1025 _ (lv_sub hl [0, 2] rfl)
          refine lv_if_eq (tgt := 54) hx hb dX6_readTerm_46 (by decide) (fun c9 => ?_) (fun c9 => ?_)
          · have hc1009 : v1003.toInt = 0 := (fi_eq rfl (show (0 : Int32).toInt = 0 by decide)).mp c9
            refine lv_aload_n hx hb dX6_readTerm_54 rfl (lv_at hl 1 rfl) ?_
            refine lv_bipush (v := 47) hx hb dX6_readTerm_55 (by decide) ?_
            have hk_47 : (47 : Int32).toInt = 47 := by decide
            refine tk_Vi (As := [.int 47]) (rest := []) (ci := 6) ⟨hx, hb, hml, hown, hts⟩ hK hG hZ hS (k_X6_isSign l D cy ld t a0 47 ht_a0) trivial ⟨callB_of 1 hts (wl_in mw_590) rfl rfl rfl (htl _ mw_36) (htl _ mw_587) hd_yX6_isSign ⟨(Nat.le_of_ble_eq_true rfl), (Nat.le_of_ble_eq_true rfl)⟩, htl _ mw_588, htl _ mw_589⟩ ht_a0 (by decide) tk_no rfl (tk_w.pick [] rfl) rfl hl.1 rfl (Nat.le_of_ble_eq_true rfl) dX6_readTerm_57 ⟨(Nat.le_of_ble_eq_true rfl), (Nat.le_of_ble_eq_true rfl)⟩ (fun v1030 H locs hpo hG hS hq9 => ?_)
            have hf2 := hf2.call hq9 tk_w.nil
            obtain ⟨hpo1032, hpo1033, hpo1034, hpo1035⟩ := hpo
            refine lv_if_eq (tgt := 68) hx hb dX6_readTerm_60 (by decide) (fun c9 => ?_) (fun c9 => ?_)
            · have hc1036 : v1030.toInt = 0 := (fi_eq rfl (show (0 : Int32).toInt = 0 by decide)).mp c9
              refine lv_bipush (v := 10) hx hb dX6_readTerm_68 (by decide) ?_
              have hk_10 : (10 : Int32).toInt = 10 := by decide
              exact hj1021 10 _ _ (by omega) (by omega) hG hS hf2 _ (lv_sub hl [0, 1] rfl)
            · have hc1036 : ¬ (v1030.toInt = 0) := fun h9 => c9 ((fi_eq rfl (show (0 : Int32).toInt = 0 by decide)).mpr h9)
              refine lv_bipush (v := 9) hx hb dX6_readTerm_63 (by decide) ?_
              refine lv_goto (tgt := 70) hx hb dX6_readTerm_65 (by decide) ?_
              have hk_9 : (9 : Int32).toInt = 9 := by decide
              exact hj1021 9 _ _ (by omega) (by omega) hG hS hf2 _ (lv_sub hl [0, 1] rfl)
          · have hc1009 : ¬ (v1003.toInt = 0) := fun h9 => c9 ((fi_eq rfl (show (0 : Int32).toInt = 0 by decide)).mpr h9)
            refine lv_bipush (v := 8) hx hb dX6_readTerm_49 (by decide) ?_
            refine lv_goto (tgt := 70) hx hb dX6_readTerm_51 (by decide) ?_
            have hk_8 : (8 : Int32).toInt = 8 := by decide
            exact hj1021 8 _ _ (by omega) (by omega) hG hS hf2 _ (lv_sub hl [0, 1] rfl)
        · have hc1002 : v996.toInt = 0 := (fi_eq rfl (show (0 : Int32).toInt = 0 by decide)).mp c9
          refine lv_aload_n hx hb dX6_readTerm_22 rfl (lv_at hl 1 rfl) ?_
          refine lv_bipush (v := 47) hx hb dX6_readTerm_23 (by decide) ?_
          have hk_47 : (47 : Int32).toInt = 47 := by decide
          refine tk_Vi (As := [.int 47]) (rest := []) (ci := 6) ⟨hx, hb, hml, hown, hts⟩ hK hG hZ hS (k_X6_isSign l D cy ld t a0 47 ht_a0) trivial ⟨callB_of 1 hts (wl_in mw_590) rfl rfl rfl (htl _ mw_36) (htl _ mw_587) hd_yX6_isSign ⟨(Nat.le_of_ble_eq_true rfl), (Nat.le_of_ble_eq_true rfl)⟩, htl _ mw_588, htl _ mw_589⟩ ht_a0 (by decide) tk_no rfl (tk_w.pick [] rfl) rfl hl.1 rfl (Nat.le_of_ble_eq_true rfl) dX6_readTerm_25 ⟨(Nat.le_of_ble_eq_true rfl), (Nat.le_of_ble_eq_true rfl)⟩ (fun v1037 H locs hpo hG hS hq9 => ?_)
          have hf2 := hf2.call hq9 tk_w.nil
          obtain ⟨hpo1039, hpo1040, hpo1041, hpo1042⟩ := hpo
          refine lv_if_ne (tgt := 40) hx hb dX6_readTerm_28 (by decide) (fun c9 => ?_) (fun c9 => ?_)
          · have hc1043 : ¬ (v1037.toInt = 0) := fun h9 => c9 ((fi_eq rfl (show (0 : Int32).toInt = 0 by decide)).mpr h9)
            refine lv_aload_n hx hb dX6_readTerm_40 rfl (lv_at hl 1 rfl) ?_
            refine lv_bipush (v := 42) hx hb dX6_readTerm_41 (by decide) ?_
            have hk_42 : (42 : Int32).toInt = 42 := by decide
            refine tk_Vi (As := [.int 42]) (rest := []) (ci := 6) ⟨hx, hb, hml, hown, hts⟩ hK hG hZ hS (k_X6_isSign l D cy ld t a0 42 ht_a0) trivial ⟨callB_of 1 hts (wl_in mw_590) rfl rfl rfl (htl _ mw_36) (htl _ mw_587) hd_yX6_isSign ⟨(Nat.le_of_ble_eq_true rfl), (Nat.le_of_ble_eq_true rfl)⟩, htl _ mw_588, htl _ mw_589⟩ ht_a0 (by decide) tk_no rfl (tk_w.pick [] rfl) rfl hl.1 rfl (Nat.le_of_ble_eq_true rfl) dX6_readTerm_43 ⟨(Nat.le_of_ble_eq_true rfl), (Nat.le_of_ble_eq_true rfl)⟩ (fun v1044 H locs hpo hG hS hq9 => ?_)
            have hf2 := hf2.call hq9 tk_w.nil
            obtain ⟨hpo1046, hpo1047, hpo1048, hpo1049⟩ := hpo
            have hj1062 : ∀ (v1060 : Int32) (H : Heap) (locs : List Loc), 8 ≤ v1060.toInt → v1060.toInt ≤ 10 → tk_G D cy ld t [] H → va_S (tk_w t [(7, 0, 0), (20, 0, 0), (8, 12, 12)]) s.heap H locs → tk_f D H a0 6 9 (.int 2) → ∀ ls : Array Slot, lv_has ls 3 [(1, .int v3), (0, .ref a0)] → W p l e ({ frames := 28, cells := 0, slots := 0, locals := 1890 }) s m args below meth c H locs 0 0 (MQ below (tv D cy ld t [] (fun H => tk_f D H a0 6 9 (.int 2)) (tk_w t [(7, 0, 0), (20, 0, 0), (8, 12, 12)])) args s 0 0 (tk_w t [(7, 0, 0), (20, 0, 0), (8, 12, 12)])) (F0 m 70 ls [.int v1060]) := by
              intro v1060 H locs hq0_j1062 hq1_j1062 hG hS hf2 ls hl
              refine lv_istore_n (lv' := [(2, .int v1060), (1, .int v3), (0, .ref a0)]) hx hb dX6_readTerm_70 rfl hl (by decide) rfl (fun ls hl => ?_)
              refine lv_aload_n hx hb dX6_readTerm_71 rfl (lv_at hl 2 rfl) ?_
              have hk_2 : (2 : Int32).toInt = 2 := by decide
              refine tk_Vv (As := []) (rest := []) (ci := 6) ⟨hx, hb, hml, hown, hts⟩ hK hG hZ hS (k_X6_step l D cy ld t a0 2 ht_a0 (by omega) (by omega)) hf2 ⟨callB_of 0 hts (wl_in mw_494) rfl rfl rfl (htl _ mw_36) (htl _ mw_491) hd_yX6_step ⟨(Nat.le_of_ble_eq_true rfl), (Nat.le_of_ble_eq_true rfl)⟩, htl _ mw_492, htl _ mw_493⟩ ht_a0 (by decide) tk_no rfl (tk_w.pick [0] rfl) rfl hl.1 rfl (Nat.le_of_ble_eq_true rfl) dX6_readTerm_72 ⟨(Nat.le_of_ble_eq_true rfl), (Nat.le_of_ble_eq_true rfl)⟩ (fun H locs hpo hG hS hq9 => ?_)
              have hf1064 := hpo
              refine lv_aload_n hx hb dX6_readTerm_75 rfl (lv_at hl 2 rfl) ?_
              refine tk_Vv (As := []) (rest := []) (ci := 6) ⟨hx, hb, hml, hown, hts⟩ hK hG hZ hS (k_X6_readPart_2 l D cy ld t a0 ht_a0) hf1064 ⟨callB_of 0 hts (wl_in mw_595) rfl rfl rfl (htl _ mw_36) (htl _ mw_616) hd_yX6_readPart ⟨(Nat.le_of_ble_eq_true rfl), (Nat.le_of_ble_eq_true rfl)⟩, htl _ mw_617, htl _ mw_618⟩ ht_a0 (by decide) tk_no rfl (tk_w.pick [0, 1, 2] rfl) rfl hl.1 rfl (Nat.le_of_ble_eq_true rfl) dX6_readTerm_76 ⟨(Nat.le_of_ble_eq_true rfl), (Nat.le_of_ble_eq_true rfl)⟩ (fun H locs hpo hG hS hq9 => ?_)
              have hf1066 := hpo
              refine lv_aload_n hx hb dX6_readTerm_79 rfl (lv_at hl 2 rfl) ?_
              refine tk_get (ci := 6) (C := RX6) (T := TX6) (N := 11) (sp := (6, 8, 512, 12)) hx hb htl inX6 hown hK hG ht_a0 (by decide) tk_no rfl 0 (by decide) (htl _ mw_132) (fun _ h9 => h9) rfl dX6_readTerm_80 (fun v9 hf1067 hV9 => ?_)
              obtain ⟨b1068, rfl, ht_b1068⟩ := hV9
              have ht_b1068 : t b1068 = (8, 512, 12) := ht_b1068
              refine lv_iload_n hx hb dX6_readTerm_83 rfl (lv_at hl 0 rfl) ?_
              refine lv_iconst (v := 0) hx hb dX6_readTerm_84 (by decide) ?_
              have hk_0 : (0 : Int32).toInt = 0 := by decide
              refine tk_Vv (As := [.int v1060, .int 0]) (rest := []) (ci := 7) ⟨hx, hb, hml, hown, hts⟩ hK hG hZ hS (k_X7_put l D cy ld t b1068 v1060 0 ht_b1068) trivial ⟨callB_of 2 hts (wl_in mw_594) rfl rfl rfl (htl _ mw_131) (htl _ mw_591) hd_yX7_put ⟨(Nat.le_of_ble_eq_true rfl), (Nat.le_of_ble_eq_true rfl)⟩, htl _ mw_592, htl _ mw_593⟩ ht_b1068 (by decide) tk_no rfl (tk_w.pick [1, 2] rfl) rfl hl.1 rfl (Nat.le_of_ble_eq_true rfl) dX6_readTerm_85 ⟨(Nat.le_of_ble_eq_true rfl), (Nat.le_of_ble_eq_true rfl)⟩ (fun H locs hpo hG hS hq9 => ?_)
              have hf1066 := hf1066.call hq9 (tk_w.no ht_a0 (by decide))
              obtain ⟨v1070, h_v1070, e_v1070⟩ := tk_inc v3 1 (by decide) (by omega) (by omega)
              refine lv_iinc (v := v1070) (lv' := [(1, .int v1070), (2, .int v1060), (0, .ref a0)]) hx hb dX6_readTerm_88 hl (k := 1) rfl e_v1070 (by decide) rfl (fun ls hl => ?_)
              refine lv_goto (tgt := 6) hx hb dX6_readTerm_91 (by decide) ?_
              exact ih_l994 v1070 _ _ (by omega) (by omega) (by omega) hG hS hf1066 _ (lv_sub hl [0, 2] rfl)
            refine lv_if_eq (tgt := 54) hx hb dX6_readTerm_46 (by decide) (fun c9 => ?_) (fun c9 => ?_)
            · have hc1050 : v1044.toInt = 0 := (fi_eq rfl (show (0 : Int32).toInt = 0 by decide)).mp c9
              refine lv_aload_n hx hb dX6_readTerm_54 rfl (lv_at hl 1 rfl) ?_
              refine lv_bipush (v := 47) hx hb dX6_readTerm_55 (by decide) ?_
              have hk_47 : (47 : Int32).toInt = 47 := by decide
              refine tk_Vi (As := [.int 47]) (rest := []) (ci := 6) ⟨hx, hb, hml, hown, hts⟩ hK hG hZ hS (k_X6_isSign l D cy ld t a0 47 ht_a0) trivial ⟨callB_of 1 hts (wl_in mw_590) rfl rfl rfl (htl _ mw_36) (htl _ mw_587) hd_yX6_isSign ⟨(Nat.le_of_ble_eq_true rfl), (Nat.le_of_ble_eq_true rfl)⟩, htl _ mw_588, htl _ mw_589⟩ ht_a0 (by decide) tk_no rfl (tk_w.pick [] rfl) rfl hl.1 rfl (Nat.le_of_ble_eq_true rfl) dX6_readTerm_57 ⟨(Nat.le_of_ble_eq_true rfl), (Nat.le_of_ble_eq_true rfl)⟩ (fun v1071 H locs hpo hG hS hq9 => ?_)
              have hf2 := hf2.call hq9 tk_w.nil
              obtain ⟨hpo1073, hpo1074, hpo1075, hpo1076⟩ := hpo
              refine lv_if_eq (tgt := 68) hx hb dX6_readTerm_60 (by decide) (fun c9 => ?_) (fun c9 => ?_)
              · have hc1077 : v1071.toInt = 0 := (fi_eq rfl (show (0 : Int32).toInt = 0 by decide)).mp c9
                refine lv_bipush (v := 10) hx hb dX6_readTerm_68 (by decide) ?_
                have hk_10 : (10 : Int32).toInt = 10 := by decide
                exact hj1062 10 _ _ (by omega) (by omega) hG hS hf2 _ (lv_sub hl [0, 1] rfl)
              · have hc1077 : ¬ (v1071.toInt = 0) := fun h9 => c9 ((fi_eq rfl (show (0 : Int32).toInt = 0 by decide)).mpr h9)
                refine lv_bipush (v := 9) hx hb dX6_readTerm_63 (by decide) ?_
                refine lv_goto (tgt := 70) hx hb dX6_readTerm_65 (by decide) ?_
                have hk_9 : (9 : Int32).toInt = 9 := by decide
                exact hj1062 9 _ _ (by omega) (by omega) hG hS hf2 _ (lv_sub hl [0, 1] rfl)
            · have hc1050 : ¬ (v1044.toInt = 0) := fun h9 => c9 ((fi_eq rfl (show (0 : Int32).toInt = 0 by decide)).mpr h9)
              refine lv_bipush (v := 8) hx hb dX6_readTerm_49 (by decide) ?_
              refine lv_goto (tgt := 70) hx hb dX6_readTerm_51 (by decide) ?_
              have hk_8 : (8 : Int32).toInt = 8 := by decide
              exact hj1062 8 _ _ (by omega) (by omega) hG hS hf2 _ (lv_sub hl [0, 1] rfl)
          · have hc1043 : v1037.toInt = 0 := (fi_eq rfl (show (0 : Int32).toInt = 0 by decide)).mp c9
            refine lv_aload_n hx hb dX6_readTerm_31 rfl (lv_at hl 1 rfl) ?_
            refine lv_bipush (v := 37) hx hb dX6_readTerm_32 (by decide) ?_
            have hk_37 : (37 : Int32).toInt = 37 := by decide
            refine tk_Vi (As := [.int 37]) (rest := []) (ci := 6) ⟨hx, hb, hml, hown, hts⟩ hK hG hZ hS (k_X6_isSign l D cy ld t a0 37 ht_a0) trivial ⟨callB_of 1 hts (wl_in mw_590) rfl rfl rfl (htl _ mw_36) (htl _ mw_587) hd_yX6_isSign ⟨(Nat.le_of_ble_eq_true rfl), (Nat.le_of_ble_eq_true rfl)⟩, htl _ mw_588, htl _ mw_589⟩ ht_a0 (by decide) tk_no rfl (tk_w.pick [] rfl) rfl hl.1 rfl (Nat.le_of_ble_eq_true rfl) dX6_readTerm_34 ⟨(Nat.le_of_ble_eq_true rfl), (Nat.le_of_ble_eq_true rfl)⟩ (fun v1078 H locs hpo hG hS hq9 => ?_)
            have hf2 := hf2.call hq9 tk_w.nil
            obtain ⟨hpo1080, hpo1081, hpo1082, hpo1083⟩ := hpo
            refine lv_if_eq (tgt := 94) hx hb dX6_readTerm_37 (by decide) (fun c9 => ?_) (fun c9 => ?_)
            · have hc1084 : v1078.toInt = 0 := (fi_eq rfl (show (0 : Int32).toInt = 0 by decide)).mp c9
              exact tk_vret hx hb hr hlocks (show tk_f D H a0 6 9 (.int 2) from hf2) hG hS dX6_readTerm_94
            · have hc1084 : ¬ (v1078.toInt = 0) := fun h9 => c9 ((fi_eq rfl (show (0 : Int32).toInt = 0 by decide)).mpr h9)
              refine lv_aload_n hx hb dX6_readTerm_40 rfl (lv_at hl 1 rfl) ?_
              refine lv_bipush (v := 42) hx hb dX6_readTerm_41 (by decide) ?_
              have hk_42 : (42 : Int32).toInt = 42 := by decide
              refine tk_Vi (As := [.int 42]) (rest := []) (ci := 6) ⟨hx, hb, hml, hown, hts⟩ hK hG hZ hS (k_X6_isSign l D cy ld t a0 42 ht_a0) trivial ⟨callB_of 1 hts (wl_in mw_590) rfl rfl rfl (htl _ mw_36) (htl _ mw_587) hd_yX6_isSign ⟨(Nat.le_of_ble_eq_true rfl), (Nat.le_of_ble_eq_true rfl)⟩, htl _ mw_588, htl _ mw_589⟩ ht_a0 (by decide) tk_no rfl (tk_w.pick [] rfl) rfl hl.1 rfl (Nat.le_of_ble_eq_true rfl) dX6_readTerm_43 ⟨(Nat.le_of_ble_eq_true rfl), (Nat.le_of_ble_eq_true rfl)⟩ (fun v1085 H locs hpo hG hS hq9 => ?_)
              have hf2 := hf2.call hq9 tk_w.nil
              obtain ⟨hpo1087, hpo1088, hpo1089, hpo1090⟩ := hpo
              have hj1103 : ∀ (v1101 : Int32) (H : Heap) (locs : List Loc), 8 ≤ v1101.toInt → v1101.toInt ≤ 10 → tk_G D cy ld t [] H → va_S (tk_w t [(7, 0, 0), (20, 0, 0), (8, 12, 12)]) s.heap H locs → tk_f D H a0 6 9 (.int 2) → ∀ ls : Array Slot, lv_has ls 3 [(1, .int v3), (0, .ref a0)] → W p l e ({ frames := 28, cells := 0, slots := 0, locals := 1890 }) s m args below meth c H locs 0 0 (MQ below (tv D cy ld t [] (fun H => tk_f D H a0 6 9 (.int 2)) (tk_w t [(7, 0, 0), (20, 0, 0), (8, 12, 12)])) args s 0 0 (tk_w t [(7, 0, 0), (20, 0, 0), (8, 12, 12)])) (F0 m 70 ls [.int v1101]) := by
                intro v1101 H locs hq0_j1103 hq1_j1103 hG hS hf2 ls hl
                refine lv_istore_n (lv' := [(2, .int v1101), (1, .int v3), (0, .ref a0)]) hx hb dX6_readTerm_70 rfl hl (by decide) rfl (fun ls hl => ?_)
                refine lv_aload_n hx hb dX6_readTerm_71 rfl (lv_at hl 2 rfl) ?_
                have hk_2 : (2 : Int32).toInt = 2 := by decide
                refine tk_Vv (As := []) (rest := []) (ci := 6) ⟨hx, hb, hml, hown, hts⟩ hK hG hZ hS (k_X6_step l D cy ld t a0 2 ht_a0 (by omega) (by omega)) hf2 ⟨callB_of 0 hts (wl_in mw_494) rfl rfl rfl (htl _ mw_36) (htl _ mw_491) hd_yX6_step ⟨(Nat.le_of_ble_eq_true rfl), (Nat.le_of_ble_eq_true rfl)⟩, htl _ mw_492, htl _ mw_493⟩ ht_a0 (by decide) tk_no rfl (tk_w.pick [0] rfl) rfl hl.1 rfl (Nat.le_of_ble_eq_true rfl) dX6_readTerm_72 ⟨(Nat.le_of_ble_eq_true rfl), (Nat.le_of_ble_eq_true rfl)⟩ (fun H locs hpo hG hS hq9 => ?_)
                have hf1105 := hpo
                refine lv_aload_n hx hb dX6_readTerm_75 rfl (lv_at hl 2 rfl) ?_
                refine tk_Vv (As := []) (rest := []) (ci := 6) ⟨hx, hb, hml, hown, hts⟩ hK hG hZ hS (k_X6_readPart_2 l D cy ld t a0 ht_a0) hf1105 ⟨callB_of 0 hts (wl_in mw_595) rfl rfl rfl (htl _ mw_36) (htl _ mw_616) hd_yX6_readPart ⟨(Nat.le_of_ble_eq_true rfl), (Nat.le_of_ble_eq_true rfl)⟩, htl _ mw_617, htl _ mw_618⟩ ht_a0 (by decide) tk_no rfl (tk_w.pick [0, 1, 2] rfl) rfl hl.1 rfl (Nat.le_of_ble_eq_true rfl) dX6_readTerm_76 ⟨(Nat.le_of_ble_eq_true rfl), (Nat.le_of_ble_eq_true rfl)⟩ (fun H locs hpo hG hS hq9 => ?_)
                have hf1107 := hpo
                refine lv_aload_n hx hb dX6_readTerm_79 rfl (lv_at hl 2 rfl) ?_
                refine tk_get (ci := 6) (C := RX6) (T := TX6) (N := 11) (sp := (6, 8, 512, 12)) hx hb htl inX6 hown hK hG ht_a0 (by decide) tk_no rfl 0 (by decide) (htl _ mw_132) (fun _ h9 => h9) rfl dX6_readTerm_80 (fun v9 hf1108 hV9 => ?_)
                obtain ⟨b1109, rfl, ht_b1109⟩ := hV9
                have ht_b1109 : t b1109 = (8, 512, 12) := ht_b1109
                refine lv_iload_n hx hb dX6_readTerm_83 rfl (lv_at hl 0 rfl) ?_
                refine lv_iconst (v := 0) hx hb dX6_readTerm_84 (by decide) ?_
                have hk_0 : (0 : Int32).toInt = 0 := by decide
                refine tk_Vv (As := [.int v1101, .int 0]) (rest := []) (ci := 7) ⟨hx, hb, hml, hown, hts⟩ hK hG hZ hS (k_X7_put l D cy ld t b1109 v1101 0 ht_b1109) trivial ⟨callB_of 2 hts (wl_in mw_594) rfl rfl rfl (htl _ mw_131) (htl _ mw_591) hd_yX7_put ⟨(Nat.le_of_ble_eq_true rfl), (Nat.le_of_ble_eq_true rfl)⟩, htl _ mw_592, htl _ mw_593⟩ ht_b1109 (by decide) tk_no rfl (tk_w.pick [1, 2] rfl) rfl hl.1 rfl (Nat.le_of_ble_eq_true rfl) dX6_readTerm_85 ⟨(Nat.le_of_ble_eq_true rfl), (Nat.le_of_ble_eq_true rfl)⟩ (fun H locs hpo hG hS hq9 => ?_)
                have hf1107 := hf1107.call hq9 (tk_w.no ht_a0 (by decide))
                obtain ⟨v1111, h_v1111, e_v1111⟩ := tk_inc v3 1 (by decide) (by omega) (by omega)
                refine lv_iinc (v := v1111) (lv' := [(1, .int v1111), (2, .int v1101), (0, .ref a0)]) hx hb dX6_readTerm_88 hl (k := 1) rfl e_v1111 (by decide) rfl (fun ls hl => ?_)
                refine lv_goto (tgt := 6) hx hb dX6_readTerm_91 (by decide) ?_
                exact ih_l994 v1111 _ _ (by omega) (by omega) (by omega) hG hS hf1107 _ (lv_sub hl [0, 2] rfl)
              refine lv_if_eq (tgt := 54) hx hb dX6_readTerm_46 (by decide) (fun c9 => ?_) (fun c9 => ?_)
              · have hc1091 : v1085.toInt = 0 := (fi_eq rfl (show (0 : Int32).toInt = 0 by decide)).mp c9
                refine lv_aload_n hx hb dX6_readTerm_54 rfl (lv_at hl 1 rfl) ?_
                refine lv_bipush (v := 47) hx hb dX6_readTerm_55 (by decide) ?_
                have hk_47 : (47 : Int32).toInt = 47 := by decide
                refine tk_Vi (As := [.int 47]) (rest := []) (ci := 6) ⟨hx, hb, hml, hown, hts⟩ hK hG hZ hS (k_X6_isSign l D cy ld t a0 47 ht_a0) trivial ⟨callB_of 1 hts (wl_in mw_590) rfl rfl rfl (htl _ mw_36) (htl _ mw_587) hd_yX6_isSign ⟨(Nat.le_of_ble_eq_true rfl), (Nat.le_of_ble_eq_true rfl)⟩, htl _ mw_588, htl _ mw_589⟩ ht_a0 (by decide) tk_no rfl (tk_w.pick [] rfl) rfl hl.1 rfl (Nat.le_of_ble_eq_true rfl) dX6_readTerm_57 ⟨(Nat.le_of_ble_eq_true rfl), (Nat.le_of_ble_eq_true rfl)⟩ (fun v1112 H locs hpo hG hS hq9 => ?_)
                have hf2 := hf2.call hq9 tk_w.nil
                obtain ⟨hpo1114, hpo1115, hpo1116, hpo1117⟩ := hpo
                refine lv_if_eq (tgt := 68) hx hb dX6_readTerm_60 (by decide) (fun c9 => ?_) (fun c9 => ?_)
                · have hc1118 : v1112.toInt = 0 := (fi_eq rfl (show (0 : Int32).toInt = 0 by decide)).mp c9
                  refine lv_bipush (v := 10) hx hb dX6_readTerm_68 (by decide) ?_
                  have hk_10 : (10 : Int32).toInt = 10 := by decide
                  exact hj1103 10 _ _ (by omega) (by omega) hG hS hf2 _ (lv_sub hl [0, 1] rfl)
                · have hc1118 : ¬ (v1112.toInt = 0) := fun h9 => c9 ((fi_eq rfl (show (0 : Int32).toInt = 0 by decide)).mpr h9)
                  refine lv_bipush (v := 9) hx hb dX6_readTerm_63 (by decide) ?_
                  refine lv_goto (tgt := 70) hx hb dX6_readTerm_65 (by decide) ?_
                  have hk_9 : (9 : Int32).toInt = 9 := by decide
                  exact hj1103 9 _ _ (by omega) (by omega) hG hS hf2 _ (lv_sub hl [0, 1] rfl)
              · have hc1091 : ¬ (v1085.toInt = 0) := fun h9 => c9 ((fi_eq rfl (show (0 : Int32).toInt = 0 by decide)).mpr h9)
                refine lv_bipush (v := 8) hx hb dX6_readTerm_49 (by decide) ?_
                refine lv_goto (tgt := 70) hx hb dX6_readTerm_51 (by decide) ?_
                have hk_8 : (8 : Int32).toInt = 8 := by decide
                exact hj1103 8 _ _ (by omega) (by omega) hG hS hf2 _ (lv_sub hl [0, 1] rfl)
  have hk_0 : (0 : Int32).toInt = 0 := by decide
  exact hl994 401 0 _ _ (by omega) (by omega) (by omega) hG hS hf2 _ (lv_sub hl [0, 1] rfl)
set_option maxHeartbeats 4000000 in
set_option maxRecDepth 100000 in
theorem k_X6_readSum_2 (l : Launch) (D : va_G) (cy : Nat → ClassId) (ld : Nat → Nat) (t : tk_T) (a0 : Nat) (ht_a0 : t a0 = (7, 0, 0)) : Met l yX6_readSum (wl yX6_readSum cX6_readSum 3 none) ({ frames := 29, cells := 0, slots := 0, locals := 1960 }) (tp D cy ld t [] [.ref a0] (fun H => tk_f D H a0 6 9 (.int 2))) (tv D cy ld t [] (fun H => tk_f D H a0 6 9 (.int 2)) (tk_w t [(7, 0, 0), (20, 0, 0), (8, 12, 12)])) 0 0 (tk_w t [(7, 0, 0), (20, 0, 0), (8, 12, 12)]) := by
  refine tk_met (y := yX6_readSum) (cc := cX6_readSum) (maxL := 3) (ret := none) (av := [.ref a0]) _ _ (by decide) (Nat.le_of_ble_eq_true rfl) ?_
  intro p e s m args below meth c hx hb hr hml hts htl hown hlocks hK H locs hH hG hS hB hZ ls hl
  have hown : s.vm.findClass RX6 = some m.cls := hown
  have hl : lv_has ls 3 [(0, .ref a0)] := hl
  have hg_0 := hB
  refine lv_aload_n hx hb dX6_readSum_0 rfl (lv_at hl 0 rfl) ?_
  refine tk_Vv (As := []) (rest := []) (ci := 6) ⟨hx, hb, hml, hown, hts⟩ hK hG hZ hS (k_X6_readTerm_2 l D cy ld t a0 ht_a0) hg_0 ⟨callB_of 0 hts (wl_in mw_615) rfl rfl rfl (htl _ mw_36) (htl _ mw_584) hd_yX6_readTerm ⟨(Nat.le_of_ble_eq_true rfl), (Nat.le_of_ble_eq_true rfl)⟩, htl _ mw_585, htl _ mw_586⟩ ht_a0 (by decide) tk_no rfl (tk_w.pick [0, 1, 2] rfl) rfl hl.1 rfl (Nat.le_of_ble_eq_true rfl) dX6_readSum_1 ⟨(Nat.le_of_ble_eq_true rfl), (Nat.le_of_ble_eq_true rfl)⟩ (fun H locs hpo hG hS hq9 => ?_)
  have hf2 := hpo
  refine lv_iconst (v := 0) hx hb dX6_readSum_4 (by decide) ?_
  refine lv_istore_n (lv' := [(1, .int 0), (0, .ref a0)]) hx hb dX6_readSum_5 rfl hl (by decide) rfl (fun ls hl => ?_)
  have hl410 : ∀ (N_l410 : Nat) (v3 : Int32) (H : Heap) (locs : List Loc), 0 ≤ v3.toInt → v3.toInt ≤ 400 → (-1) * v3.toInt + 400 < (N_l410 : Int) → tk_G D cy ld t [] H → va_S (tk_w t [(7, 0, 0), (20, 0, 0), (8, 12, 12)]) s.heap H locs → tk_f D H a0 6 9 (.int 2) → ∀ ls : Array Slot, lv_has ls 3 [(1, .int v3), (0, .ref a0)] → W p l e ({ frames := 29, cells := 0, slots := 0, locals := 1960 }) s m args below meth c H locs 0 0 (MQ below (tv D cy ld t [] (fun H => tk_f D H a0 6 9 (.int 2)) (tk_w t [(7, 0, 0), (20, 0, 0), (8, 12, 12)])) args s 0 0 (tk_w t [(7, 0, 0), (20, 0, 0), (8, 12, 12)])) (F0 m 6 ls []) := by
    intro N_l410
    induction N_l410 with
    | zero => intro v3 H locs hq0_l410 hq1_l410 hm_l410 hG hS hf2 ls hl; exfalso; omega
    | succ N_l410 ih_l410 =>
      intro v3 H locs hq0_l410 hq1_l410 hm_l410 hG hS hf2 ls hl
      refine lv_iload_n hx hb dX6_readSum_6 rfl (lv_at hl 0 rfl) ?_
      refine lv_sipush (v := 400) hx hb dX6_readSum_7 (by decide) ?_
      refine lv_icmp_ge (tgt := 71) hx hb dX6_readSum_10 (by decide) (fun c9 => ?_) (fun c9 => ?_)
      · have hc411 : 400 ≤ v3.toInt := (fi_le (show (400 : Int32).toInt = 400 by decide) rfl).mp c9
        exact tk_vret hx hb hr hlocks (show tk_f D H a0 6 9 (.int 2) from hf2) hG hS dX6_readSum_71
      · have hc411 : ¬ (400 ≤ v3.toInt) := fun h9 => c9 ((fi_le (show (400 : Int32).toInt = 400 by decide) rfl).mpr h9)
        refine lv_aload_n hx hb dX6_readSum_13 rfl (lv_at hl 1 rfl) ?_
        refine lv_bipush (v := 43) hx hb dX6_readSum_14 (by decide) ?_
        have hk_43 : (43 : Int32).toInt = 43 := by decide
        refine tk_Vi (As := [.int 43]) (rest := []) (ci := 6) ⟨hx, hb, hml, hown, hts⟩ hK hG hZ hS (k_X6_isSign l D cy ld t a0 43 ht_a0) trivial ⟨callB_of 1 hts (wl_in mw_590) rfl rfl rfl (htl _ mw_36) (htl _ mw_587) hd_yX6_isSign ⟨(Nat.le_of_ble_eq_true rfl), (Nat.le_of_ble_eq_true rfl)⟩, htl _ mw_588, htl _ mw_589⟩ ht_a0 (by decide) tk_no rfl (tk_w.pick [] rfl) rfl hl.1 rfl (Nat.le_of_ble_eq_true rfl) dX6_readSum_16 ⟨(Nat.le_of_ble_eq_true rfl), (Nat.le_of_ble_eq_true rfl)⟩ (fun v412 H locs hpo hG hS hq9 => ?_)
        have hf2 := hf2.call hq9 tk_w.nil
        obtain ⟨hpo414, hpo415, hpo416, hpo417⟩ := hpo
        refine lv_if_ne (tgt := 31) hx hb dX6_readSum_19 (by decide) (fun c9 => ?_) (fun c9 => ?_)
        · have hc418 : ¬ (v412.toInt = 0) := fun h9 => c9 ((fi_eq rfl (show (0 : Int32).toInt = 0 by decide)).mpr h9)
          refine lv_aload_n hx hb dX6_readSum_31 rfl (lv_at hl 1 rfl) ?_
          refine lv_bipush (v := 43) hx hb dX6_readSum_32 (by decide) ?_
          have hk_43 : (43 : Int32).toInt = 43 := by decide
          refine tk_Vi (As := [.int 43]) (rest := []) (ci := 6) ⟨hx, hb, hml, hown, hts⟩ hK hG hZ hS (k_X6_isSign l D cy ld t a0 43 ht_a0) trivial ⟨callB_of 1 hts (wl_in mw_590) rfl rfl rfl (htl _ mw_36) (htl _ mw_587) hd_yX6_isSign ⟨(Nat.le_of_ble_eq_true rfl), (Nat.le_of_ble_eq_true rfl)⟩, htl _ mw_588, htl _ mw_589⟩ ht_a0 (by decide) tk_no rfl (tk_w.pick [] rfl) rfl hl.1 rfl (Nat.le_of_ble_eq_true rfl) dX6_readSum_34 ⟨(Nat.le_of_ble_eq_true rfl), (Nat.le_of_ble_eq_true rfl)⟩ (fun v419 H locs hpo hG hS hq9 => ?_)
          have hf2 := hf2.call hq9 tk_w.nil
          obtain ⟨hpo421, hpo422, hpo423, hpo424⟩ := hpo
          have hj428 : ∀ (v427 : Int32), 6 ≤ v427.toInt → v427.toInt ≤ 7 → ∀ ls : Array Slot, lv_has ls 3 [(1, .int v3), (0, .ref a0)] → W p l e ({ frames := 29, cells := 0, slots := 0, locals := 1960 }) s m args below meth c H locs 0 0 (MQ below (tv D cy ld t [] (fun H => tk_f D H a0 6 9 (.int 2)) (tk_w t [(7, 0, 0), (20, 0, 0), (8, 12, 12)])) args s 0 0 (tk_w t [(7, 0, 0), (20, 0, 0), (8, 12, 12)])) (F0 m 47 ls [.int v427]) := by
            intro v427 hq0_j428 hq1_j428 ls hl
            refine lv_istore_n (lv' := [(2, .int v427), (1, .int v3), (0, .ref a0)]) hx hb dX6_readSum_47 rfl hl (by decide) rfl (fun ls hl => ?_)
            refine lv_aload_n hx hb dX6_readSum_48 rfl (lv_at hl 2 rfl) ?_
            have hk_2 : (2 : Int32).toInt = 2 := by decide
            refine tk_Vv (As := []) (rest := []) (ci := 6) ⟨hx, hb, hml, hown, hts⟩ hK hG hZ hS (k_X6_step l D cy ld t a0 2 ht_a0 (by omega) (by omega)) hf2 ⟨callB_of 0 hts (wl_in mw_494) rfl rfl rfl (htl _ mw_36) (htl _ mw_491) hd_yX6_step ⟨(Nat.le_of_ble_eq_true rfl), (Nat.le_of_ble_eq_true rfl)⟩, htl _ mw_492, htl _ mw_493⟩ ht_a0 (by decide) tk_no rfl (tk_w.pick [0] rfl) rfl hl.1 rfl (Nat.le_of_ble_eq_true rfl) dX6_readSum_49 ⟨(Nat.le_of_ble_eq_true rfl), (Nat.le_of_ble_eq_true rfl)⟩ (fun H locs hpo hG hS hq9 => ?_)
            have hf430 := hpo
            refine lv_aload_n hx hb dX6_readSum_52 rfl (lv_at hl 2 rfl) ?_
            refine tk_Vv (As := []) (rest := []) (ci := 6) ⟨hx, hb, hml, hown, hts⟩ hK hG hZ hS (k_X6_readTerm_2 l D cy ld t a0 ht_a0) hf430 ⟨callB_of 0 hts (wl_in mw_615) rfl rfl rfl (htl _ mw_36) (htl _ mw_584) hd_yX6_readTerm ⟨(Nat.le_of_ble_eq_true rfl), (Nat.le_of_ble_eq_true rfl)⟩, htl _ mw_585, htl _ mw_586⟩ ht_a0 (by decide) tk_no rfl (tk_w.pick [0, 1, 2] rfl) rfl hl.1 rfl (Nat.le_of_ble_eq_true rfl) dX6_readSum_53 ⟨(Nat.le_of_ble_eq_true rfl), (Nat.le_of_ble_eq_true rfl)⟩ (fun H locs hpo hG hS hq9 => ?_)
            have hf432 := hpo
            refine lv_aload_n hx hb dX6_readSum_56 rfl (lv_at hl 2 rfl) ?_
            refine tk_get (ci := 6) (C := RX6) (T := TX6) (N := 11) (sp := (6, 8, 512, 12)) hx hb htl inX6 hown hK hG ht_a0 (by decide) tk_no rfl 0 (by decide) (htl _ mw_132) (fun _ h9 => h9) rfl dX6_readSum_57 (fun v9 hf433 hV9 => ?_)
            obtain ⟨b434, rfl, ht_b434⟩ := hV9
            have ht_b434 : t b434 = (8, 512, 12) := ht_b434
            refine lv_iload_n hx hb dX6_readSum_60 rfl (lv_at hl 0 rfl) ?_
            refine lv_iconst (v := 0) hx hb dX6_readSum_61 (by decide) ?_
            have hk_0 : (0 : Int32).toInt = 0 := by decide
            refine tk_Vv (As := [.int v427, .int 0]) (rest := []) (ci := 7) ⟨hx, hb, hml, hown, hts⟩ hK hG hZ hS (k_X7_put l D cy ld t b434 v427 0 ht_b434) trivial ⟨callB_of 2 hts (wl_in mw_594) rfl rfl rfl (htl _ mw_131) (htl _ mw_591) hd_yX7_put ⟨(Nat.le_of_ble_eq_true rfl), (Nat.le_of_ble_eq_true rfl)⟩, htl _ mw_592, htl _ mw_593⟩ ht_b434 (by decide) tk_no rfl (tk_w.pick [1, 2] rfl) rfl hl.1 rfl (Nat.le_of_ble_eq_true rfl) dX6_readSum_62 ⟨(Nat.le_of_ble_eq_true rfl), (Nat.le_of_ble_eq_true rfl)⟩ (fun H locs hpo hG hS hq9 => ?_)
            have hf432 := hf432.call hq9 (tk_w.no ht_a0 (by decide))
            obtain ⟨v436, h_v436, e_v436⟩ := tk_inc v3 1 (by decide) (by omega) (by omega)
            refine lv_iinc (v := v436) (lv' := [(1, .int v436), (2, .int v427), (0, .ref a0)]) hx hb dX6_readSum_65 hl (k := 1) rfl e_v436 (by decide) rfl (fun ls hl => ?_)
            refine lv_goto (tgt := 6) hx hb dX6_readSum_68 (by decide) ?_
            exact ih_l410 v436 _ _ (by omega) (by omega) (by omega) hG hS hf432 _ (lv_sub hl [0, 2] rfl)
          refine lv_if_eq (tgt := 45) hx hb dX6_readSum_37 (by decide) (fun c9 => ?_) (fun c9 => ?_)
          · have hc425 : v419.toInt = 0 := (fi_eq rfl (show (0 : Int32).toInt = 0 by decide)).mp c9
            refine lv_bipush (v := 7) hx hb dX6_readSum_45 (by decide) ?_
            have hk_7 : (7 : Int32).toInt = 7 := by decide
            exact hj428 7 (by omega) (by omega) _ (lv_sub hl [0, 1] rfl)
          · have hc425 : ¬ (v419.toInt = 0) := fun h9 => c9 ((fi_eq rfl (show (0 : Int32).toInt = 0 by decide)).mpr h9)
            refine lv_bipush (v := 6) hx hb dX6_readSum_40 (by decide) ?_
            refine lv_goto (tgt := 47) hx hb dX6_readSum_42 (by decide) ?_
            have hk_6 : (6 : Int32).toInt = 6 := by decide
            exact hj428 6 (by omega) (by omega) _ (lv_sub hl [0, 1] rfl)
        · have hc418 : v412.toInt = 0 := (fi_eq rfl (show (0 : Int32).toInt = 0 by decide)).mp c9
          refine lv_aload_n hx hb dX6_readSum_22 rfl (lv_at hl 1 rfl) ?_
          refine lv_bipush (v := 45) hx hb dX6_readSum_23 (by decide) ?_
          have hk_45 : (45 : Int32).toInt = 45 := by decide
          refine tk_Vi (As := [.int 45]) (rest := []) (ci := 6) ⟨hx, hb, hml, hown, hts⟩ hK hG hZ hS (k_X6_isSign l D cy ld t a0 45 ht_a0) trivial ⟨callB_of 1 hts (wl_in mw_590) rfl rfl rfl (htl _ mw_36) (htl _ mw_587) hd_yX6_isSign ⟨(Nat.le_of_ble_eq_true rfl), (Nat.le_of_ble_eq_true rfl)⟩, htl _ mw_588, htl _ mw_589⟩ ht_a0 (by decide) tk_no rfl (tk_w.pick [] rfl) rfl hl.1 rfl (Nat.le_of_ble_eq_true rfl) dX6_readSum_25 ⟨(Nat.le_of_ble_eq_true rfl), (Nat.le_of_ble_eq_true rfl)⟩ (fun v437 H locs hpo hG hS hq9 => ?_)
          have hf2 := hf2.call hq9 tk_w.nil
          obtain ⟨hpo439, hpo440, hpo441, hpo442⟩ := hpo
          refine lv_if_eq (tgt := 71) hx hb dX6_readSum_28 (by decide) (fun c9 => ?_) (fun c9 => ?_)
          · have hc443 : v437.toInt = 0 := (fi_eq rfl (show (0 : Int32).toInt = 0 by decide)).mp c9
            exact tk_vret hx hb hr hlocks (show tk_f D H a0 6 9 (.int 2) from hf2) hG hS dX6_readSum_71
          · have hc443 : ¬ (v437.toInt = 0) := fun h9 => c9 ((fi_eq rfl (show (0 : Int32).toInt = 0 by decide)).mpr h9)
            refine lv_aload_n hx hb dX6_readSum_31 rfl (lv_at hl 1 rfl) ?_
            refine lv_bipush (v := 43) hx hb dX6_readSum_32 (by decide) ?_
            have hk_43 : (43 : Int32).toInt = 43 := by decide
            refine tk_Vi (As := [.int 43]) (rest := []) (ci := 6) ⟨hx, hb, hml, hown, hts⟩ hK hG hZ hS (k_X6_isSign l D cy ld t a0 43 ht_a0) trivial ⟨callB_of 1 hts (wl_in mw_590) rfl rfl rfl (htl _ mw_36) (htl _ mw_587) hd_yX6_isSign ⟨(Nat.le_of_ble_eq_true rfl), (Nat.le_of_ble_eq_true rfl)⟩, htl _ mw_588, htl _ mw_589⟩ ht_a0 (by decide) tk_no rfl (tk_w.pick [] rfl) rfl hl.1 rfl (Nat.le_of_ble_eq_true rfl) dX6_readSum_34 ⟨(Nat.le_of_ble_eq_true rfl), (Nat.le_of_ble_eq_true rfl)⟩ (fun v444 H locs hpo hG hS hq9 => ?_)
            have hf2 := hf2.call hq9 tk_w.nil
            obtain ⟨hpo446, hpo447, hpo448, hpo449⟩ := hpo
            have hj453 : ∀ (v452 : Int32), 6 ≤ v452.toInt → v452.toInt ≤ 7 → ∀ ls : Array Slot, lv_has ls 3 [(1, .int v3), (0, .ref a0)] → W p l e ({ frames := 29, cells := 0, slots := 0, locals := 1960 }) s m args below meth c H locs 0 0 (MQ below (tv D cy ld t [] (fun H => tk_f D H a0 6 9 (.int 2)) (tk_w t [(7, 0, 0), (20, 0, 0), (8, 12, 12)])) args s 0 0 (tk_w t [(7, 0, 0), (20, 0, 0), (8, 12, 12)])) (F0 m 47 ls [.int v452]) := by
              intro v452 hq0_j453 hq1_j453 ls hl
              refine lv_istore_n (lv' := [(2, .int v452), (1, .int v3), (0, .ref a0)]) hx hb dX6_readSum_47 rfl hl (by decide) rfl (fun ls hl => ?_)
              refine lv_aload_n hx hb dX6_readSum_48 rfl (lv_at hl 2 rfl) ?_
              have hk_2 : (2 : Int32).toInt = 2 := by decide
              refine tk_Vv (As := []) (rest := []) (ci := 6) ⟨hx, hb, hml, hown, hts⟩ hK hG hZ hS (k_X6_step l D cy ld t a0 2 ht_a0 (by omega) (by omega)) hf2 ⟨callB_of 0 hts (wl_in mw_494) rfl rfl rfl (htl _ mw_36) (htl _ mw_491) hd_yX6_step ⟨(Nat.le_of_ble_eq_true rfl), (Nat.le_of_ble_eq_true rfl)⟩, htl _ mw_492, htl _ mw_493⟩ ht_a0 (by decide) tk_no rfl (tk_w.pick [0] rfl) rfl hl.1 rfl (Nat.le_of_ble_eq_true rfl) dX6_readSum_49 ⟨(Nat.le_of_ble_eq_true rfl), (Nat.le_of_ble_eq_true rfl)⟩ (fun H locs hpo hG hS hq9 => ?_)
              have hf455 := hpo
              refine lv_aload_n hx hb dX6_readSum_52 rfl (lv_at hl 2 rfl) ?_
              refine tk_Vv (As := []) (rest := []) (ci := 6) ⟨hx, hb, hml, hown, hts⟩ hK hG hZ hS (k_X6_readTerm_2 l D cy ld t a0 ht_a0) hf455 ⟨callB_of 0 hts (wl_in mw_615) rfl rfl rfl (htl _ mw_36) (htl _ mw_584) hd_yX6_readTerm ⟨(Nat.le_of_ble_eq_true rfl), (Nat.le_of_ble_eq_true rfl)⟩, htl _ mw_585, htl _ mw_586⟩ ht_a0 (by decide) tk_no rfl (tk_w.pick [0, 1, 2] rfl) rfl hl.1 rfl (Nat.le_of_ble_eq_true rfl) dX6_readSum_53 ⟨(Nat.le_of_ble_eq_true rfl), (Nat.le_of_ble_eq_true rfl)⟩ (fun H locs hpo hG hS hq9 => ?_)
              have hf457 := hpo
              refine lv_aload_n hx hb dX6_readSum_56 rfl (lv_at hl 2 rfl) ?_
              refine tk_get (ci := 6) (C := RX6) (T := TX6) (N := 11) (sp := (6, 8, 512, 12)) hx hb htl inX6 hown hK hG ht_a0 (by decide) tk_no rfl 0 (by decide) (htl _ mw_132) (fun _ h9 => h9) rfl dX6_readSum_57 (fun v9 hf458 hV9 => ?_)
              obtain ⟨b459, rfl, ht_b459⟩ := hV9
              have ht_b459 : t b459 = (8, 512, 12) := ht_b459
              refine lv_iload_n hx hb dX6_readSum_60 rfl (lv_at hl 0 rfl) ?_
              refine lv_iconst (v := 0) hx hb dX6_readSum_61 (by decide) ?_
              have hk_0 : (0 : Int32).toInt = 0 := by decide
              refine tk_Vv (As := [.int v452, .int 0]) (rest := []) (ci := 7) ⟨hx, hb, hml, hown, hts⟩ hK hG hZ hS (k_X7_put l D cy ld t b459 v452 0 ht_b459) trivial ⟨callB_of 2 hts (wl_in mw_594) rfl rfl rfl (htl _ mw_131) (htl _ mw_591) hd_yX7_put ⟨(Nat.le_of_ble_eq_true rfl), (Nat.le_of_ble_eq_true rfl)⟩, htl _ mw_592, htl _ mw_593⟩ ht_b459 (by decide) tk_no rfl (tk_w.pick [1, 2] rfl) rfl hl.1 rfl (Nat.le_of_ble_eq_true rfl) dX6_readSum_62 ⟨(Nat.le_of_ble_eq_true rfl), (Nat.le_of_ble_eq_true rfl)⟩ (fun H locs hpo hG hS hq9 => ?_)
              have hf457 := hf457.call hq9 (tk_w.no ht_a0 (by decide))
              obtain ⟨v461, h_v461, e_v461⟩ := tk_inc v3 1 (by decide) (by omega) (by omega)
              refine lv_iinc (v := v461) (lv' := [(1, .int v461), (2, .int v452), (0, .ref a0)]) hx hb dX6_readSum_65 hl (k := 1) rfl e_v461 (by decide) rfl (fun ls hl => ?_)
              refine lv_goto (tgt := 6) hx hb dX6_readSum_68 (by decide) ?_
              exact ih_l410 v461 _ _ (by omega) (by omega) (by omega) hG hS hf457 _ (lv_sub hl [0, 2] rfl)
            refine lv_if_eq (tgt := 45) hx hb dX6_readSum_37 (by decide) (fun c9 => ?_) (fun c9 => ?_)
            · have hc450 : v444.toInt = 0 := (fi_eq rfl (show (0 : Int32).toInt = 0 by decide)).mp c9
              refine lv_bipush (v := 7) hx hb dX6_readSum_45 (by decide) ?_
              have hk_7 : (7 : Int32).toInt = 7 := by decide
              exact hj453 7 (by omega) (by omega) _ (lv_sub hl [0, 1] rfl)
            · have hc450 : ¬ (v444.toInt = 0) := fun h9 => c9 ((fi_eq rfl (show (0 : Int32).toInt = 0 by decide)).mpr h9)
              refine lv_bipush (v := 6) hx hb dX6_readSum_40 (by decide) ?_
              refine lv_goto (tgt := 47) hx hb dX6_readSum_42 (by decide) ?_
              have hk_6 : (6 : Int32).toInt = 6 := by decide
              exact hj453 6 (by omega) (by omega) _ (lv_sub hl [0, 1] rfl)
  have hk_0 : (0 : Int32).toInt = 0 := by decide
  exact hl410 401 0 _ _ (by omega) (by omega) (by omega) hG hS hf2 _ (lv_sub hl [0, 1] rfl)
set_option maxHeartbeats 4000000 in
set_option maxRecDepth 100000 in
theorem k_X6_readPart_1 (l : Launch) (D : va_G) (cy : Nat → ClassId) (ld : Nat → Nat) (t : tk_T) (a0 : Nat) (ht_a0 : t a0 = (7, 0, 0)) : Met l yX6_readPart (wl yX6_readPart cX6_readPart 3 none) ({ frames := 30, cells := 0, slots := 0, locals := 2030 }) (tp D cy ld t [] [.ref a0] (fun H => tk_f D H a0 6 9 (.int 1))) (tv D cy ld t [] (fun H => tk_f D H a0 6 9 (.int 1)) (tk_w t [(7, 0, 0), (20, 0, 0), (8, 12, 12)])) 0 0 (tk_w t [(7, 0, 0), (20, 0, 0), (8, 12, 12)]) := by
  refine tk_met (y := yX6_readPart) (cc := cX6_readPart) (maxL := 3) (ret := none) (av := [.ref a0]) _ _ (by decide) (Nat.le_of_ble_eq_true rfl) ?_
  intro p e s m args below meth c hx hb hr hml hts htl hown hlocks hK H locs hH hG hS hB hZ ls hl
  have hown : s.vm.findClass RX6 = some m.cls := hown
  have hl : lv_has ls 3 [(0, .ref a0)] := hl
  have hg_0 := hB
  refine lv_aload_n hx hb dX6_readPart_0 rfl (lv_at hl 0 rfl) ?_
  refine lv_bipush (v := 91) hx hb dX6_readPart_1 (by decide) ?_
  have hk_91 : (91 : Int32).toInt = 91 := by decide
  refine tk_Vi (As := [.int 91]) (rest := []) (ci := 6) ⟨hx, hb, hml, hown, hts⟩ hK hG hZ hS (k_X6_isSign l D cy ld t a0 91 ht_a0) trivial ⟨callB_of 1 hts (wl_in mw_590) rfl rfl rfl (htl _ mw_36) (htl _ mw_587) hd_yX6_isSign ⟨(Nat.le_of_ble_eq_true rfl), (Nat.le_of_ble_eq_true rfl)⟩, htl _ mw_588, htl _ mw_589⟩ ht_a0 (by decide) tk_no rfl (tk_w.pick [] rfl) rfl hl.1 rfl (Nat.le_of_ble_eq_true rfl) dX6_readPart_3 ⟨(Nat.le_of_ble_eq_true rfl), (Nat.le_of_ble_eq_true rfl)⟩ (fun v1 H locs hpo hG hS hq9 => ?_)
  have hg_0 := hg_0.call hq9 tk_w.nil
  obtain ⟨hpo3, hpo4, hpo5, hpo6⟩ := hpo
  refine lv_if_eq (tgt := 37) hx hb dX6_readPart_6 (by decide) (fun c9 => ?_) (fun c9 => ?_)
  · have hc7 : v1.toInt = 0 := (fi_eq rfl (show (0 : Int32).toInt = 0 by decide)).mp c9
    refine lv_aload_n hx hb dX6_readPart_37 rfl (lv_at hl 0 rfl) ?_
    refine tk_Vi (As := []) (rest := []) (ci := 6) ⟨hx, hb, hml, hown, hts⟩ hK hG hZ hS (k_X6_isGood l D cy ld t a0 ht_a0) trivial ⟨callB_of 0 hts (wl_in mw_503) rfl rfl rfl (htl _ mw_36) (htl _ mw_500) hd_yX6_isGood ⟨(Nat.le_of_ble_eq_true rfl), (Nat.le_of_ble_eq_true rfl)⟩, htl _ mw_501, htl _ mw_502⟩ ht_a0 (by decide) tk_no rfl (tk_w.pick [] rfl) rfl hl.1 rfl (Nat.le_of_ble_eq_true rfl) dX6_readPart_38 ⟨(Nat.le_of_ble_eq_true rfl), (Nat.le_of_ble_eq_true rfl)⟩ (fun v8 H locs hpo hG hS hq9 => ?_)
    have hg_0 := hg_0.call hq9 tk_w.nil
    obtain ⟨hpo10, hpo11, hpo12, hpo13⟩ := hpo
    have hj23 : ∀ (v22 : Int32), 0 ≤ v22.toInt → v22.toInt ≤ 1 → ∀ ls : Array Slot, lv_has ls 3 [(0, .ref a0)] → W p l e ({ frames := 30, cells := 0, slots := 0, locals := 2030 }) s m args below meth c H locs 0 0 (MQ below (tv D cy ld t [] (fun H => tk_f D H a0 6 9 (.int 1)) (tk_w t [(7, 0, 0), (20, 0, 0), (8, 12, 12)])) args s 0 0 (tk_w t [(7, 0, 0), (20, 0, 0), (8, 12, 12)])) (F0 m 67 ls [.int v22]) := by
      intro v22 hq0_j23 hq1_j23 ls hl
      refine lv_istore_n (lv' := [(1, .int v22), (0, .ref a0)]) hx hb dX6_readPart_67 rfl hl (by decide) rfl (fun ls hl => ?_)
      refine lv_aload_n hx hb dX6_readPart_68 rfl (lv_at hl 1 rfl) ?_
      refine lv_aload_n hx hb dX6_readPart_69 rfl (lv_at hl 1 rfl) ?_
      refine tk_get (ci := 6) (C := RX6) (T := TX6) (N := 11) (sp := (0, 0, 1, 0)) hx hb htl inX6 hown hK hG ht_a0 (by decide) tk_no rfl 3 (by decide) (htl _ mw_477) (fun _ h9 => h9) rfl dX6_readPart_70 (fun v9 hf24 hV9 => ?_)
      obtain ⟨v25, rfl, (ha_v25 : 0 ≤ v25.toInt), (hb_v25 : v25.toInt ≤ 1)⟩ := hV9
      refine lv_if_eq (tgt := 81) hx hb dX6_readPart_73 (by decide) (fun c9 => ?_) (fun c9 => ?_)
      · have hc26 : v25.toInt = 0 := (fi_eq rfl (show (0 : Int32).toInt = 0 by decide)).mp c9
        refine va_ldcS hx hb hown hK.2.2.2.2.2.2.2.1 dX6_readPart_81 ?_
        refine tk_Vi (As := [.ref (ld 3)]) (rest := []) (ci := 6) ⟨hx, hb, hml, hown, hts⟩ hK hG hZ hS (k_X6_wordAmong_3 l D cy ld t a0 ht_a0) trivial ⟨callB_of 1 hts (wl_in mw_517) rfl rfl rfl (htl _ mw_36) (htl _ mw_514) hd_yX6_wordAmong ⟨(Nat.le_of_ble_eq_true rfl), (Nat.le_of_ble_eq_true rfl)⟩, htl _ mw_515, htl _ mw_516⟩ ht_a0 (by decide) tk_no rfl (tk_w.pick [] rfl) rfl hl.1 rfl (Nat.le_of_ble_eq_true rfl) dX6_readPart_83 ⟨(Nat.le_of_ble_eq_true rfl), (Nat.le_of_ble_eq_true rfl)⟩ (fun v27 H locs hpo hG hS hq9 => ?_)
        have hg_0 := hg_0.call hq9 tk_w.nil
        obtain ⟨hpo29, hpo30⟩ := hpo
        refine lv_istore_n (lv' := [(2, .int v27), (1, .int v22), (0, .ref a0)]) hx hb dX6_readPart_86 rfl hl (by decide) rfl (fun ls hl => ?_)
        refine lv_iload_n hx hb dX6_readPart_87 rfl (lv_at hl 1 rfl) ?_
        refine lv_if_ne (tgt := 96) hx hb dX6_readPart_88 (by decide) (fun c9 => ?_) (fun c9 => ?_)
        · have hc31 : ¬ (v22.toInt = 0) := fun h9 => c9 ((fi_eq rfl (show (0 : Int32).toInt = 0 by decide)).mpr h9)
          refine lv_aload_n hx hb dX6_readPart_96 rfl (lv_at hl 2 rfl) ?_
          refine tk_get (ci := 6) (C := RX6) (T := TX6) (N := 11) (sp := (0, (-2147483648), 2147483647, 0)) hx hb htl inX6 hown hK hG ht_a0 (by decide) tk_no rfl 8 (by decide) (htl _ mw_479) (fun _ h9 => h9) rfl dX6_readPart_97 (fun v9 hf32 hV9 => ?_)
          obtain ⟨v33, rfl, (ha_v33 : (-2147483648) ≤ v33.toInt), (hb_v33 : v33.toInt ≤ 2147483647)⟩ := hV9
          refine lv_bipush (v := 50) hx hb dX6_readPart_100 (by decide) ?_
          refine lv_icmp_lt (tgt := 110) hx hb dX6_readPart_102 (by decide) (fun c9 => ?_) (fun c9 => ?_)
          · have hc34 : v33.toInt < 50 := (fi_lt rfl (show (50 : Int32).toInt = 50 by decide)).mp c9
            refine lv_aload_n hx hb dX6_readPart_110 rfl (lv_at hl 2 rfl) ?_
            refine lv_dup hx hb dX6_readPart_111 rfl ?_
            refine tk_get (ci := 6) (C := RX6) (T := TX6) (N := 11) (sp := (0, (-2147483648), 2147483647, 0)) hx hb htl inX6 hown hK hG ht_a0 (by decide) tk_no rfl 8 (by decide) (htl _ mw_479) (fun _ h9 => h9) rfl dX6_readPart_112 (fun v9 hf35 hV9 => ?_)
            obtain ⟨v36, rfl, (ha_v36 : (-2147483648) ≤ v36.toInt), (hb_v36 : v36.toInt ≤ 2147483647)⟩ := hV9
            refine lv_iconst (v := 1) hx hb dX6_readPart_115 (by decide) ?_
            refine lv_iadd hx hb dX6_readPart_116 ?_
            obtain ⟨v37, hm_v37⟩ : ∃ z : Int32, v36 + 1 = z := ⟨_, rfl⟩
            refine fx_ti hm_v37 ?_
            refine tk_put (ci := 6) (v := .int v37) (ty := .int) (C := RX6) (T := TX6) (N := 11) (sp := (0, (-2147483648), 2147483647, 0)) hx hb htl inX6 tyX6 tyX6_ok nmX6 hown hK hG hS ht_a0 (by decide) tk_no rfl 8 (by decide) (htl _ mw_479) (fun _ h9 => h9) rfl (tyX6_ok 8 (by decide)) rfl rfl rfl (tk_V0 (tk_rng _).1 (tk_rng _).2) (fun _ h => tk_X7 h (by decide) (by decide)) (tk_w.of ht_a0 (by decide) (List.mem_of_getElem? (i := 0) rfl) (Nat.le_refl _) (Nat.le_refl _)) dX6_readPart_117 (fun H locs hG hS hf38 hq9 hj9 => ?_)
            have hg_0 := hj9 9 _ (by decide) (by decide) hg_0
            refine lv_iload_n hx hb dX6_readPart_120 rfl (lv_at hl 1 rfl) ?_
            refine lv_if_eq (tgt := 143) hx hb dX6_readPart_121 (by decide) (fun c9 => absurd (show v22.toInt = 0 from (fi_eq rfl (show (0 : Int32).toInt = 0 by decide)).mp c9) (by omega)) (fun _ => ?_)
            refine lv_aload_n hx hb dX6_readPart_124 rfl (lv_at hl 2 rfl) ?_
            refine tk_get (ci := 6) (C := RX6) (T := TX6) (N := 11) (sp := (6, 8, 512, 12)) hx hb htl inX6 hown hK hG ht_a0 (by decide) tk_no rfl 0 (by decide) (htl _ mw_132) (fun _ h9 => h9) rfl dX6_readPart_125 (fun v9 hf40 hV9 => ?_)
            obtain ⟨b41, rfl, ht_b41⟩ := hV9
            have ht_b41 : t b41 = (8, 512, 12) := ht_b41
            refine lv_iconst (v := 1) hx hb dX6_readPart_128 (by decide) ?_
            refine lv_aload_n hx hb dX6_readPart_129 rfl (lv_at hl 2 rfl) ?_
            refine tk_get (ci := 6) (C := RX6) (T := TX6) (N := 11) (sp := (0, (-2147483648), 2147483647, 0)) hx hb htl inX6 hown hK hG ht_a0 (by decide) tk_no rfl 7 (by decide) (htl _ mw_496) (fun _ h9 => h9) rfl dX6_readPart_130 (fun v9 hf42 hV9 => ?_)
            obtain ⟨v43, rfl, (ha_v43 : (-2147483648) ≤ v43.toInt), (hb_v43 : v43.toInt ≤ 2147483647)⟩ := hV9
            have hk_1 : (1 : Int32).toInt = 1 := by decide
            refine tk_Vv (As := [.int 1, .int v43]) (rest := []) (ci := 7) ⟨hx, hb, hml, hown, hts⟩ hK hG hZ hS (k_X7_put l D cy ld t b41 1 v43 ht_b41) trivial ⟨callB_of 2 hts (wl_in mw_594) rfl rfl rfl (htl _ mw_131) (htl _ mw_591) hd_yX7_put ⟨(Nat.le_of_ble_eq_true rfl), (Nat.le_of_ble_eq_true rfl)⟩, htl _ mw_592, htl _ mw_593⟩ ht_b41 (by decide) tk_no rfl (tk_w.pick [1, 2] rfl) rfl hl.1 rfl (Nat.le_of_ble_eq_true rfl) dX6_readPart_133 ⟨(Nat.le_of_ble_eq_true rfl), (Nat.le_of_ble_eq_true rfl)⟩ (fun H locs hpo hG hS hq9 => ?_)
            have hg_0 := hg_0.call hq9 (tk_w.no ht_a0 (by decide))
            have hf42 := hf42.call hq9 (tk_w.no ht_a0 (by decide))
            refine lv_aload_n hx hb dX6_readPart_136 rfl (lv_at hl 2 rfl) ?_
            have hk_1 : (1 : Int32).toInt = 1 := by decide
            refine tk_Vv (As := []) (rest := []) (ci := 6) ⟨hx, hb, hml, hown, hts⟩ hK hG hZ hS (k_X6_step l D cy ld t a0 1 ht_a0 (by omega) (by omega)) hg_0 ⟨callB_of 0 hts (wl_in mw_494) rfl rfl rfl (htl _ mw_36) (htl _ mw_491) hd_yX6_step ⟨(Nat.le_of_ble_eq_true rfl), (Nat.le_of_ble_eq_true rfl)⟩, htl _ mw_492, htl _ mw_493⟩ ht_a0 (by decide) tk_no rfl (tk_w.pick [0] rfl) rfl hl.1 rfl (Nat.le_of_ble_eq_true rfl) dX6_readPart_137 ⟨(Nat.le_of_ble_eq_true rfl), (Nat.le_of_ble_eq_true rfl)⟩ (fun H locs hpo hG hS hq9 => ?_)
            have hf46 := hpo
            refine lv_goto (tgt := 175) hx hb dX6_readPart_140 (by decide) ?_
            exact tk_vret hx hb hr hlocks (show tk_f D H a0 6 9 (.int 1) from hf46) hG hS dX6_readPart_175
          · have hc34 : ¬ (v33.toInt < 50) := fun h9 => c9 ((fi_lt rfl (show (50 : Int32).toInt = 50 by decide)).mpr h9)
            refine lv_aload_n hx hb dX6_readPart_105 rfl (lv_at hl 2 rfl) ?_
            have hk_1 : (1 : Int32).toInt = 1 := by decide
            refine tk_Vv (As := []) (rest := []) (ci := 6) ⟨hx, hb, hml, hown, hts⟩ hK hG hZ hS (k_X6_fail l D cy ld t a0 1 ht_a0 (by omega) (by omega)) hg_0 ⟨callB_of 0 hts (wl_in mw_507) rfl rfl rfl (htl _ mw_36) (htl _ mw_504) hd_yX6_fail ⟨(Nat.le_of_ble_eq_true rfl), (Nat.le_of_ble_eq_true rfl)⟩, htl _ mw_505, htl _ mw_506⟩ ht_a0 (by decide) tk_no rfl (tk_w.pick [0] rfl) rfl hl.1 rfl (Nat.le_of_ble_eq_true rfl) dX6_readPart_106 ⟨(Nat.le_of_ble_eq_true rfl), (Nat.le_of_ble_eq_true rfl)⟩ (fun H locs hpo hG hS hq9 => ?_)
            have hf48 := hpo
            exact tk_vret hx hb hr hlocks (show tk_f D H a0 6 9 (.int 1) from hf48) hG hS dX6_readPart_109
        · have hc31 : v22.toInt = 0 := (fi_eq rfl (show (0 : Int32).toInt = 0 by decide)).mp c9
          refine lv_iload_n hx hb dX6_readPart_91 rfl (lv_at hl 0 rfl) ?_
          refine lv_iconst (v := (-1)) hx hb dX6_readPart_92 (by decide) ?_
          refine lv_icmp_eq (tgt := 105) hx hb dX6_readPart_93 (by decide) (fun c9 => ?_) (fun c9 => ?_)
          · have hc49 : v27.toInt = (-1) := (fi_eq rfl (show ((-1) : Int32).toInt = (-1) by decide)).mp c9
            refine lv_aload_n hx hb dX6_readPart_105 rfl (lv_at hl 2 rfl) ?_
            have hk_1 : (1 : Int32).toInt = 1 := by decide
            refine tk_Vv (As := []) (rest := []) (ci := 6) ⟨hx, hb, hml, hown, hts⟩ hK hG hZ hS (k_X6_fail l D cy ld t a0 1 ht_a0 (by omega) (by omega)) hg_0 ⟨callB_of 0 hts (wl_in mw_507) rfl rfl rfl (htl _ mw_36) (htl _ mw_504) hd_yX6_fail ⟨(Nat.le_of_ble_eq_true rfl), (Nat.le_of_ble_eq_true rfl)⟩, htl _ mw_505, htl _ mw_506⟩ ht_a0 (by decide) tk_no rfl (tk_w.pick [0] rfl) rfl hl.1 rfl (Nat.le_of_ble_eq_true rfl) dX6_readPart_106 ⟨(Nat.le_of_ble_eq_true rfl), (Nat.le_of_ble_eq_true rfl)⟩ (fun H locs hpo hG hS hq9 => ?_)
            have hf51 := hpo
            exact tk_vret hx hb hr hlocks (show tk_f D H a0 6 9 (.int 1) from hf51) hG hS dX6_readPart_109
          · have hc49 : ¬ (v27.toInt = (-1)) := fun h9 => c9 ((fi_eq rfl (show ((-1) : Int32).toInt = (-1) by decide)).mpr h9)
            refine lv_aload_n hx hb dX6_readPart_96 rfl (lv_at hl 2 rfl) ?_
            refine tk_get (ci := 6) (C := RX6) (T := TX6) (N := 11) (sp := (0, (-2147483648), 2147483647, 0)) hx hb htl inX6 hown hK hG ht_a0 (by decide) tk_no rfl 8 (by decide) (htl _ mw_479) (fun _ h9 => h9) rfl dX6_readPart_97 (fun v9 hf52 hV9 => ?_)
            obtain ⟨v53, rfl, (ha_v53 : (-2147483648) ≤ v53.toInt), (hb_v53 : v53.toInt ≤ 2147483647)⟩ := hV9
            refine lv_bipush (v := 50) hx hb dX6_readPart_100 (by decide) ?_
            refine lv_icmp_lt (tgt := 110) hx hb dX6_readPart_102 (by decide) (fun c9 => ?_) (fun c9 => ?_)
            · have hc54 : v53.toInt < 50 := (fi_lt rfl (show (50 : Int32).toInt = 50 by decide)).mp c9
              refine lv_aload_n hx hb dX6_readPart_110 rfl (lv_at hl 2 rfl) ?_
              refine lv_dup hx hb dX6_readPart_111 rfl ?_
              refine tk_get (ci := 6) (C := RX6) (T := TX6) (N := 11) (sp := (0, (-2147483648), 2147483647, 0)) hx hb htl inX6 hown hK hG ht_a0 (by decide) tk_no rfl 8 (by decide) (htl _ mw_479) (fun _ h9 => h9) rfl dX6_readPart_112 (fun v9 hf55 hV9 => ?_)
              obtain ⟨v56, rfl, (ha_v56 : (-2147483648) ≤ v56.toInt), (hb_v56 : v56.toInt ≤ 2147483647)⟩ := hV9
              refine lv_iconst (v := 1) hx hb dX6_readPart_115 (by decide) ?_
              refine lv_iadd hx hb dX6_readPart_116 ?_
              obtain ⟨v57, hm_v57⟩ : ∃ z : Int32, v56 + 1 = z := ⟨_, rfl⟩
              refine fx_ti hm_v57 ?_
              refine tk_put (ci := 6) (v := .int v57) (ty := .int) (C := RX6) (T := TX6) (N := 11) (sp := (0, (-2147483648), 2147483647, 0)) hx hb htl inX6 tyX6 tyX6_ok nmX6 hown hK hG hS ht_a0 (by decide) tk_no rfl 8 (by decide) (htl _ mw_479) (fun _ h9 => h9) rfl (tyX6_ok 8 (by decide)) rfl rfl rfl (tk_V0 (tk_rng _).1 (tk_rng _).2) (fun _ h => tk_X7 h (by decide) (by decide)) (tk_w.of ht_a0 (by decide) (List.mem_of_getElem? (i := 0) rfl) (Nat.le_refl _) (Nat.le_refl _)) dX6_readPart_117 (fun H locs hG hS hf58 hq9 hj9 => ?_)
              have hg_0 := hj9 9 _ (by decide) (by decide) hg_0
              refine lv_iload_n hx hb dX6_readPart_120 rfl (lv_at hl 1 rfl) ?_
              refine lv_if_eq (tgt := 143) hx hb dX6_readPart_121 (by decide) (fun _ => ?_) (fun c9 => absurd ((fi_eq rfl (show (0 : Int32).toInt = 0 by decide)).mpr (show v22.toInt = 0 by omega)) c9)
              refine lv_aload_n hx hb dX6_readPart_143 rfl (lv_at hl 2 rfl) ?_
              have hk_1 : (1 : Int32).toInt = 1 := by decide
              refine tk_Vv (As := []) (rest := []) (ci := 6) ⟨hx, hb, hml, hown, hts⟩ hK hG hZ hS (k_X6_step l D cy ld t a0 1 ht_a0 (by omega) (by omega)) hg_0 ⟨callB_of 0 hts (wl_in mw_494) rfl rfl rfl (htl _ mw_36) (htl _ mw_491) hd_yX6_step ⟨(Nat.le_of_ble_eq_true rfl), (Nat.le_of_ble_eq_true rfl)⟩, htl _ mw_492, htl _ mw_493⟩ ht_a0 (by decide) tk_no rfl (tk_w.pick [0] rfl) rfl hl.1 rfl (Nat.le_of_ble_eq_true rfl) dX6_readPart_144 ⟨(Nat.le_of_ble_eq_true rfl), (Nat.le_of_ble_eq_true rfl)⟩ (fun H locs hpo hG hS hq9 => ?_)
              have hf61 := hpo
              refine lv_aload_n hx hb dX6_readPart_147 rfl (lv_at hl 2 rfl) ?_
              refine tk_get (ci := 6) (C := RX6) (T := TX6) (N := 11) (sp := (6, 8, 512, 12)) hx hb htl inX6 hown hK hG ht_a0 (by decide) tk_no rfl 0 (by decide) (htl _ mw_132) (fun _ h9 => h9) rfl dX6_readPart_148 (fun v9 hf62 hV9 => ?_)
              obtain ⟨b63, rfl, ht_b63⟩ := hV9
              have ht_b63 : t b63 = (8, 512, 12) := ht_b63
              refine lv_iconst (v := 2) hx hb dX6_readPart_151 (by decide) ?_
              refine lv_aload_n hx hb dX6_readPart_152 rfl (lv_at hl 2 rfl) ?_
              refine tk_get (ci := 6) (C := RX6) (T := TX6) (N := 11) (sp := (0, 0, 1, 0)) hx hb htl inX6 hown hK hG ht_a0 (by decide) tk_no rfl 3 (by decide) (htl _ mw_477) (fun _ h9 => h9) rfl dX6_readPart_153 (fun v9 hf64 hV9 => ?_)
              obtain ⟨v65, rfl, (ha_v65 : 0 ≤ v65.toInt), (hb_v65 : v65.toInt ≤ 1)⟩ := hV9
              have hj76 : ∀ (v74 : Int32) (H : Heap) (locs : List Loc), tk_G D cy ld t [] H → va_S (tk_w t [(7, 0, 0), (20, 0, 0), (8, 12, 12)]) s.heap H locs → tk_f D H a0 6 9 (.int 1) → ∀ ls : Array Slot, lv_has ls 3 [] → W p l e ({ frames := 30, cells := 0, slots := 0, locals := 2030 }) s m args below meth c H locs 0 0 (MQ below (tv D cy ld t [] (fun H => tk_f D H a0 6 9 (.int 1)) (tk_w t [(7, 0, 0), (20, 0, 0), (8, 12, 12)])) args s 0 0 (tk_w t [(7, 0, 0), (20, 0, 0), (8, 12, 12)])) (F0 m 172 ls [.int v74, .int 2, .ref b63]) := by
                intro v74 H locs hG hS hf69 ls hl
                have hk_2 : (2 : Int32).toInt = 2 := by decide
                refine tk_Vv (As := [.int 2, .int v74]) (rest := []) (ci := 7) ⟨hx, hb, hml, hown, hts⟩ hK hG hZ hS (k_X7_put l D cy ld t b63 2 v74 ht_b63) trivial ⟨callB_of 2 hts (wl_in mw_594) rfl rfl rfl (htl _ mw_131) (htl _ mw_591) hd_yX7_put ⟨(Nat.le_of_ble_eq_true rfl), (Nat.le_of_ble_eq_true rfl)⟩, htl _ mw_592, htl _ mw_593⟩ ht_b63 (by decide) tk_no rfl (tk_w.pick [1, 2] rfl) rfl hl.1 rfl (Nat.le_of_ble_eq_true rfl) dX6_readPart_172 ⟨(Nat.le_of_ble_eq_true rfl), (Nat.le_of_ble_eq_true rfl)⟩ (fun H locs hpo hG hS hq9 => ?_)
                have hf69 := hf69.call hq9 (tk_w.no ht_a0 (by decide))
                exact tk_vret hx hb hr hlocks (show tk_f D H a0 6 9 (.int 1) from hf69) hG hS dX6_readPart_175
              refine lv_if_eq (tgt := 167) hx hb dX6_readPart_156 (by decide) (fun c9 => ?_) (fun c9 => ?_)
              · have hc66 : v65.toInt = 0 := (fi_eq rfl (show (0 : Int32).toInt = 0 by decide)).mp c9
                refine lv_aload_n hx hb dX6_readPart_167 rfl (lv_at hl 2 rfl) ?_
                refine lv_iload_n hx hb dX6_readPart_168 rfl (lv_at hl 0 rfl) ?_
                have hk_1 : (1 : Int32).toInt = 1 := by decide
                refine tk_Vi (As := [.int v27]) (rest := [.int 2, .ref b63]) (ci := 6) ⟨hx, hb, hml, hown, hts⟩ hK hG hZ hS (k_X6_readOwner l D cy ld t a0 v27 1 ht_a0 (by omega) (by omega)) hf61 ⟨callB_of 1 hts (wl_in mw_614) rfl rfl rfl (htl _ mw_36) (htl _ mw_611) hd_yX6_readOwner ⟨(Nat.le_of_ble_eq_true rfl), (Nat.le_of_ble_eq_true rfl)⟩, htl _ mw_612, htl _ mw_613⟩ ht_a0 (by decide) tk_no rfl (tk_w.pick [0] rfl) rfl hl.1 rfl (Nat.le_of_ble_eq_true rfl) dX6_readPart_169 ⟨(Nat.le_of_ble_eq_true rfl), (Nat.le_of_ble_eq_true rfl)⟩ (fun v78 H locs hpo hG hS hq9 => ?_)
                have hf80 := hpo
                exact hj76 v78 _ _ hG hS hf80 _ (lv_sub hl [] rfl)
              · have hc66 : ¬ (v65.toInt = 0) := fun h9 => c9 ((fi_eq rfl (show (0 : Int32).toInt = 0 by decide)).mpr h9)
                refine lv_aload_n hx hb dX6_readPart_159 rfl (lv_at hl 2 rfl) ?_
                refine lv_iload_n hx hb dX6_readPart_160 rfl (lv_at hl 0 rfl) ?_
                refine tk_Vi (As := [.int v27]) (rest := [.int 2, .ref b63]) (ci := 6) ⟨hx, hb, hml, hown, hts⟩ hK hG hZ hS (k_X6_noteLawWord l D cy ld t a0 v27 ht_a0) trivial ⟨callB_of 1 hts (wl_in mw_607) rfl rfl rfl (htl _ mw_36) (htl _ mw_604) hd_yX6_noteLawWord ⟨(Nat.le_of_ble_eq_true rfl), (Nat.le_of_ble_eq_true rfl)⟩, htl _ mw_605, htl _ mw_606⟩ ht_a0 (by decide) tk_no rfl (tk_w.pick [2] rfl) rfl hl.1 rfl (Nat.le_of_ble_eq_true rfl) dX6_readPart_161 ⟨(Nat.le_of_ble_eq_true rfl), (Nat.le_of_ble_eq_true rfl)⟩ (fun v81 H locs hpo hG hS hq9 => ?_)
                have hf61 := hf61.call hq9 (tk_w.no ht_a0 (by decide))
                refine lv_goto (tgt := 172) hx hb dX6_readPart_164 (by decide) ?_
                exact hj76 v81 _ _ hG hS hf61 _ (lv_sub hl [] rfl)
            · have hc54 : ¬ (v53.toInt < 50) := fun h9 => c9 ((fi_lt rfl (show (50 : Int32).toInt = 50 by decide)).mpr h9)
              refine lv_aload_n hx hb dX6_readPart_105 rfl (lv_at hl 2 rfl) ?_
              have hk_1 : (1 : Int32).toInt = 1 := by decide
              refine tk_Vv (As := []) (rest := []) (ci := 6) ⟨hx, hb, hml, hown, hts⟩ hK hG hZ hS (k_X6_fail l D cy ld t a0 1 ht_a0 (by omega) (by omega)) hg_0 ⟨callB_of 0 hts (wl_in mw_507) rfl rfl rfl (htl _ mw_36) (htl _ mw_504) hd_yX6_fail ⟨(Nat.le_of_ble_eq_true rfl), (Nat.le_of_ble_eq_true rfl)⟩, htl _ mw_505, htl _ mw_506⟩ ht_a0 (by decide) tk_no rfl (tk_w.pick [0] rfl) rfl hl.1 rfl (Nat.le_of_ble_eq_true rfl) dX6_readPart_106 ⟨(Nat.le_of_ble_eq_true rfl), (Nat.le_of_ble_eq_true rfl)⟩ (fun H locs hpo hG hS hq9 => ?_)
              have hf84 := hpo
              exact tk_vret hx hb hr hlocks (show tk_f D H a0 6 9 (.int 1) from hf84) hG hS dX6_readPart_109
      · have hc26 : ¬ (v25.toInt = 0) := fun h9 => c9 ((fi_eq rfl (show (0 : Int32).toInt = 0 by decide)).mpr h9)
        refine va_ldcS hx hb hown hK.2.2.2.2.2.2.1 dX6_readPart_76 ?_
        refine lv_goto (tgt := 83) hx hb dX6_readPart_78 (by decide) ?_
        refine tk_Vi (As := [.ref (ld 2)]) (rest := []) (ci := 6) ⟨hx, hb, hml, hown, hts⟩ hK hG hZ hS (k_X6_wordAmong_2 l D cy ld t a0 ht_a0) trivial ⟨callB_of 1 hts (wl_in mw_517) rfl rfl rfl (htl _ mw_36) (htl _ mw_514) hd_yX6_wordAmong ⟨(Nat.le_of_ble_eq_true rfl), (Nat.le_of_ble_eq_true rfl)⟩, htl _ mw_515, htl _ mw_516⟩ ht_a0 (by decide) tk_no rfl (tk_w.pick [] rfl) rfl hl.1 rfl (Nat.le_of_ble_eq_true rfl) dX6_readPart_83 ⟨(Nat.le_of_ble_eq_true rfl), (Nat.le_of_ble_eq_true rfl)⟩ (fun v85 H locs hpo hG hS hq9 => ?_)
        have hg_0 := hg_0.call hq9 tk_w.nil
        obtain ⟨hpo87, hpo88⟩ := hpo
        refine lv_istore_n (lv' := [(2, .int v85), (1, .int v22), (0, .ref a0)]) hx hb dX6_readPart_86 rfl hl (by decide) rfl (fun ls hl => ?_)
        refine lv_iload_n hx hb dX6_readPart_87 rfl (lv_at hl 1 rfl) ?_
        refine lv_if_ne (tgt := 96) hx hb dX6_readPart_88 (by decide) (fun c9 => ?_) (fun c9 => ?_)
        · have hc89 : ¬ (v22.toInt = 0) := fun h9 => c9 ((fi_eq rfl (show (0 : Int32).toInt = 0 by decide)).mpr h9)
          refine lv_aload_n hx hb dX6_readPart_96 rfl (lv_at hl 2 rfl) ?_
          refine tk_get (ci := 6) (C := RX6) (T := TX6) (N := 11) (sp := (0, (-2147483648), 2147483647, 0)) hx hb htl inX6 hown hK hG ht_a0 (by decide) tk_no rfl 8 (by decide) (htl _ mw_479) (fun _ h9 => h9) rfl dX6_readPart_97 (fun v9 hf90 hV9 => ?_)
          obtain ⟨v91, rfl, (ha_v91 : (-2147483648) ≤ v91.toInt), (hb_v91 : v91.toInt ≤ 2147483647)⟩ := hV9
          refine lv_bipush (v := 50) hx hb dX6_readPart_100 (by decide) ?_
          refine lv_icmp_lt (tgt := 110) hx hb dX6_readPart_102 (by decide) (fun c9 => ?_) (fun c9 => ?_)
          · have hc92 : v91.toInt < 50 := (fi_lt rfl (show (50 : Int32).toInt = 50 by decide)).mp c9
            refine lv_aload_n hx hb dX6_readPart_110 rfl (lv_at hl 2 rfl) ?_
            refine lv_dup hx hb dX6_readPart_111 rfl ?_
            refine tk_get (ci := 6) (C := RX6) (T := TX6) (N := 11) (sp := (0, (-2147483648), 2147483647, 0)) hx hb htl inX6 hown hK hG ht_a0 (by decide) tk_no rfl 8 (by decide) (htl _ mw_479) (fun _ h9 => h9) rfl dX6_readPart_112 (fun v9 hf93 hV9 => ?_)
            obtain ⟨v94, rfl, (ha_v94 : (-2147483648) ≤ v94.toInt), (hb_v94 : v94.toInt ≤ 2147483647)⟩ := hV9
            refine lv_iconst (v := 1) hx hb dX6_readPart_115 (by decide) ?_
            refine lv_iadd hx hb dX6_readPart_116 ?_
            obtain ⟨v95, hm_v95⟩ : ∃ z : Int32, v94 + 1 = z := ⟨_, rfl⟩
            refine fx_ti hm_v95 ?_
            refine tk_put (ci := 6) (v := .int v95) (ty := .int) (C := RX6) (T := TX6) (N := 11) (sp := (0, (-2147483648), 2147483647, 0)) hx hb htl inX6 tyX6 tyX6_ok nmX6 hown hK hG hS ht_a0 (by decide) tk_no rfl 8 (by decide) (htl _ mw_479) (fun _ h9 => h9) rfl (tyX6_ok 8 (by decide)) rfl rfl rfl (tk_V0 (tk_rng _).1 (tk_rng _).2) (fun _ h => tk_X7 h (by decide) (by decide)) (tk_w.of ht_a0 (by decide) (List.mem_of_getElem? (i := 0) rfl) (Nat.le_refl _) (Nat.le_refl _)) dX6_readPart_117 (fun H locs hG hS hf96 hq9 hj9 => ?_)
            have hg_0 := hj9 9 _ (by decide) (by decide) hg_0
            refine lv_iload_n hx hb dX6_readPart_120 rfl (lv_at hl 1 rfl) ?_
            refine lv_if_eq (tgt := 143) hx hb dX6_readPart_121 (by decide) (fun c9 => absurd (show v22.toInt = 0 from (fi_eq rfl (show (0 : Int32).toInt = 0 by decide)).mp c9) (by omega)) (fun _ => ?_)
            refine lv_aload_n hx hb dX6_readPart_124 rfl (lv_at hl 2 rfl) ?_
            refine tk_get (ci := 6) (C := RX6) (T := TX6) (N := 11) (sp := (6, 8, 512, 12)) hx hb htl inX6 hown hK hG ht_a0 (by decide) tk_no rfl 0 (by decide) (htl _ mw_132) (fun _ h9 => h9) rfl dX6_readPart_125 (fun v9 hf98 hV9 => ?_)
            obtain ⟨b99, rfl, ht_b99⟩ := hV9
            have ht_b99 : t b99 = (8, 512, 12) := ht_b99
            refine lv_iconst (v := 1) hx hb dX6_readPart_128 (by decide) ?_
            refine lv_aload_n hx hb dX6_readPart_129 rfl (lv_at hl 2 rfl) ?_
            refine tk_get (ci := 6) (C := RX6) (T := TX6) (N := 11) (sp := (0, (-2147483648), 2147483647, 0)) hx hb htl inX6 hown hK hG ht_a0 (by decide) tk_no rfl 7 (by decide) (htl _ mw_496) (fun _ h9 => h9) rfl dX6_readPart_130 (fun v9 hf100 hV9 => ?_)
            obtain ⟨v101, rfl, (ha_v101 : (-2147483648) ≤ v101.toInt), (hb_v101 : v101.toInt ≤ 2147483647)⟩ := hV9
            have hk_1 : (1 : Int32).toInt = 1 := by decide
            refine tk_Vv (As := [.int 1, .int v101]) (rest := []) (ci := 7) ⟨hx, hb, hml, hown, hts⟩ hK hG hZ hS (k_X7_put l D cy ld t b99 1 v101 ht_b99) trivial ⟨callB_of 2 hts (wl_in mw_594) rfl rfl rfl (htl _ mw_131) (htl _ mw_591) hd_yX7_put ⟨(Nat.le_of_ble_eq_true rfl), (Nat.le_of_ble_eq_true rfl)⟩, htl _ mw_592, htl _ mw_593⟩ ht_b99 (by decide) tk_no rfl (tk_w.pick [1, 2] rfl) rfl hl.1 rfl (Nat.le_of_ble_eq_true rfl) dX6_readPart_133 ⟨(Nat.le_of_ble_eq_true rfl), (Nat.le_of_ble_eq_true rfl)⟩ (fun H locs hpo hG hS hq9 => ?_)
            have hg_0 := hg_0.call hq9 (tk_w.no ht_a0 (by decide))
            have hf100 := hf100.call hq9 (tk_w.no ht_a0 (by decide))
            refine lv_aload_n hx hb dX6_readPart_136 rfl (lv_at hl 2 rfl) ?_
            have hk_1 : (1 : Int32).toInt = 1 := by decide
            refine tk_Vv (As := []) (rest := []) (ci := 6) ⟨hx, hb, hml, hown, hts⟩ hK hG hZ hS (k_X6_step l D cy ld t a0 1 ht_a0 (by omega) (by omega)) hg_0 ⟨callB_of 0 hts (wl_in mw_494) rfl rfl rfl (htl _ mw_36) (htl _ mw_491) hd_yX6_step ⟨(Nat.le_of_ble_eq_true rfl), (Nat.le_of_ble_eq_true rfl)⟩, htl _ mw_492, htl _ mw_493⟩ ht_a0 (by decide) tk_no rfl (tk_w.pick [0] rfl) rfl hl.1 rfl (Nat.le_of_ble_eq_true rfl) dX6_readPart_137 ⟨(Nat.le_of_ble_eq_true rfl), (Nat.le_of_ble_eq_true rfl)⟩ (fun H locs hpo hG hS hq9 => ?_)
            have hf104 := hpo
            refine lv_goto (tgt := 175) hx hb dX6_readPart_140 (by decide) ?_
            exact tk_vret hx hb hr hlocks (show tk_f D H a0 6 9 (.int 1) from hf104) hG hS dX6_readPart_175
          · have hc92 : ¬ (v91.toInt < 50) := fun h9 => c9 ((fi_lt rfl (show (50 : Int32).toInt = 50 by decide)).mpr h9)
            refine lv_aload_n hx hb dX6_readPart_105 rfl (lv_at hl 2 rfl) ?_
            have hk_1 : (1 : Int32).toInt = 1 := by decide
            refine tk_Vv (As := []) (rest := []) (ci := 6) ⟨hx, hb, hml, hown, hts⟩ hK hG hZ hS (k_X6_fail l D cy ld t a0 1 ht_a0 (by omega) (by omega)) hg_0 ⟨callB_of 0 hts (wl_in mw_507) rfl rfl rfl (htl _ mw_36) (htl _ mw_504) hd_yX6_fail ⟨(Nat.le_of_ble_eq_true rfl), (Nat.le_of_ble_eq_true rfl)⟩, htl _ mw_505, htl _ mw_506⟩ ht_a0 (by decide) tk_no rfl (tk_w.pick [0] rfl) rfl hl.1 rfl (Nat.le_of_ble_eq_true rfl) dX6_readPart_106 ⟨(Nat.le_of_ble_eq_true rfl), (Nat.le_of_ble_eq_true rfl)⟩ (fun H locs hpo hG hS hq9 => ?_)
            have hf106 := hpo
            exact tk_vret hx hb hr hlocks (show tk_f D H a0 6 9 (.int 1) from hf106) hG hS dX6_readPart_109
        · have hc89 : v22.toInt = 0 := (fi_eq rfl (show (0 : Int32).toInt = 0 by decide)).mp c9
          refine lv_iload_n hx hb dX6_readPart_91 rfl (lv_at hl 0 rfl) ?_
          refine lv_iconst (v := (-1)) hx hb dX6_readPart_92 (by decide) ?_
          refine lv_icmp_eq (tgt := 105) hx hb dX6_readPart_93 (by decide) (fun c9 => ?_) (fun c9 => ?_)
          · have hc107 : v85.toInt = (-1) := (fi_eq rfl (show ((-1) : Int32).toInt = (-1) by decide)).mp c9
            refine lv_aload_n hx hb dX6_readPart_105 rfl (lv_at hl 2 rfl) ?_
            have hk_1 : (1 : Int32).toInt = 1 := by decide
            refine tk_Vv (As := []) (rest := []) (ci := 6) ⟨hx, hb, hml, hown, hts⟩ hK hG hZ hS (k_X6_fail l D cy ld t a0 1 ht_a0 (by omega) (by omega)) hg_0 ⟨callB_of 0 hts (wl_in mw_507) rfl rfl rfl (htl _ mw_36) (htl _ mw_504) hd_yX6_fail ⟨(Nat.le_of_ble_eq_true rfl), (Nat.le_of_ble_eq_true rfl)⟩, htl _ mw_505, htl _ mw_506⟩ ht_a0 (by decide) tk_no rfl (tk_w.pick [0] rfl) rfl hl.1 rfl (Nat.le_of_ble_eq_true rfl) dX6_readPart_106 ⟨(Nat.le_of_ble_eq_true rfl), (Nat.le_of_ble_eq_true rfl)⟩ (fun H locs hpo hG hS hq9 => ?_)
            have hf109 := hpo
            exact tk_vret hx hb hr hlocks (show tk_f D H a0 6 9 (.int 1) from hf109) hG hS dX6_readPart_109
          · have hc107 : ¬ (v85.toInt = (-1)) := fun h9 => c9 ((fi_eq rfl (show ((-1) : Int32).toInt = (-1) by decide)).mpr h9)
            refine lv_aload_n hx hb dX6_readPart_96 rfl (lv_at hl 2 rfl) ?_
            refine tk_get (ci := 6) (C := RX6) (T := TX6) (N := 11) (sp := (0, (-2147483648), 2147483647, 0)) hx hb htl inX6 hown hK hG ht_a0 (by decide) tk_no rfl 8 (by decide) (htl _ mw_479) (fun _ h9 => h9) rfl dX6_readPart_97 (fun v9 hf110 hV9 => ?_)
            obtain ⟨v111, rfl, (ha_v111 : (-2147483648) ≤ v111.toInt), (hb_v111 : v111.toInt ≤ 2147483647)⟩ := hV9
            refine lv_bipush (v := 50) hx hb dX6_readPart_100 (by decide) ?_
            refine lv_icmp_lt (tgt := 110) hx hb dX6_readPart_102 (by decide) (fun c9 => ?_) (fun c9 => ?_)
            · have hc112 : v111.toInt < 50 := (fi_lt rfl (show (50 : Int32).toInt = 50 by decide)).mp c9
              refine lv_aload_n hx hb dX6_readPart_110 rfl (lv_at hl 2 rfl) ?_
              refine lv_dup hx hb dX6_readPart_111 rfl ?_
              refine tk_get (ci := 6) (C := RX6) (T := TX6) (N := 11) (sp := (0, (-2147483648), 2147483647, 0)) hx hb htl inX6 hown hK hG ht_a0 (by decide) tk_no rfl 8 (by decide) (htl _ mw_479) (fun _ h9 => h9) rfl dX6_readPart_112 (fun v9 hf113 hV9 => ?_)
              obtain ⟨v114, rfl, (ha_v114 : (-2147483648) ≤ v114.toInt), (hb_v114 : v114.toInt ≤ 2147483647)⟩ := hV9
              refine lv_iconst (v := 1) hx hb dX6_readPart_115 (by decide) ?_
              refine lv_iadd hx hb dX6_readPart_116 ?_
              obtain ⟨v115, hm_v115⟩ : ∃ z : Int32, v114 + 1 = z := ⟨_, rfl⟩
              refine fx_ti hm_v115 ?_
              refine tk_put (ci := 6) (v := .int v115) (ty := .int) (C := RX6) (T := TX6) (N := 11) (sp := (0, (-2147483648), 2147483647, 0)) hx hb htl inX6 tyX6 tyX6_ok nmX6 hown hK hG hS ht_a0 (by decide) tk_no rfl 8 (by decide) (htl _ mw_479) (fun _ h9 => h9) rfl (tyX6_ok 8 (by decide)) rfl rfl rfl (tk_V0 (tk_rng _).1 (tk_rng _).2) (fun _ h => tk_X7 h (by decide) (by decide)) (tk_w.of ht_a0 (by decide) (List.mem_of_getElem? (i := 0) rfl) (Nat.le_refl _) (Nat.le_refl _)) dX6_readPart_117 (fun H locs hG hS hf116 hq9 hj9 => ?_)
              have hg_0 := hj9 9 _ (by decide) (by decide) hg_0
              refine lv_iload_n hx hb dX6_readPart_120 rfl (lv_at hl 1 rfl) ?_
              refine lv_if_eq (tgt := 143) hx hb dX6_readPart_121 (by decide) (fun _ => ?_) (fun c9 => absurd ((fi_eq rfl (show (0 : Int32).toInt = 0 by decide)).mpr (show v22.toInt = 0 by omega)) c9)
              refine lv_aload_n hx hb dX6_readPart_143 rfl (lv_at hl 2 rfl) ?_
              have hk_1 : (1 : Int32).toInt = 1 := by decide
              refine tk_Vv (As := []) (rest := []) (ci := 6) ⟨hx, hb, hml, hown, hts⟩ hK hG hZ hS (k_X6_step l D cy ld t a0 1 ht_a0 (by omega) (by omega)) hg_0 ⟨callB_of 0 hts (wl_in mw_494) rfl rfl rfl (htl _ mw_36) (htl _ mw_491) hd_yX6_step ⟨(Nat.le_of_ble_eq_true rfl), (Nat.le_of_ble_eq_true rfl)⟩, htl _ mw_492, htl _ mw_493⟩ ht_a0 (by decide) tk_no rfl (tk_w.pick [0] rfl) rfl hl.1 rfl (Nat.le_of_ble_eq_true rfl) dX6_readPart_144 ⟨(Nat.le_of_ble_eq_true rfl), (Nat.le_of_ble_eq_true rfl)⟩ (fun H locs hpo hG hS hq9 => ?_)
              have hf119 := hpo
              refine lv_aload_n hx hb dX6_readPart_147 rfl (lv_at hl 2 rfl) ?_
              refine tk_get (ci := 6) (C := RX6) (T := TX6) (N := 11) (sp := (6, 8, 512, 12)) hx hb htl inX6 hown hK hG ht_a0 (by decide) tk_no rfl 0 (by decide) (htl _ mw_132) (fun _ h9 => h9) rfl dX6_readPart_148 (fun v9 hf120 hV9 => ?_)
              obtain ⟨b121, rfl, ht_b121⟩ := hV9
              have ht_b121 : t b121 = (8, 512, 12) := ht_b121
              refine lv_iconst (v := 2) hx hb dX6_readPart_151 (by decide) ?_
              refine lv_aload_n hx hb dX6_readPart_152 rfl (lv_at hl 2 rfl) ?_
              refine tk_get (ci := 6) (C := RX6) (T := TX6) (N := 11) (sp := (0, 0, 1, 0)) hx hb htl inX6 hown hK hG ht_a0 (by decide) tk_no rfl 3 (by decide) (htl _ mw_477) (fun _ h9 => h9) rfl dX6_readPart_153 (fun v9 hf122 hV9 => ?_)
              obtain ⟨v123, rfl, (ha_v123 : 0 ≤ v123.toInt), (hb_v123 : v123.toInt ≤ 1)⟩ := hV9
              have hj134 : ∀ (v132 : Int32) (H : Heap) (locs : List Loc), tk_G D cy ld t [] H → va_S (tk_w t [(7, 0, 0), (20, 0, 0), (8, 12, 12)]) s.heap H locs → tk_f D H a0 6 9 (.int 1) → ∀ ls : Array Slot, lv_has ls 3 [] → W p l e ({ frames := 30, cells := 0, slots := 0, locals := 2030 }) s m args below meth c H locs 0 0 (MQ below (tv D cy ld t [] (fun H => tk_f D H a0 6 9 (.int 1)) (tk_w t [(7, 0, 0), (20, 0, 0), (8, 12, 12)])) args s 0 0 (tk_w t [(7, 0, 0), (20, 0, 0), (8, 12, 12)])) (F0 m 172 ls [.int v132, .int 2, .ref b121]) := by
                intro v132 H locs hG hS hf127 ls hl
                have hk_2 : (2 : Int32).toInt = 2 := by decide
                refine tk_Vv (As := [.int 2, .int v132]) (rest := []) (ci := 7) ⟨hx, hb, hml, hown, hts⟩ hK hG hZ hS (k_X7_put l D cy ld t b121 2 v132 ht_b121) trivial ⟨callB_of 2 hts (wl_in mw_594) rfl rfl rfl (htl _ mw_131) (htl _ mw_591) hd_yX7_put ⟨(Nat.le_of_ble_eq_true rfl), (Nat.le_of_ble_eq_true rfl)⟩, htl _ mw_592, htl _ mw_593⟩ ht_b121 (by decide) tk_no rfl (tk_w.pick [1, 2] rfl) rfl hl.1 rfl (Nat.le_of_ble_eq_true rfl) dX6_readPart_172 ⟨(Nat.le_of_ble_eq_true rfl), (Nat.le_of_ble_eq_true rfl)⟩ (fun H locs hpo hG hS hq9 => ?_)
                have hf127 := hf127.call hq9 (tk_w.no ht_a0 (by decide))
                exact tk_vret hx hb hr hlocks (show tk_f D H a0 6 9 (.int 1) from hf127) hG hS dX6_readPart_175
              refine lv_if_eq (tgt := 167) hx hb dX6_readPart_156 (by decide) (fun c9 => ?_) (fun c9 => ?_)
              · have hc124 : v123.toInt = 0 := (fi_eq rfl (show (0 : Int32).toInt = 0 by decide)).mp c9
                refine lv_aload_n hx hb dX6_readPart_167 rfl (lv_at hl 2 rfl) ?_
                refine lv_iload_n hx hb dX6_readPart_168 rfl (lv_at hl 0 rfl) ?_
                have hk_1 : (1 : Int32).toInt = 1 := by decide
                refine tk_Vi (As := [.int v85]) (rest := [.int 2, .ref b121]) (ci := 6) ⟨hx, hb, hml, hown, hts⟩ hK hG hZ hS (k_X6_readOwner l D cy ld t a0 v85 1 ht_a0 (by omega) (by omega)) hf119 ⟨callB_of 1 hts (wl_in mw_614) rfl rfl rfl (htl _ mw_36) (htl _ mw_611) hd_yX6_readOwner ⟨(Nat.le_of_ble_eq_true rfl), (Nat.le_of_ble_eq_true rfl)⟩, htl _ mw_612, htl _ mw_613⟩ ht_a0 (by decide) tk_no rfl (tk_w.pick [0] rfl) rfl hl.1 rfl (Nat.le_of_ble_eq_true rfl) dX6_readPart_169 ⟨(Nat.le_of_ble_eq_true rfl), (Nat.le_of_ble_eq_true rfl)⟩ (fun v136 H locs hpo hG hS hq9 => ?_)
                have hf138 := hpo
                exact hj134 v136 _ _ hG hS hf138 _ (lv_sub hl [] rfl)
              · have hc124 : ¬ (v123.toInt = 0) := fun h9 => c9 ((fi_eq rfl (show (0 : Int32).toInt = 0 by decide)).mpr h9)
                refine lv_aload_n hx hb dX6_readPart_159 rfl (lv_at hl 2 rfl) ?_
                refine lv_iload_n hx hb dX6_readPart_160 rfl (lv_at hl 0 rfl) ?_
                refine tk_Vi (As := [.int v85]) (rest := [.int 2, .ref b121]) (ci := 6) ⟨hx, hb, hml, hown, hts⟩ hK hG hZ hS (k_X6_noteLawWord l D cy ld t a0 v85 ht_a0) trivial ⟨callB_of 1 hts (wl_in mw_607) rfl rfl rfl (htl _ mw_36) (htl _ mw_604) hd_yX6_noteLawWord ⟨(Nat.le_of_ble_eq_true rfl), (Nat.le_of_ble_eq_true rfl)⟩, htl _ mw_605, htl _ mw_606⟩ ht_a0 (by decide) tk_no rfl (tk_w.pick [2] rfl) rfl hl.1 rfl (Nat.le_of_ble_eq_true rfl) dX6_readPart_161 ⟨(Nat.le_of_ble_eq_true rfl), (Nat.le_of_ble_eq_true rfl)⟩ (fun v139 H locs hpo hG hS hq9 => ?_)
                have hf119 := hf119.call hq9 (tk_w.no ht_a0 (by decide))
                refine lv_goto (tgt := 172) hx hb dX6_readPart_164 (by decide) ?_
                exact hj134 v139 _ _ hG hS hf119 _ (lv_sub hl [] rfl)
            · have hc112 : ¬ (v111.toInt < 50) := fun h9 => c9 ((fi_lt rfl (show (50 : Int32).toInt = 50 by decide)).mpr h9)
              refine lv_aload_n hx hb dX6_readPart_105 rfl (lv_at hl 2 rfl) ?_
              have hk_1 : (1 : Int32).toInt = 1 := by decide
              refine tk_Vv (As := []) (rest := []) (ci := 6) ⟨hx, hb, hml, hown, hts⟩ hK hG hZ hS (k_X6_fail l D cy ld t a0 1 ht_a0 (by omega) (by omega)) hg_0 ⟨callB_of 0 hts (wl_in mw_507) rfl rfl rfl (htl _ mw_36) (htl _ mw_504) hd_yX6_fail ⟨(Nat.le_of_ble_eq_true rfl), (Nat.le_of_ble_eq_true rfl)⟩, htl _ mw_505, htl _ mw_506⟩ ht_a0 (by decide) tk_no rfl (tk_w.pick [0] rfl) rfl hl.1 rfl (Nat.le_of_ble_eq_true rfl) dX6_readPart_106 ⟨(Nat.le_of_ble_eq_true rfl), (Nat.le_of_ble_eq_true rfl)⟩ (fun H locs hpo hG hS hq9 => ?_)
              have hf142 := hpo
              exact tk_vret hx hb hr hlocks (show tk_f D H a0 6 9 (.int 1) from hf142) hG hS dX6_readPart_109
    refine lv_if_eq (tgt := 66) hx hb dX6_readPart_41 (by decide) (fun c9 => ?_) (fun c9 => ?_)
    · have hc14 : v8.toInt = 0 := (fi_eq rfl (show (0 : Int32).toInt = 0 by decide)).mp c9
      refine lv_iconst (v := 0) hx hb dX6_readPart_66 (by decide) ?_
      have hk_0 : (0 : Int32).toInt = 0 := by decide
      exact hj23 0 (by omega) (by omega) _ (lv_sub hl [0] rfl)
    · have hc14 : ¬ (v8.toInt = 0) := fun h9 => c9 ((fi_eq rfl (show (0 : Int32).toInt = 0 by decide)).mpr h9)
      refine lv_aload_n hx hb dX6_readPart_44 rfl (lv_at hl 0 rfl) ?_
      refine tk_get (ci := 6) (C := RX6) (T := TX6) (N := 11) (sp := (0, (-2147483648), 2147483647, 0)) hx hb htl inX6 hown hK hG ht_a0 (by decide) tk_no rfl 6 (by decide) (htl _ mw_482) (fun _ h9 => h9) rfl dX6_readPart_45 (fun v9 hf143 hV9 => ?_)
      obtain ⟨v144, rfl, (ha_v144 : (-2147483648) ≤ v144.toInt), (hb_v144 : v144.toInt ≤ 2147483647)⟩ := hV9
      refine lv_iconst (v := 2) hx hb dX6_readPart_48 (by decide) ?_
      refine lv_icmp_ne (tgt := 66) hx hb dX6_readPart_49 (by decide) (fun c9 => ?_) (fun c9 => ?_)
      · have hc145 : ¬ (v144.toInt = 2) := fun h9 => c9 ((fi_eq rfl (show (2 : Int32).toInt = 2 by decide)).mpr h9)
        refine lv_iconst (v := 0) hx hb dX6_readPart_66 (by decide) ?_
        have hk_0 : (0 : Int32).toInt = 0 := by decide
        exact hj23 0 (by omega) (by omega) _ (lv_sub hl [0] rfl)
      · have hc145 : v144.toInt = 2 := (fi_eq rfl (show (2 : Int32).toInt = 2 by decide)).mp c9
        refine lv_aload_n hx hb dX6_readPart_52 rfl (lv_at hl 0 rfl) ?_
        refine tk_get (ci := 6) (C := RX6) (T := TX6) (N := 11) (sp := (0, (-2147483648), 2147483647, 0)) hx hb htl inX6 hown hK hG ht_a0 (by decide) tk_no rfl 7 (by decide) (htl _ mw_496) (fun _ h9 => h9) rfl dX6_readPart_53 (fun v9 hf146 hV9 => ?_)
        obtain ⟨v147, rfl, (ha_v147 : (-2147483648) ≤ v147.toInt), (hb_v147 : v147.toInt ≤ 2147483647)⟩ := hV9
        refine lv_sipush (v := 1000) hx hb dX6_readPart_56 (by decide) ?_
        refine lv_icmp_gt (tgt := 66) hx hb dX6_readPart_59 (by decide) (fun c9 => ?_) (fun c9 => ?_)
        · have hc148 : 1000 < v147.toInt := (fi_lt (show (1000 : Int32).toInt = 1000 by decide) rfl).mp c9
          refine lv_iconst (v := 0) hx hb dX6_readPart_66 (by decide) ?_
          have hk_0 : (0 : Int32).toInt = 0 := by decide
          exact hj23 0 (by omega) (by omega) _ (lv_sub hl [0] rfl)
        · have hc148 : ¬ (1000 < v147.toInt) := fun h9 => c9 ((fi_lt (show (1000 : Int32).toInt = 1000 by decide) rfl).mpr h9)
          refine lv_iconst (v := 1) hx hb dX6_readPart_62 (by decide) ?_
          refine lv_goto (tgt := 67) hx hb dX6_readPart_63 (by decide) ?_
          have hk_1 : (1 : Int32).toInt = 1 := by decide
          exact hj23 1 (by omega) (by omega) _ (lv_sub hl [0] rfl)
  · have hc7 : ¬ (v1.toInt = 0) := fun h9 => c9 ((fi_eq rfl (show (0 : Int32).toInt = 0 by decide)).mpr h9)
    refine lv_aload_n hx hb dX6_readPart_9 rfl (lv_at hl 0 rfl) ?_
    refine tk_Vi (As := []) (rest := []) (ci := 6) ⟨hx, hb, hml, hown, hts⟩ hK hG hZ hS (k_X6_goDeeper_1 l D cy ld t a0 ht_a0) hg_0 ⟨callB_of 0 hts (wl_in mw_599) rfl rfl rfl (htl _ mw_36) (htl _ mw_596) hd_yX6_goDeeper ⟨(Nat.le_of_ble_eq_true rfl), (Nat.le_of_ble_eq_true rfl)⟩, htl _ mw_597, htl _ mw_598⟩ ht_a0 (by decide) tk_no rfl (tk_w.pick [0] rfl) rfl hl.1 rfl (Nat.le_of_ble_eq_true rfl) dX6_readPart_10 ⟨(Nat.le_of_ble_eq_true rfl), (Nat.le_of_ble_eq_true rfl)⟩ (fun v149 H locs hpo hG hS hq9 => ?_)
    obtain ⟨hpo151, hpo152, hpo153, hf154⟩ := hpo
    obtain rfl : v149 = 1 := (fi_eq (show v149.toInt = 1 by omega) (by decide)).mpr rfl
    refine lv_if_eq (tgt := 36) hx hb dX6_readPart_13 (by decide) (fun c9 => absurd c9 (by decide)) (fun _ => ?_)
    refine lv_aload_n hx hb dX6_readPart_16 rfl (lv_at hl 0 rfl) ?_
    refine tk_Vv (As := []) (rest := []) (ci := 6) ⟨hx, hb, hml, hown, hts⟩ hK hG hZ hS (k_X6_readSum_2 l D cy ld t a0 ht_a0) hf154 ⟨callB_of 0 hts (wl_in mw_583) rfl rfl rfl (htl _ mw_36) (htl _ mw_580) hd_yX6_readSum ⟨(Nat.le_of_ble_eq_true rfl), (Nat.le_of_ble_eq_true rfl)⟩, htl _ mw_581, htl _ mw_582⟩ ht_a0 (by decide) tk_no rfl (tk_w.pick [0, 1, 2] rfl) rfl hl.1 rfl (Nat.le_of_ble_eq_true rfl) dX6_readPart_17 ⟨(Nat.le_of_ble_eq_true rfl), (Nat.le_of_ble_eq_true rfl)⟩ (fun H locs hpo hG hS hq9 => ?_)
    have hf156 := hpo
    refine lv_aload_n hx hb dX6_readPart_20 rfl (lv_at hl 0 rfl) ?_
    refine lv_bipush (v := 93) hx hb dX6_readPart_21 (by decide) ?_
    have hk_93 : (93 : Int32).toInt = 93 := by decide
    have hk_2 : (2 : Int32).toInt = 2 := by decide
    refine tk_Vv (As := [.int 93]) (rest := []) (ci := 6) ⟨hx, hb, hml, hown, hts⟩ hK hG hZ hS (k_X6_take l D cy ld t a0 93 2 ht_a0 (by omega) (by omega)) hf156 ⟨callB_of 1 hts (wl_in mw_603) rfl rfl rfl (htl _ mw_36) (htl _ mw_600) hd_yX6_take ⟨(Nat.le_of_ble_eq_true rfl), (Nat.le_of_ble_eq_true rfl)⟩, htl _ mw_601, htl _ mw_602⟩ ht_a0 (by decide) tk_no rfl (tk_w.pick [0] rfl) rfl hl.1 rfl (Nat.le_of_ble_eq_true rfl) dX6_readPart_23 ⟨(Nat.le_of_ble_eq_true rfl), (Nat.le_of_ble_eq_true rfl)⟩ (fun H locs hpo hG hS hq9 => ?_)
    have hf158 := hpo
    refine lv_aload_n hx hb dX6_readPart_26 rfl (lv_at hl 0 rfl) ?_
    refine lv_dup hx hb dX6_readPart_27 rfl ?_
    refine tk_getk (ci := 6) (C := RX6) (T := TX6) (N := 11) (sp := (0, 0, 8, 0)) hx hb htl inX6 hown hK hG ht_a0 (by decide) tk_no rfl 9 (by decide) (htl _ mw_480) (fun _ h9 => h9) rfl hf158 dX6_readPart_28 ?_
    refine lv_iconst (v := 1) hx hb dX6_readPart_31 (by decide) ?_
    refine lv_isub hx hb dX6_readPart_32 ?_
    refine fx_ti (v := 1) (by decide) ?_
    refine tk_put (ci := 6) (v := .int 1) (ty := .int) (C := RX6) (T := TX6) (N := 11) (sp := (0, 0, 8, 0)) hx hb htl inX6 tyX6 tyX6_ok nmX6 hown hK hG hS ht_a0 (by decide) tk_no rfl 9 (by decide) (htl _ mw_480) (fun _ h9 => h9) rfl (tyX6_ok 9 (by decide)) rfl rfl rfl (tk_V0 (by decide) (by decide)) (fun _ h => tk_X7 h (by decide) (by decide)) (tk_w.of ht_a0 (by decide) (List.mem_of_getElem? (i := 0) rfl) (Nat.le_refl _) (Nat.le_refl _)) dX6_readPart_33 (fun H locs hG hS hf159 hq9 hj9 => ?_)
    exact tk_vret hx hb hr hlocks (show tk_f D H a0 6 9 (.int 1) from hf159) hG hS dX6_readPart_36
set_option maxHeartbeats 4000000 in
set_option maxRecDepth 100000 in
theorem k_X6_readTerm_1 (l : Launch) (D : va_G) (cy : Nat → ClassId) (ld : Nat → Nat) (t : tk_T) (a0 : Nat) (ht_a0 : t a0 = (7, 0, 0)) : Met l yX6_readTerm (wl yX6_readTerm cX6_readTerm 3 none) ({ frames := 31, cells := 0, slots := 0, locals := 2100 }) (tp D cy ld t [] [.ref a0] (fun H => tk_f D H a0 6 9 (.int 1))) (tv D cy ld t [] (fun H => tk_f D H a0 6 9 (.int 1)) (tk_w t [(7, 0, 0), (20, 0, 0), (8, 12, 12)])) 0 0 (tk_w t [(7, 0, 0), (20, 0, 0), (8, 12, 12)]) := by
  refine tk_met (y := yX6_readTerm) (cc := cX6_readTerm) (maxL := 3) (ret := none) (av := [.ref a0]) _ _ (by decide) (Nat.le_of_ble_eq_true rfl) ?_
  intro p e s m args below meth c hx hb hr hml hts htl hown hlocks hK H locs hH hG hS hB hZ ls hl
  have hown : s.vm.findClass RX6 = some m.cls := hown
  have hl : lv_has ls 3 [(0, .ref a0)] := hl
  have hg_0 := hB
  refine lv_aload_n hx hb dX6_readTerm_0 rfl (lv_at hl 0 rfl) ?_
  refine tk_Vv (As := []) (rest := []) (ci := 6) ⟨hx, hb, hml, hown, hts⟩ hK hG hZ hS (k_X6_readPart_1 l D cy ld t a0 ht_a0) hg_0 ⟨callB_of 0 hts (wl_in mw_595) rfl rfl rfl (htl _ mw_36) (htl _ mw_616) hd_yX6_readPart ⟨(Nat.le_of_ble_eq_true rfl), (Nat.le_of_ble_eq_true rfl)⟩, htl _ mw_617, htl _ mw_618⟩ ht_a0 (by decide) tk_no rfl (tk_w.pick [0, 1, 2] rfl) rfl hl.1 rfl (Nat.le_of_ble_eq_true rfl) dX6_readTerm_1 ⟨(Nat.le_of_ble_eq_true rfl), (Nat.le_of_ble_eq_true rfl)⟩ (fun H locs hpo hG hS hq9 => ?_)
  have hf2 := hpo
  refine lv_iconst (v := 0) hx hb dX6_readTerm_4 (by decide) ?_
  refine lv_istore_n (lv' := [(1, .int 0), (0, .ref a0)]) hx hb dX6_readTerm_5 rfl hl (by decide) rfl (fun ls hl => ?_)
  have hl994 : ∀ (N_l994 : Nat) (v3 : Int32) (H : Heap) (locs : List Loc), 0 ≤ v3.toInt → v3.toInt ≤ 400 → (-1) * v3.toInt + 400 < (N_l994 : Int) → tk_G D cy ld t [] H → va_S (tk_w t [(7, 0, 0), (20, 0, 0), (8, 12, 12)]) s.heap H locs → tk_f D H a0 6 9 (.int 1) → ∀ ls : Array Slot, lv_has ls 3 [(1, .int v3), (0, .ref a0)] → W p l e ({ frames := 31, cells := 0, slots := 0, locals := 2100 }) s m args below meth c H locs 0 0 (MQ below (tv D cy ld t [] (fun H => tk_f D H a0 6 9 (.int 1)) (tk_w t [(7, 0, 0), (20, 0, 0), (8, 12, 12)])) args s 0 0 (tk_w t [(7, 0, 0), (20, 0, 0), (8, 12, 12)])) (F0 m 6 ls []) := by
    intro N_l994
    induction N_l994 with
    | zero => intro v3 H locs hq0_l994 hq1_l994 hm_l994 hG hS hf2 ls hl; exfalso; omega
    | succ N_l994 ih_l994 =>
      intro v3 H locs hq0_l994 hq1_l994 hm_l994 hG hS hf2 ls hl
      refine lv_iload_n hx hb dX6_readTerm_6 rfl (lv_at hl 0 rfl) ?_
      refine lv_sipush (v := 400) hx hb dX6_readTerm_7 (by decide) ?_
      refine lv_icmp_ge (tgt := 94) hx hb dX6_readTerm_10 (by decide) (fun c9 => ?_) (fun c9 => ?_)
      · have hc995 : 400 ≤ v3.toInt := (fi_le (show (400 : Int32).toInt = 400 by decide) rfl).mp c9
        exact tk_vret hx hb hr hlocks (show tk_f D H a0 6 9 (.int 1) from hf2) hG hS dX6_readTerm_94
      · have hc995 : ¬ (400 ≤ v3.toInt) := fun h9 => c9 ((fi_le (show (400 : Int32).toInt = 400 by decide) rfl).mpr h9)
        refine lv_aload_n hx hb dX6_readTerm_13 rfl (lv_at hl 1 rfl) ?_
        refine lv_bipush (v := 42) hx hb dX6_readTerm_14 (by decide) ?_
        have hk_42 : (42 : Int32).toInt = 42 := by decide
        refine tk_Vi (As := [.int 42]) (rest := []) (ci := 6) ⟨hx, hb, hml, hown, hts⟩ hK hG hZ hS (k_X6_isSign l D cy ld t a0 42 ht_a0) trivial ⟨callB_of 1 hts (wl_in mw_590) rfl rfl rfl (htl _ mw_36) (htl _ mw_587) hd_yX6_isSign ⟨(Nat.le_of_ble_eq_true rfl), (Nat.le_of_ble_eq_true rfl)⟩, htl _ mw_588, htl _ mw_589⟩ ht_a0 (by decide) tk_no rfl (tk_w.pick [] rfl) rfl hl.1 rfl (Nat.le_of_ble_eq_true rfl) dX6_readTerm_16 ⟨(Nat.le_of_ble_eq_true rfl), (Nat.le_of_ble_eq_true rfl)⟩ (fun v996 H locs hpo hG hS hq9 => ?_)
        have hf2 := hf2.call hq9 tk_w.nil
        obtain ⟨hpo998, hpo999, hpo1000, hpo1001⟩ := hpo
        refine lv_if_ne (tgt := 40) hx hb dX6_readTerm_19 (by decide) (fun c9 => ?_) (fun c9 => ?_)
        · have hc1002 : ¬ (v996.toInt = 0) := fun h9 => c9 ((fi_eq rfl (show (0 : Int32).toInt = 0 by decide)).mpr h9)
          refine lv_aload_n hx hb dX6_readTerm_40 rfl (lv_at hl 1 rfl) ?_
          refine lv_bipush (v := 42) hx hb dX6_readTerm_41 (by decide) ?_
          have hk_42 : (42 : Int32).toInt = 42 := by decide
          refine tk_Vi (As := [.int 42]) (rest := []) (ci := 6) ⟨hx, hb, hml, hown, hts⟩ hK hG hZ hS (k_X6_isSign l D cy ld t a0 42 ht_a0) trivial ⟨callB_of 1 hts (wl_in mw_590) rfl rfl rfl (htl _ mw_36) (htl _ mw_587) hd_yX6_isSign ⟨(Nat.le_of_ble_eq_true rfl), (Nat.le_of_ble_eq_true rfl)⟩, htl _ mw_588, htl _ mw_589⟩ ht_a0 (by decide) tk_no rfl (tk_w.pick [] rfl) rfl hl.1 rfl (Nat.le_of_ble_eq_true rfl) dX6_readTerm_43 ⟨(Nat.le_of_ble_eq_true rfl), (Nat.le_of_ble_eq_true rfl)⟩ (fun v1003 H locs hpo hG hS hq9 => ?_)
          have hf2 := hf2.call hq9 tk_w.nil
          obtain ⟨hpo1005, hpo1006, hpo1007, hpo1008⟩ := hpo
          have hj1021 : ∀ (v1019 : Int32) (H : Heap) (locs : List Loc), 8 ≤ v1019.toInt → v1019.toInt ≤ 10 → tk_G D cy ld t [] H → va_S (tk_w t [(7, 0, 0), (20, 0, 0), (8, 12, 12)]) s.heap H locs → tk_f D H a0 6 9 (.int 1) → ∀ ls : Array Slot, lv_has ls 3 [(1, .int v3), (0, .ref a0)] → W p l e ({ frames := 31, cells := 0, slots := 0, locals := 2100 }) s m args below meth c H locs 0 0 (MQ below (tv D cy ld t [] (fun H => tk_f D H a0 6 9 (.int 1)) (tk_w t [(7, 0, 0), (20, 0, 0), (8, 12, 12)])) args s 0 0 (tk_w t [(7, 0, 0), (20, 0, 0), (8, 12, 12)])) (F0 m 70 ls [.int v1019]) := by
            intro v1019 H locs hq0_j1021 hq1_j1021 hG hS hf2 ls hl
            refine lv_istore_n (lv' := [(2, .int v1019), (1, .int v3), (0, .ref a0)]) hx hb dX6_readTerm_70 rfl hl (by decide) rfl (fun ls hl => ?_)
            refine lv_aload_n hx hb dX6_readTerm_71 rfl (lv_at hl 2 rfl) ?_
            have hk_1 : (1 : Int32).toInt = 1 := by decide
            refine tk_Vv (As := []) (rest := []) (ci := 6) ⟨hx, hb, hml, hown, hts⟩ hK hG hZ hS (k_X6_step l D cy ld t a0 1 ht_a0 (by omega) (by omega)) hf2 ⟨callB_of 0 hts (wl_in mw_494) rfl rfl rfl (htl _ mw_36) (htl _ mw_491) hd_yX6_step ⟨(Nat.le_of_ble_eq_true rfl), (Nat.le_of_ble_eq_true rfl)⟩, htl _ mw_492, htl _ mw_493⟩ ht_a0 (by decide) tk_no rfl (tk_w.pick [0] rfl) rfl hl.1 rfl (Nat.le_of_ble_eq_true rfl) dX6_readTerm_72 ⟨(Nat.le_of_ble_eq_true rfl), (Nat.le_of_ble_eq_true rfl)⟩ (fun H locs hpo hG hS hq9 => ?_)
            have hf1023 := hpo
            refine lv_aload_n hx hb dX6_readTerm_75 rfl (lv_at hl 2 rfl) ?_
            refine tk_Vv (As := []) (rest := []) (ci := 6) ⟨hx, hb, hml, hown, hts⟩ hK hG hZ hS (k_X6_readPart_1 l D cy ld t a0 ht_a0) hf1023 ⟨callB_of 0 hts (wl_in mw_595) rfl rfl rfl (htl _ mw_36) (htl _ mw_616) hd_yX6_readPart ⟨(Nat.le_of_ble_eq_true rfl), (Nat.le_of_ble_eq_true rfl)⟩, htl _ mw_617, htl _ mw_618⟩ ht_a0 (by decide) tk_no rfl (tk_w.pick [0, 1, 2] rfl) rfl hl.1 rfl (Nat.le_of_ble_eq_true rfl) dX6_readTerm_76 ⟨(Nat.le_of_ble_eq_true rfl), (Nat.le_of_ble_eq_true rfl)⟩ (fun H locs hpo hG hS hq9 => ?_)
            have hf1025 := hpo
            refine lv_aload_n hx hb dX6_readTerm_79 rfl (lv_at hl 2 rfl) ?_
            refine tk_get (ci := 6) (C := RX6) (T := TX6) (N := 11) (sp := (6, 8, 512, 12)) hx hb htl inX6 hown hK hG ht_a0 (by decide) tk_no rfl 0 (by decide) (htl _ mw_132) (fun _ h9 => h9) rfl dX6_readTerm_80 (fun v9 hf1026 hV9 => ?_)
            obtain ⟨b1027, rfl, ht_b1027⟩ := hV9
            have ht_b1027 : t b1027 = (8, 512, 12) := ht_b1027
            refine lv_iload_n hx hb dX6_readTerm_83 rfl (lv_at hl 0 rfl) ?_
            refine lv_iconst (v := 0) hx hb dX6_readTerm_84 (by decide) ?_
            have hk_0 : (0 : Int32).toInt = 0 := by decide
            refine tk_Vv (As := [.int v1019, .int 0]) (rest := []) (ci := 7) ⟨hx, hb, hml, hown, hts⟩ hK hG hZ hS (k_X7_put l D cy ld t b1027 v1019 0 ht_b1027) trivial ⟨callB_of 2 hts (wl_in mw_594) rfl rfl rfl (htl _ mw_131) (htl _ mw_591) hd_yX7_put ⟨(Nat.le_of_ble_eq_true rfl), (Nat.le_of_ble_eq_true rfl)⟩, htl _ mw_592, htl _ mw_593⟩ ht_b1027 (by decide) tk_no rfl (tk_w.pick [1, 2] rfl) rfl hl.1 rfl (Nat.le_of_ble_eq_true rfl) dX6_readTerm_85 ⟨(Nat.le_of_ble_eq_true rfl), (Nat.le_of_ble_eq_true rfl)⟩ (fun H locs hpo hG hS hq9 => ?_)
            have hf1025 := hf1025.call hq9 (tk_w.no ht_a0 (by decide))
            obtain ⟨v1029, h_v1029, e_v1029⟩ := tk_inc v3 1 (by decide) (by omega) (by omega)
            refine lv_iinc (v := v1029) (lv' := [(1, .int v1029), (2, .int v1019), (0, .ref a0)]) hx hb dX6_readTerm_88 hl (k := 1) rfl e_v1029 (by decide) rfl (fun ls hl => ?_)
            refine lv_goto (tgt := 6) hx hb dX6_readTerm_91 (by decide) ?_
            exact ih_l994 v1029 _ _ (by omega) (by omega) (by omega) hG hS hf1025 _ (lv_sub hl [0, 2] rfl)
          refine lv_if_eq (tgt := 54) hx hb dX6_readTerm_46 (by decide) (fun c9 => ?_) (fun c9 => ?_)
          · have hc1009 : v1003.toInt = 0 := (fi_eq rfl (show (0 : Int32).toInt = 0 by decide)).mp c9
            refine lv_aload_n hx hb dX6_readTerm_54 rfl (lv_at hl 1 rfl) ?_
            refine lv_bipush (v := 47) hx hb dX6_readTerm_55 (by decide) ?_
            have hk_47 : (47 : Int32).toInt = 47 := by decide
            refine tk_Vi (As := [.int 47]) (rest := []) (ci := 6) ⟨hx, hb, hml, hown, hts⟩ hK hG hZ hS (k_X6_isSign l D cy ld t a0 47 ht_a0) trivial ⟨callB_of 1 hts (wl_in mw_590) rfl rfl rfl (htl _ mw_36) (htl _ mw_587) hd_yX6_isSign ⟨(Nat.le_of_ble_eq_true rfl), (Nat.le_of_ble_eq_true rfl)⟩, htl _ mw_588, htl _ mw_589⟩ ht_a0 (by decide) tk_no rfl (tk_w.pick [] rfl) rfl hl.1 rfl (Nat.le_of_ble_eq_true rfl) dX6_readTerm_57 ⟨(Nat.le_of_ble_eq_true rfl), (Nat.le_of_ble_eq_true rfl)⟩ (fun v1030 H locs hpo hG hS hq9 => ?_)
            have hf2 := hf2.call hq9 tk_w.nil
            obtain ⟨hpo1032, hpo1033, hpo1034, hpo1035⟩ := hpo
            refine lv_if_eq (tgt := 68) hx hb dX6_readTerm_60 (by decide) (fun c9 => ?_) (fun c9 => ?_)
            · have hc1036 : v1030.toInt = 0 := (fi_eq rfl (show (0 : Int32).toInt = 0 by decide)).mp c9
              refine lv_bipush (v := 10) hx hb dX6_readTerm_68 (by decide) ?_
              have hk_10 : (10 : Int32).toInt = 10 := by decide
              exact hj1021 10 _ _ (by omega) (by omega) hG hS hf2 _ (lv_sub hl [0, 1] rfl)
            · have hc1036 : ¬ (v1030.toInt = 0) := fun h9 => c9 ((fi_eq rfl (show (0 : Int32).toInt = 0 by decide)).mpr h9)
              refine lv_bipush (v := 9) hx hb dX6_readTerm_63 (by decide) ?_
              refine lv_goto (tgt := 70) hx hb dX6_readTerm_65 (by decide) ?_
              have hk_9 : (9 : Int32).toInt = 9 := by decide
              exact hj1021 9 _ _ (by omega) (by omega) hG hS hf2 _ (lv_sub hl [0, 1] rfl)
          · have hc1009 : ¬ (v1003.toInt = 0) := fun h9 => c9 ((fi_eq rfl (show (0 : Int32).toInt = 0 by decide)).mpr h9)
            refine lv_bipush (v := 8) hx hb dX6_readTerm_49 (by decide) ?_
            refine lv_goto (tgt := 70) hx hb dX6_readTerm_51 (by decide) ?_
            have hk_8 : (8 : Int32).toInt = 8 := by decide
            exact hj1021 8 _ _ (by omega) (by omega) hG hS hf2 _ (lv_sub hl [0, 1] rfl)
        · have hc1002 : v996.toInt = 0 := (fi_eq rfl (show (0 : Int32).toInt = 0 by decide)).mp c9
          refine lv_aload_n hx hb dX6_readTerm_22 rfl (lv_at hl 1 rfl) ?_
          refine lv_bipush (v := 47) hx hb dX6_readTerm_23 (by decide) ?_
          have hk_47 : (47 : Int32).toInt = 47 := by decide
          refine tk_Vi (As := [.int 47]) (rest := []) (ci := 6) ⟨hx, hb, hml, hown, hts⟩ hK hG hZ hS (k_X6_isSign l D cy ld t a0 47 ht_a0) trivial ⟨callB_of 1 hts (wl_in mw_590) rfl rfl rfl (htl _ mw_36) (htl _ mw_587) hd_yX6_isSign ⟨(Nat.le_of_ble_eq_true rfl), (Nat.le_of_ble_eq_true rfl)⟩, htl _ mw_588, htl _ mw_589⟩ ht_a0 (by decide) tk_no rfl (tk_w.pick [] rfl) rfl hl.1 rfl (Nat.le_of_ble_eq_true rfl) dX6_readTerm_25 ⟨(Nat.le_of_ble_eq_true rfl), (Nat.le_of_ble_eq_true rfl)⟩ (fun v1037 H locs hpo hG hS hq9 => ?_)
          have hf2 := hf2.call hq9 tk_w.nil
          obtain ⟨hpo1039, hpo1040, hpo1041, hpo1042⟩ := hpo
          refine lv_if_ne (tgt := 40) hx hb dX6_readTerm_28 (by decide) (fun c9 => ?_) (fun c9 => ?_)
          · have hc1043 : ¬ (v1037.toInt = 0) := fun h9 => c9 ((fi_eq rfl (show (0 : Int32).toInt = 0 by decide)).mpr h9)
            refine lv_aload_n hx hb dX6_readTerm_40 rfl (lv_at hl 1 rfl) ?_
            refine lv_bipush (v := 42) hx hb dX6_readTerm_41 (by decide) ?_
            have hk_42 : (42 : Int32).toInt = 42 := by decide
            refine tk_Vi (As := [.int 42]) (rest := []) (ci := 6) ⟨hx, hb, hml, hown, hts⟩ hK hG hZ hS (k_X6_isSign l D cy ld t a0 42 ht_a0) trivial ⟨callB_of 1 hts (wl_in mw_590) rfl rfl rfl (htl _ mw_36) (htl _ mw_587) hd_yX6_isSign ⟨(Nat.le_of_ble_eq_true rfl), (Nat.le_of_ble_eq_true rfl)⟩, htl _ mw_588, htl _ mw_589⟩ ht_a0 (by decide) tk_no rfl (tk_w.pick [] rfl) rfl hl.1 rfl (Nat.le_of_ble_eq_true rfl) dX6_readTerm_43 ⟨(Nat.le_of_ble_eq_true rfl), (Nat.le_of_ble_eq_true rfl)⟩ (fun v1044 H locs hpo hG hS hq9 => ?_)
            have hf2 := hf2.call hq9 tk_w.nil
            obtain ⟨hpo1046, hpo1047, hpo1048, hpo1049⟩ := hpo
            have hj1062 : ∀ (v1060 : Int32) (H : Heap) (locs : List Loc), 8 ≤ v1060.toInt → v1060.toInt ≤ 10 → tk_G D cy ld t [] H → va_S (tk_w t [(7, 0, 0), (20, 0, 0), (8, 12, 12)]) s.heap H locs → tk_f D H a0 6 9 (.int 1) → ∀ ls : Array Slot, lv_has ls 3 [(1, .int v3), (0, .ref a0)] → W p l e ({ frames := 31, cells := 0, slots := 0, locals := 2100 }) s m args below meth c H locs 0 0 (MQ below (tv D cy ld t [] (fun H => tk_f D H a0 6 9 (.int 1)) (tk_w t [(7, 0, 0), (20, 0, 0), (8, 12, 12)])) args s 0 0 (tk_w t [(7, 0, 0), (20, 0, 0), (8, 12, 12)])) (F0 m 70 ls [.int v1060]) := by
              intro v1060 H locs hq0_j1062 hq1_j1062 hG hS hf2 ls hl
              refine lv_istore_n (lv' := [(2, .int v1060), (1, .int v3), (0, .ref a0)]) hx hb dX6_readTerm_70 rfl hl (by decide) rfl (fun ls hl => ?_)
              refine lv_aload_n hx hb dX6_readTerm_71 rfl (lv_at hl 2 rfl) ?_
              have hk_1 : (1 : Int32).toInt = 1 := by decide
              refine tk_Vv (As := []) (rest := []) (ci := 6) ⟨hx, hb, hml, hown, hts⟩ hK hG hZ hS (k_X6_step l D cy ld t a0 1 ht_a0 (by omega) (by omega)) hf2 ⟨callB_of 0 hts (wl_in mw_494) rfl rfl rfl (htl _ mw_36) (htl _ mw_491) hd_yX6_step ⟨(Nat.le_of_ble_eq_true rfl), (Nat.le_of_ble_eq_true rfl)⟩, htl _ mw_492, htl _ mw_493⟩ ht_a0 (by decide) tk_no rfl (tk_w.pick [0] rfl) rfl hl.1 rfl (Nat.le_of_ble_eq_true rfl) dX6_readTerm_72 ⟨(Nat.le_of_ble_eq_true rfl), (Nat.le_of_ble_eq_true rfl)⟩ (fun H locs hpo hG hS hq9 => ?_)
              have hf1064 := hpo
              refine lv_aload_n hx hb dX6_readTerm_75 rfl (lv_at hl 2 rfl) ?_
              refine tk_Vv (As := []) (rest := []) (ci := 6) ⟨hx, hb, hml, hown, hts⟩ hK hG hZ hS (k_X6_readPart_1 l D cy ld t a0 ht_a0) hf1064 ⟨callB_of 0 hts (wl_in mw_595) rfl rfl rfl (htl _ mw_36) (htl _ mw_616) hd_yX6_readPart ⟨(Nat.le_of_ble_eq_true rfl), (Nat.le_of_ble_eq_true rfl)⟩, htl _ mw_617, htl _ mw_618⟩ ht_a0 (by decide) tk_no rfl (tk_w.pick [0, 1, 2] rfl) rfl hl.1 rfl (Nat.le_of_ble_eq_true rfl) dX6_readTerm_76 ⟨(Nat.le_of_ble_eq_true rfl), (Nat.le_of_ble_eq_true rfl)⟩ (fun H locs hpo hG hS hq9 => ?_)
              have hf1066 := hpo
              refine lv_aload_n hx hb dX6_readTerm_79 rfl (lv_at hl 2 rfl) ?_
              refine tk_get (ci := 6) (C := RX6) (T := TX6) (N := 11) (sp := (6, 8, 512, 12)) hx hb htl inX6 hown hK hG ht_a0 (by decide) tk_no rfl 0 (by decide) (htl _ mw_132) (fun _ h9 => h9) rfl dX6_readTerm_80 (fun v9 hf1067 hV9 => ?_)
              obtain ⟨b1068, rfl, ht_b1068⟩ := hV9
              have ht_b1068 : t b1068 = (8, 512, 12) := ht_b1068
              refine lv_iload_n hx hb dX6_readTerm_83 rfl (lv_at hl 0 rfl) ?_
              refine lv_iconst (v := 0) hx hb dX6_readTerm_84 (by decide) ?_
              have hk_0 : (0 : Int32).toInt = 0 := by decide
              refine tk_Vv (As := [.int v1060, .int 0]) (rest := []) (ci := 7) ⟨hx, hb, hml, hown, hts⟩ hK hG hZ hS (k_X7_put l D cy ld t b1068 v1060 0 ht_b1068) trivial ⟨callB_of 2 hts (wl_in mw_594) rfl rfl rfl (htl _ mw_131) (htl _ mw_591) hd_yX7_put ⟨(Nat.le_of_ble_eq_true rfl), (Nat.le_of_ble_eq_true rfl)⟩, htl _ mw_592, htl _ mw_593⟩ ht_b1068 (by decide) tk_no rfl (tk_w.pick [1, 2] rfl) rfl hl.1 rfl (Nat.le_of_ble_eq_true rfl) dX6_readTerm_85 ⟨(Nat.le_of_ble_eq_true rfl), (Nat.le_of_ble_eq_true rfl)⟩ (fun H locs hpo hG hS hq9 => ?_)
              have hf1066 := hf1066.call hq9 (tk_w.no ht_a0 (by decide))
              obtain ⟨v1070, h_v1070, e_v1070⟩ := tk_inc v3 1 (by decide) (by omega) (by omega)
              refine lv_iinc (v := v1070) (lv' := [(1, .int v1070), (2, .int v1060), (0, .ref a0)]) hx hb dX6_readTerm_88 hl (k := 1) rfl e_v1070 (by decide) rfl (fun ls hl => ?_)
              refine lv_goto (tgt := 6) hx hb dX6_readTerm_91 (by decide) ?_
              exact ih_l994 v1070 _ _ (by omega) (by omega) (by omega) hG hS hf1066 _ (lv_sub hl [0, 2] rfl)
            refine lv_if_eq (tgt := 54) hx hb dX6_readTerm_46 (by decide) (fun c9 => ?_) (fun c9 => ?_)
            · have hc1050 : v1044.toInt = 0 := (fi_eq rfl (show (0 : Int32).toInt = 0 by decide)).mp c9
              refine lv_aload_n hx hb dX6_readTerm_54 rfl (lv_at hl 1 rfl) ?_
              refine lv_bipush (v := 47) hx hb dX6_readTerm_55 (by decide) ?_
              have hk_47 : (47 : Int32).toInt = 47 := by decide
              refine tk_Vi (As := [.int 47]) (rest := []) (ci := 6) ⟨hx, hb, hml, hown, hts⟩ hK hG hZ hS (k_X6_isSign l D cy ld t a0 47 ht_a0) trivial ⟨callB_of 1 hts (wl_in mw_590) rfl rfl rfl (htl _ mw_36) (htl _ mw_587) hd_yX6_isSign ⟨(Nat.le_of_ble_eq_true rfl), (Nat.le_of_ble_eq_true rfl)⟩, htl _ mw_588, htl _ mw_589⟩ ht_a0 (by decide) tk_no rfl (tk_w.pick [] rfl) rfl hl.1 rfl (Nat.le_of_ble_eq_true rfl) dX6_readTerm_57 ⟨(Nat.le_of_ble_eq_true rfl), (Nat.le_of_ble_eq_true rfl)⟩ (fun v1071 H locs hpo hG hS hq9 => ?_)
              have hf2 := hf2.call hq9 tk_w.nil
              obtain ⟨hpo1073, hpo1074, hpo1075, hpo1076⟩ := hpo
              refine lv_if_eq (tgt := 68) hx hb dX6_readTerm_60 (by decide) (fun c9 => ?_) (fun c9 => ?_)
              · have hc1077 : v1071.toInt = 0 := (fi_eq rfl (show (0 : Int32).toInt = 0 by decide)).mp c9
                refine lv_bipush (v := 10) hx hb dX6_readTerm_68 (by decide) ?_
                have hk_10 : (10 : Int32).toInt = 10 := by decide
                exact hj1062 10 _ _ (by omega) (by omega) hG hS hf2 _ (lv_sub hl [0, 1] rfl)
              · have hc1077 : ¬ (v1071.toInt = 0) := fun h9 => c9 ((fi_eq rfl (show (0 : Int32).toInt = 0 by decide)).mpr h9)
                refine lv_bipush (v := 9) hx hb dX6_readTerm_63 (by decide) ?_
                refine lv_goto (tgt := 70) hx hb dX6_readTerm_65 (by decide) ?_
                have hk_9 : (9 : Int32).toInt = 9 := by decide
                exact hj1062 9 _ _ (by omega) (by omega) hG hS hf2 _ (lv_sub hl [0, 1] rfl)
            · have hc1050 : ¬ (v1044.toInt = 0) := fun h9 => c9 ((fi_eq rfl (show (0 : Int32).toInt = 0 by decide)).mpr h9)
              refine lv_bipush (v := 8) hx hb dX6_readTerm_49 (by decide) ?_
              refine lv_goto (tgt := 70) hx hb dX6_readTerm_51 (by decide) ?_
              have hk_8 : (8 : Int32).toInt = 8 := by decide
              exact hj1062 8 _ _ (by omega) (by omega) hG hS hf2 _ (lv_sub hl [0, 1] rfl)
          · have hc1043 : v1037.toInt = 0 := (fi_eq rfl (show (0 : Int32).toInt = 0 by decide)).mp c9
            refine lv_aload_n hx hb dX6_readTerm_31 rfl (lv_at hl 1 rfl) ?_
            refine lv_bipush (v := 37) hx hb dX6_readTerm_32 (by decide) ?_
            have hk_37 : (37 : Int32).toInt = 37 := by decide
            refine tk_Vi (As := [.int 37]) (rest := []) (ci := 6) ⟨hx, hb, hml, hown, hts⟩ hK hG hZ hS (k_X6_isSign l D cy ld t a0 37 ht_a0) trivial ⟨callB_of 1 hts (wl_in mw_590) rfl rfl rfl (htl _ mw_36) (htl _ mw_587) hd_yX6_isSign ⟨(Nat.le_of_ble_eq_true rfl), (Nat.le_of_ble_eq_true rfl)⟩, htl _ mw_588, htl _ mw_589⟩ ht_a0 (by decide) tk_no rfl (tk_w.pick [] rfl) rfl hl.1 rfl (Nat.le_of_ble_eq_true rfl) dX6_readTerm_34 ⟨(Nat.le_of_ble_eq_true rfl), (Nat.le_of_ble_eq_true rfl)⟩ (fun v1078 H locs hpo hG hS hq9 => ?_)
            have hf2 := hf2.call hq9 tk_w.nil
            obtain ⟨hpo1080, hpo1081, hpo1082, hpo1083⟩ := hpo
            refine lv_if_eq (tgt := 94) hx hb dX6_readTerm_37 (by decide) (fun c9 => ?_) (fun c9 => ?_)
            · have hc1084 : v1078.toInt = 0 := (fi_eq rfl (show (0 : Int32).toInt = 0 by decide)).mp c9
              exact tk_vret hx hb hr hlocks (show tk_f D H a0 6 9 (.int 1) from hf2) hG hS dX6_readTerm_94
            · have hc1084 : ¬ (v1078.toInt = 0) := fun h9 => c9 ((fi_eq rfl (show (0 : Int32).toInt = 0 by decide)).mpr h9)
              refine lv_aload_n hx hb dX6_readTerm_40 rfl (lv_at hl 1 rfl) ?_
              refine lv_bipush (v := 42) hx hb dX6_readTerm_41 (by decide) ?_
              have hk_42 : (42 : Int32).toInt = 42 := by decide
              refine tk_Vi (As := [.int 42]) (rest := []) (ci := 6) ⟨hx, hb, hml, hown, hts⟩ hK hG hZ hS (k_X6_isSign l D cy ld t a0 42 ht_a0) trivial ⟨callB_of 1 hts (wl_in mw_590) rfl rfl rfl (htl _ mw_36) (htl _ mw_587) hd_yX6_isSign ⟨(Nat.le_of_ble_eq_true rfl), (Nat.le_of_ble_eq_true rfl)⟩, htl _ mw_588, htl _ mw_589⟩ ht_a0 (by decide) tk_no rfl (tk_w.pick [] rfl) rfl hl.1 rfl (Nat.le_of_ble_eq_true rfl) dX6_readTerm_43 ⟨(Nat.le_of_ble_eq_true rfl), (Nat.le_of_ble_eq_true rfl)⟩ (fun v1085 H locs hpo hG hS hq9 => ?_)
              have hf2 := hf2.call hq9 tk_w.nil
              obtain ⟨hpo1087, hpo1088, hpo1089, hpo1090⟩ := hpo
              have hj1103 : ∀ (v1101 : Int32) (H : Heap) (locs : List Loc), 8 ≤ v1101.toInt → v1101.toInt ≤ 10 → tk_G D cy ld t [] H → va_S (tk_w t [(7, 0, 0), (20, 0, 0), (8, 12, 12)]) s.heap H locs → tk_f D H a0 6 9 (.int 1) → ∀ ls : Array Slot, lv_has ls 3 [(1, .int v3), (0, .ref a0)] → W p l e ({ frames := 31, cells := 0, slots := 0, locals := 2100 }) s m args below meth c H locs 0 0 (MQ below (tv D cy ld t [] (fun H => tk_f D H a0 6 9 (.int 1)) (tk_w t [(7, 0, 0), (20, 0, 0), (8, 12, 12)])) args s 0 0 (tk_w t [(7, 0, 0), (20, 0, 0), (8, 12, 12)])) (F0 m 70 ls [.int v1101]) := by
                intro v1101 H locs hq0_j1103 hq1_j1103 hG hS hf2 ls hl
                refine lv_istore_n (lv' := [(2, .int v1101), (1, .int v3), (0, .ref a0)]) hx hb dX6_readTerm_70 rfl hl (by decide) rfl (fun ls hl => ?_)
                refine lv_aload_n hx hb dX6_readTerm_71 rfl (lv_at hl 2 rfl) ?_
                have hk_1 : (1 : Int32).toInt = 1 := by decide
                refine tk_Vv (As := []) (rest := []) (ci := 6) ⟨hx, hb, hml, hown, hts⟩ hK hG hZ hS (k_X6_step l D cy ld t a0 1 ht_a0 (by omega) (by omega)) hf2 ⟨callB_of 0 hts (wl_in mw_494) rfl rfl rfl (htl _ mw_36) (htl _ mw_491) hd_yX6_step ⟨(Nat.le_of_ble_eq_true rfl), (Nat.le_of_ble_eq_true rfl)⟩, htl _ mw_492, htl _ mw_493⟩ ht_a0 (by decide) tk_no rfl (tk_w.pick [0] rfl) rfl hl.1 rfl (Nat.le_of_ble_eq_true rfl) dX6_readTerm_72 ⟨(Nat.le_of_ble_eq_true rfl), (Nat.le_of_ble_eq_true rfl)⟩ (fun H locs hpo hG hS hq9 => ?_)
                have hf1105 := hpo
                refine lv_aload_n hx hb dX6_readTerm_75 rfl (lv_at hl 2 rfl) ?_
                refine tk_Vv (As := []) (rest := []) (ci := 6) ⟨hx, hb, hml, hown, hts⟩ hK hG hZ hS (k_X6_readPart_1 l D cy ld t a0 ht_a0) hf1105 ⟨callB_of 0 hts (wl_in mw_595) rfl rfl rfl (htl _ mw_36) (htl _ mw_616) hd_yX6_readPart ⟨(Nat.le_of_ble_eq_true rfl), (Nat.le_of_ble_eq_true rfl)⟩, htl _ mw_617, htl _ mw_618⟩ ht_a0 (by decide) tk_no rfl (tk_w.pick [0, 1, 2] rfl) rfl hl.1 rfl (Nat.le_of_ble_eq_true rfl) dX6_readTerm_76 ⟨(Nat.le_of_ble_eq_true rfl), (Nat.le_of_ble_eq_true rfl)⟩ (fun H locs hpo hG hS hq9 => ?_)
                have hf1107 := hpo
                refine lv_aload_n hx hb dX6_readTerm_79 rfl (lv_at hl 2 rfl) ?_
                refine tk_get (ci := 6) (C := RX6) (T := TX6) (N := 11) (sp := (6, 8, 512, 12)) hx hb htl inX6 hown hK hG ht_a0 (by decide) tk_no rfl 0 (by decide) (htl _ mw_132) (fun _ h9 => h9) rfl dX6_readTerm_80 (fun v9 hf1108 hV9 => ?_)
                obtain ⟨b1109, rfl, ht_b1109⟩ := hV9
                have ht_b1109 : t b1109 = (8, 512, 12) := ht_b1109
                refine lv_iload_n hx hb dX6_readTerm_83 rfl (lv_at hl 0 rfl) ?_
                refine lv_iconst (v := 0) hx hb dX6_readTerm_84 (by decide) ?_
                have hk_0 : (0 : Int32).toInt = 0 := by decide
                refine tk_Vv (As := [.int v1101, .int 0]) (rest := []) (ci := 7) ⟨hx, hb, hml, hown, hts⟩ hK hG hZ hS (k_X7_put l D cy ld t b1109 v1101 0 ht_b1109) trivial ⟨callB_of 2 hts (wl_in mw_594) rfl rfl rfl (htl _ mw_131) (htl _ mw_591) hd_yX7_put ⟨(Nat.le_of_ble_eq_true rfl), (Nat.le_of_ble_eq_true rfl)⟩, htl _ mw_592, htl _ mw_593⟩ ht_b1109 (by decide) tk_no rfl (tk_w.pick [1, 2] rfl) rfl hl.1 rfl (Nat.le_of_ble_eq_true rfl) dX6_readTerm_85 ⟨(Nat.le_of_ble_eq_true rfl), (Nat.le_of_ble_eq_true rfl)⟩ (fun H locs hpo hG hS hq9 => ?_)
                have hf1107 := hf1107.call hq9 (tk_w.no ht_a0 (by decide))
                obtain ⟨v1111, h_v1111, e_v1111⟩ := tk_inc v3 1 (by decide) (by omega) (by omega)
                refine lv_iinc (v := v1111) (lv' := [(1, .int v1111), (2, .int v1101), (0, .ref a0)]) hx hb dX6_readTerm_88 hl (k := 1) rfl e_v1111 (by decide) rfl (fun ls hl => ?_)
                refine lv_goto (tgt := 6) hx hb dX6_readTerm_91 (by decide) ?_
                exact ih_l994 v1111 _ _ (by omega) (by omega) (by omega) hG hS hf1107 _ (lv_sub hl [0, 2] rfl)
              refine lv_if_eq (tgt := 54) hx hb dX6_readTerm_46 (by decide) (fun c9 => ?_) (fun c9 => ?_)
              · have hc1091 : v1085.toInt = 0 := (fi_eq rfl (show (0 : Int32).toInt = 0 by decide)).mp c9
                refine lv_aload_n hx hb dX6_readTerm_54 rfl (lv_at hl 1 rfl) ?_
                refine lv_bipush (v := 47) hx hb dX6_readTerm_55 (by decide) ?_
                have hk_47 : (47 : Int32).toInt = 47 := by decide
                refine tk_Vi (As := [.int 47]) (rest := []) (ci := 6) ⟨hx, hb, hml, hown, hts⟩ hK hG hZ hS (k_X6_isSign l D cy ld t a0 47 ht_a0) trivial ⟨callB_of 1 hts (wl_in mw_590) rfl rfl rfl (htl _ mw_36) (htl _ mw_587) hd_yX6_isSign ⟨(Nat.le_of_ble_eq_true rfl), (Nat.le_of_ble_eq_true rfl)⟩, htl _ mw_588, htl _ mw_589⟩ ht_a0 (by decide) tk_no rfl (tk_w.pick [] rfl) rfl hl.1 rfl (Nat.le_of_ble_eq_true rfl) dX6_readTerm_57 ⟨(Nat.le_of_ble_eq_true rfl), (Nat.le_of_ble_eq_true rfl)⟩ (fun v1112 H locs hpo hG hS hq9 => ?_)
                have hf2 := hf2.call hq9 tk_w.nil
                obtain ⟨hpo1114, hpo1115, hpo1116, hpo1117⟩ := hpo
                refine lv_if_eq (tgt := 68) hx hb dX6_readTerm_60 (by decide) (fun c9 => ?_) (fun c9 => ?_)
                · have hc1118 : v1112.toInt = 0 := (fi_eq rfl (show (0 : Int32).toInt = 0 by decide)).mp c9
                  refine lv_bipush (v := 10) hx hb dX6_readTerm_68 (by decide) ?_
                  have hk_10 : (10 : Int32).toInt = 10 := by decide
                  exact hj1103 10 _ _ (by omega) (by omega) hG hS hf2 _ (lv_sub hl [0, 1] rfl)
                · have hc1118 : ¬ (v1112.toInt = 0) := fun h9 => c9 ((fi_eq rfl (show (0 : Int32).toInt = 0 by decide)).mpr h9)
                  refine lv_bipush (v := 9) hx hb dX6_readTerm_63 (by decide) ?_
                  refine lv_goto (tgt := 70) hx hb dX6_readTerm_65 (by decide) ?_
                  have hk_9 : (9 : Int32).toInt = 9 := by decide
                  exact hj1103 9 _ _ (by omega) (by omega) hG hS hf2 _ (lv_sub hl [0, 1] rfl)
              · have hc1091 : ¬ (v1085.toInt = 0) := fun h9 => c9 ((fi_eq rfl (show (0 : Int32).toInt = 0 by decide)).mpr h9)
                refine lv_bipush (v := 8) hx hb dX6_readTerm_49 (by decide) ?_
                refine lv_goto (tgt := 70) hx hb dX6_readTerm_51 (by decide) ?_
                have hk_8 : (8 : Int32).toInt = 8 := by decide
                exact hj1103 8 _ _ (by omega) (by omega) hG hS hf2 _ (lv_sub hl [0, 1] rfl)
  have hk_0 : (0 : Int32).toInt = 0 := by decide
  exact hl994 401 0 _ _ (by omega) (by omega) (by omega) hG hS hf2 _ (lv_sub hl [0, 1] rfl)
