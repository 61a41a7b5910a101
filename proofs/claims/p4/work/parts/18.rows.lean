set_option maxHeartbeats 4000000 in
set_option maxRecDepth 100000 in
theorem k_X6_readSum_1 (l : Launch) (D : va_G) (cy : Nat → ClassId) (ld : Nat → Nat) (t : tk_T) (a0 : Nat) (ht_a0 : t a0 = (7, 0, 0)) : Met l yX6_readSum (wl yX6_readSum cX6_readSum 3 none) ({ frames := 32, cells := 0, slots := 0, locals := 2170 }) (tp D cy ld t [] [.ref a0] (fun H => tk_f D H a0 6 9 (.int 1))) (tv D cy ld t [] (fun H => tk_f D H a0 6 9 (.int 1)) (tk_w t [(7, 0, 0), (20, 0, 0), (8, 12, 12)])) 0 0 (tk_w t [(7, 0, 0), (20, 0, 0), (8, 12, 12)]) := by
  refine tk_met (y := yX6_readSum) (cc := cX6_readSum) (maxL := 3) (ret := none) (av := [.ref a0]) _ _ (by decide) (Nat.le_of_ble_eq_true rfl) ?_
  intro p e s m args below meth c hx hb hr hml hts htl hown hlocks hK H locs hH hG hS hB hZ ls hl
  have hown : s.vm.findClass RX6 = some m.cls := hown
  have hl : lv_has ls 3 [(0, .ref a0)] := hl
  have hg_0 := hB
  refine lv_aload_n hx hb dX6_readSum_0 rfl (lv_at hl 0 rfl) ?_
  refine tk_Vv (As := []) (rest := []) (ci := 6) ⟨hx, hb, hml, hown, hts⟩ hK hG hZ hS (k_X6_readTerm_1 l D cy ld t a0 ht_a0) hg_0 ⟨callB_of 0 hts (wl_in mw_615) rfl rfl rfl (htl _ mw_36) (htl _ mw_584) hd_yX6_readTerm ⟨(Nat.le_of_ble_eq_true rfl), (Nat.le_of_ble_eq_true rfl)⟩, htl _ mw_585, htl _ mw_586⟩ ht_a0 (by decide) tk_no rfl (tk_w.pick [0, 1, 2] rfl) rfl hl.1 rfl (Nat.le_of_ble_eq_true rfl) dX6_readSum_1 ⟨(Nat.le_of_ble_eq_true rfl), (Nat.le_of_ble_eq_true rfl)⟩ (fun H locs hpo hG hS hq9 => ?_)
  have hf2 := hpo
  refine lv_iconst (v := 0) hx hb dX6_readSum_4 (by decide) ?_
  refine lv_istore_n (lv' := [(1, .int 0), (0, .ref a0)]) hx hb dX6_readSum_5 rfl hl (by decide) rfl (fun ls hl => ?_)
  have hl410 : ∀ (N_l410 : Nat) (v3 : Int32) (H : Heap) (locs : List Loc), 0 ≤ v3.toInt → v3.toInt ≤ 400 → (-1) * v3.toInt + 400 < (N_l410 : Int) → tk_G D cy ld t [] H → va_S (tk_w t [(7, 0, 0), (20, 0, 0), (8, 12, 12)]) s.heap H locs → tk_f D H a0 6 9 (.int 1) → ∀ ls : Array Slot, lv_has ls 3 [(1, .int v3), (0, .ref a0)] → W p l e ({ frames := 32, cells := 0, slots := 0, locals := 2170 }) s m args below meth c H locs 0 0 (MQ below (tv D cy ld t [] (fun H => tk_f D H a0 6 9 (.int 1)) (tk_w t [(7, 0, 0), (20, 0, 0), (8, 12, 12)])) args s 0 0 (tk_w t [(7, 0, 0), (20, 0, 0), (8, 12, 12)])) (F0 m 6 ls []) := by
    intro N_l410
    induction N_l410 with
    | zero => intro v3 H locs hq0_l410 hq1_l410 hm_l410 hG hS hf2 ls hl; exfalso; omega
    | succ N_l410 ih_l410 =>
      intro v3 H locs hq0_l410 hq1_l410 hm_l410 hG hS hf2 ls hl
      refine lv_iload_n hx hb dX6_readSum_6 rfl (lv_at hl 0 rfl) ?_
      refine lv_sipush (v := 400) hx hb dX6_readSum_7 (by decide) ?_
      refine lv_icmp_ge (tgt := 71) hx hb dX6_readSum_10 (by decide) (fun c9 => ?_) (fun c9 => ?_)
      · have hc411 : 400 ≤ v3.toInt := (fi_le (show (400 : Int32).toInt = 400 by decide) rfl).mp c9
        exact tk_vret hx hb hr hlocks (show tk_f D H a0 6 9 (.int 1) from hf2) hG hS dX6_readSum_71
      · have hc411 : ¬ (400 ≤ v3.toInt) := fun h9 => c9 ((fi_le (show (400 : Int32).toInt = 400 by decide) rfl).mpr h9)
        refine lv_aload_n hx hb dX6_readSum_13 rfl (lv_at hl 1 rfl) ?_
        refine lv_bipush (v := 43) hx hb dX6_readSum_14 (by decide) ?_
        have hk_43 : (43 : Int32).toInt = 43 := by decide
        refine tk_Vi (As := [.int 43]) (rest := []) (ci := 6) ⟨hx, hb, hml, hown, hts⟩ hK hG hZ hS (k_X6_isSign l D cy ld t a0 43 ht_a0) trivial ⟨callB_of 1 hts (wl_in mw_590) rfl rfl rfl (htl _ mw_36) (htl _ mw_587) hd_yX6_isSign ⟨(Nat.le_of_ble_eq_true rfl), (Nat.le_of_ble_eq_true rfl)⟩, htl _ mw_588, htl _ mw_589⟩ ht_a0 (by decide) tk_no rfl (tk_w.pick [] rfl) rfl hl.1 rfl (Nat.le_of_ble_eq_true rfl) dX6_readSum_16 ⟨(Nat.le_of_ble_eq_true rfl), (Nat.le_of_ble_eq_true rfl)⟩ (fun v412 H locs hpo hG hS hq9 => ?_)
        have hf2 := hf2.call hq9 tk_w.nil
        obtain ⟨hpo414, hpo415, hpo416, hpo417⟩ := hpo
        refine lv_if_ne (tgt := 31) hx hb dX6_readSum_19 (by decide) (fun c9 => ?_) (fun c9 => ?_)
        · have hc418 : ¬ (v412.toInt = 0) := fun h9 => c9 ((fi_eq rfl (show (0 : Int32).toInt = 0 by decide)).mpr h9)
          refine lv_aload_n hx hb dX6_readSum_31 rfl (lv_at hl 1 rfl) ?_
          refine lv_bipush (v := 43) hx hb dX6_readSum_32 (by decide) ?_
          have hk_43 : (43 : Int32).toInt = 43 := by decide
          refine tk_Vi (As := [.int 43]) (rest := []) (ci := 6) ⟨hx, hb, hml, hown, hts⟩ hK hG hZ hS (k_X6_isSign l D cy ld t a0 43 ht_a0) trivial ⟨callB_of 1 hts (wl_in mw_590) rfl rfl rfl (htl _ mw_36) (htl _ mw_587) hd_yX6_isSign ⟨(Nat.le_of_ble_eq_true rfl), (Nat.le_of_ble_eq_true rfl)⟩, htl _ mw_588, htl _ mw_589⟩ ht_a0 (by decide) tk_no rfl (tk_w.pick [] rfl) rfl hl.1 rfl (Nat.le_of_ble_eq_true rfl) dX6_readSum_34 ⟨(Nat.le_of_ble_eq_true rfl), (Nat.le_of_ble_eq_true rfl)⟩ (fun v419 H locs hpo hG hS hq9 => ?_)
          have hf2 := hf2.call hq9 tk_w.nil
          obtain ⟨hpo421, hpo422, hpo423, hpo424⟩ := hpo
          have hj428 : ∀ (v427 : Int32), 6 ≤ v427.toInt → v427.toInt ≤ 7 → ∀ ls : Array Slot, lv_has ls 3 [(1, .int v3), (0, .ref a0)] → W p l e ({ frames := 32, cells := 0, slots := 0, locals := 2170 }) s m args below meth c H locs 0 0 (MQ below (tv D cy ld t [] (fun H => tk_f D H a0 6 9 (.int 1)) (tk_w t [(7, 0, 0), (20, 0, 0), (8, 12, 12)])) args s 0 0 (tk_w t [(7, 0, 0), (20, 0, 0), (8, 12, 12)])) (F0 m 47 ls [.int v427]) := by
            intro v427 hq0_j428 hq1_j428 ls hl
            refine lv_istore_n (lv' := [(2, .int v427), (1, .int v3), (0, .ref a0)]) hx hb dX6_readSum_47 rfl hl (by decide) rfl (fun ls hl => ?_)
            refine lv_aload_n hx hb dX6_readSum_48 rfl (lv_at hl 2 rfl) ?_
            have hk_1 : (1 : Int32).toInt = 1 := by decide
            refine tk_Vv (As := []) (rest := []) (ci := 6) ⟨hx, hb, hml, hown, hts⟩ hK hG hZ hS (k_X6_step l D cy ld t a0 1 ht_a0 (by omega) (by omega)) hf2 ⟨callB_of 0 hts (wl_in mw_494) rfl rfl rfl (htl _ mw_36) (htl _ mw_491) hd_yX6_step ⟨(Nat.le_of_ble_eq_true rfl), (Nat.le_of_ble_eq_true rfl)⟩, htl _ mw_492, htl _ mw_493⟩ ht_a0 (by decide) tk_no rfl (tk_w.pick [0] rfl) rfl hl.1 rfl (Nat.le_of_ble_eq_true rfl) dX6_readSum_49 ⟨(Nat.le_of_ble_eq_true rfl), (Nat.le_of_ble_eq_true rfl)⟩ (fun H locs hpo hG hS hq9 => ?_)
            have hf430 := hpo
            refine lv_aload_n hx hb dX6_readSum_52 rfl (lv_at hl 2 rfl) ?_
            refine tk_Vv (As := []) (rest := []) (ci := 6) ⟨hx, hb, hml, hown, hts⟩ hK hG hZ hS (k_X6_readTerm_1 l D cy ld t a0 ht_a0) hf430 ⟨callB_of 0 hts (wl_in mw_615) rfl rfl rfl (htl _ mw_36) (htl _ mw_584) hd_yX6_readTerm ⟨(Nat.le_of_ble_eq_true rfl), (Nat.le_of_ble_eq_true rfl)⟩, htl _ mw_585, htl _ mw_586⟩ ht_a0 (by decide) tk_no rfl (tk_w.pick [0, 1, 2] rfl) rfl hl.1 rfl (Nat.le_of_ble_eq_true rfl) dX6_readSum_53 ⟨(Nat.le_of_ble_eq_true rfl), (Nat.le_of_ble_eq_true rfl)⟩ (fun H locs hpo hG hS hq9 => ?_)
            have hf432 := hpo
            refine lv_aload_n hx hb dX6_readSum_56 rfl (lv_at hl 2 rfl) ?_
            refine tk_get (ci := 6) (C := RX6) (T := TX6) (N := 11) (sp := (6, 8, 512, 12)) hx hb htl inX6 hown hK hG ht_a0 (by decide) tk_no rfl 0 (by decide) (htl _ mw_132) (fun _ h9 => h9) rfl dX6_readSum_57 (fun v9 hf433 hV9 => ?_)
            obtain ⟨b434, rfl, ht_b434⟩ := hV9
            have ht_b434 : t b434 = (8, 512, 12) := ht_b434
            refine lv_iload_n hx hb dX6_readSum_60 rfl (lv_at hl 0 rfl) ?_
            refine lv_iconst (v := 0) hx hb dX6_readSum_61 (by decide) ?_
            have hk_0 : (0 : Int32).toInt = 0 := by decide
            refine tk_Vv (As := [.int v427, .int 0]) (rest := []) (ci := 7) ⟨hx, hb, hml, hown, hts⟩ hK hG hZ hS (k_X7_put l D cy ld t b434 v427 0 ht_b434) trivial ⟨callB_of 2 hts (wl_in mw_594) rfl rfl rfl (htl _ mw_131) (htl _ mw_591) hd_yX7_put ⟨(Nat.le_of_ble_eq_true rfl), (Nat.le_of_ble_eq_true rfl)⟩, htl _ mw_592, htl _ mw_593⟩ ht_b434 (by decide) tk_no rfl (tk_w.pick [1, 2] rfl) rfl hl.1 rfl (Nat.le_of_ble_eq_true rfl) dX6_readSum_62 ⟨(Nat.le_of_ble_eq_true rfl), (Nat.le_of_ble_eq_true rfl)⟩ (fun H locs hpo hG hS hq9 => ?_)
            have hf432 := hf432.call hq9 (tk_w.no ht_a0 (by decide))
            obtain ⟨v436, h_v436, e_v436⟩ := tk_inc v3 1 (by decide) (by omega) (by omega)
            refine lv_iinc (v := v436) (lv' := [(1, .int v436), (2, .int v427), (0, .ref a0)]) hx hb dX6_readSum_65 hl (k := 1) rfl e_v436 (by decide) rfl (fun ls hl => ?_)
            refine lv_goto (tgt := 6) hx hb dX6_readSum_68 (by decide) ?_
            exact ih_l410 v436 _ _ (by omega) (by omega) (by omega) hG hS hf432 _ (lv_sub hl [0, 2] rfl)
          refine lv_if_eq (tgt := 45) hx hb dX6_readSum_37 (by decide) (fun c9 => ?_) (fun c9 => ?_)
          · have hc425 : v419.toInt = 0 := (fi_eq rfl (show (0 : Int32).toInt = 0 by decide)).mp c9
            refine lv_bipush (v := 7) hx hb dX6_readSum_45 (by decide) ?_
            have hk_7 : (7 : Int32).toInt = 7 := by decide
            exact hj428 7 (by omega) (by omega) _ (lv_sub hl [0, 1] rfl)
          · have hc425 : ¬ (v419.toInt = 0) := fun h9 => c9 ((fi_eq rfl (show (0 : Int32).toInt = 0 by decide)).mpr h9)
            refine lv_bipush (v := 6) hx hb dX6_readSum_40 (by decide) ?_
            refine lv_goto (tgt := 47) hx hb dX6_readSum_42 (by decide) ?_
            have hk_6 : (6 : Int32).toInt = 6 := by decide
            exact hj428 6 (by omega) (by omega) _ (lv_sub hl [0, 1] rfl)
        · have hc418 : v412.toInt = 0 := (fi_eq rfl (show (0 : Int32).toInt = 0 by decide)).mp c9
          refine lv_aload_n hx hb dX6_readSum_22 rfl (lv_at hl 1 rfl) ?_
          refine lv_bipush (v := 45) hx hb dX6_readSum_23 (by decide) ?_
          have hk_45 : (45 : Int32).toInt = 45 := by decide
          refine tk_Vi (As := [.int 45]) (rest := []) (ci := 6) ⟨hx, hb, hml, hown, hts⟩ hK hG hZ hS (k_X6_isSign l D cy ld t a0 45 ht_a0) trivial ⟨callB_of 1 hts (wl_in mw_590) rfl rfl rfl (htl _ mw_36) (htl _ mw_587) hd_yX6_isSign ⟨(Nat.le_of_ble_eq_true rfl), (Nat.le_of_ble_eq_true rfl)⟩, htl _ mw_588, htl _ mw_589⟩ ht_a0 (by decide) tk_no rfl (tk_w.pick [] rfl) rfl hl.1 rfl (Nat.le_of_ble_eq_true rfl) dX6_readSum_25 ⟨(Nat.le_of_ble_eq_true rfl), (Nat.le_of_ble_eq_true rfl)⟩ (fun v437 H locs hpo hG hS hq9 => ?_)
          have hf2 := hf2.call hq9 tk_w.nil
          obtain ⟨hpo439, hpo440, hpo441, hpo442⟩ := hpo
          refine lv_if_eq (tgt := 71) hx hb dX6_readSum_28 (by decide) (fun c9 => ?_) (fun c9 => ?_)
          · have hc443 : v437.toInt = 0 := (fi_eq rfl (show (0 : Int32).toInt = 0 by decide)).mp c9
            exact tk_vret hx hb hr hlocks (show tk_f D H a0 6 9 (.int 1) from hf2) hG hS dX6_readSum_71
          · have hc443 : ¬ (v437.toInt = 0) := fun h9 => c9 ((fi_eq rfl (show (0 : Int32).toInt = 0 by decide)).mpr h9)
            refine lv_aload_n hx hb dX6_readSum_31 rfl (lv_at hl 1 rfl) ?_
            refine lv_bipush (v := 43) hx hb dX6_readSum_32 (by decide) ?_
            have hk_43 : (43 : Int32).toInt = 43 := by decide
            refine tk_Vi (As := [.int 43]) (rest := []) (ci := 6) ⟨hx, hb, hml, hown, hts⟩ hK hG hZ hS (k_X6_isSign l D cy ld t a0 43 ht_a0) trivial ⟨callB_of 1 hts (wl_in mw_590) rfl rfl rfl (htl _ mw_36) (htl _ mw_587) hd_yX6_isSign ⟨(Nat.le_of_ble_eq_true rfl), (Nat.le_of_ble_eq_true rfl)⟩, htl _ mw_588, htl _ mw_589⟩ ht_a0 (by decide) tk_no rfl (tk_w.pick [] rfl) rfl hl.1 rfl (Nat.le_of_ble_eq_true rfl) dX6_readSum_34 ⟨(Nat.le_of_ble_eq_true rfl), (Nat.le_of_ble_eq_true rfl)⟩ (fun v444 H locs hpo hG hS hq9 => ?_)
            have hf2 := hf2.call hq9 tk_w.nil
            obtain ⟨hpo446, hpo447, hpo448, hpo449⟩ := hpo
            have hj453 : ∀ (v452 : Int32), 6 ≤ v452.toInt → v452.toInt ≤ 7 → ∀ ls : Array Slot, lv_has ls 3 [(1, .int v3), (0, .ref a0)] → W p l e ({ frames := 32, cells := 0, slots := 0, locals := 2170 }) s m args below meth c H locs 0 0 (MQ below (tv D cy ld t [] (fun H => tk_f D H a0 6 9 (.int 1)) (tk_w t [(7, 0, 0), (20, 0, 0), (8, 12, 12)])) args s 0 0 (tk_w t [(7, 0, 0), (20, 0, 0), (8, 12, 12)])) (F0 m 47 ls [.int v452]) := by
              intro v452 hq0_j453 hq1_j453 ls hl
              refine lv_istore_n (lv' := [(2, .int v452), (1, .int v3), (0, .ref a0)]) hx hb dX6_readSum_47 rfl hl (by decide) rfl (fun ls hl => ?_)
              refine lv_aload_n hx hb dX6_readSum_48 rfl (lv_at hl 2 rfl) ?_
              have hk_1 : (1 : Int32).toInt = 1 := by decide
              refine tk_Vv (As := []) (rest := []) (ci := 6) ⟨hx, hb, hml, hown, hts⟩ hK hG hZ hS (k_X6_step l D cy ld t a0 1 ht_a0 (by omega) (by omega)) hf2 ⟨callB_of 0 hts (wl_in mw_494) rfl rfl rfl (htl _ mw_36) (htl _ mw_491) hd_yX6_step ⟨(Nat.le_of_ble_eq_true rfl), (Nat.le_of_ble_eq_true rfl)⟩, htl _ mw_492, htl _ mw_493⟩ ht_a0 (by decide) tk_no rfl (tk_w.pick [0] rfl) rfl hl.1 rfl (Nat.le_of_ble_eq_true rfl) dX6_readSum_49 ⟨(Nat.le_of_ble_eq_true rfl), (Nat.le_of_ble_eq_true rfl)⟩ (fun H locs hpo hG hS hq9 => ?_)
              have hf455 := hpo
              refine lv_aload_n hx hb dX6_readSum_52 rfl (lv_at hl 2 rfl) ?_
              refine tk_Vv (As := []) (rest := []) (ci := 6) ⟨hx, hb, hml, hown, hts⟩ hK hG hZ hS (k_X6_readTerm_1 l D cy ld t a0 ht_a0) hf455 ⟨callB_of 0 hts (wl_in mw_615) rfl rfl rfl (htl _ mw_36) (htl _ mw_584) hd_yX6_readTerm ⟨(Nat.le_of_ble_eq_true rfl), (Nat.le_of_ble_eq_true rfl)⟩, htl _ mw_585, htl _ mw_586⟩ ht_a0 (by decide) tk_no rfl (tk_w.pick [0, 1, 2] rfl) rfl hl.1 rfl (Nat.le_of_ble_eq_true rfl) dX6_readSum_53 ⟨(Nat.le_of_ble_eq_true rfl), (Nat.le_of_ble_eq_true rfl)⟩ (fun H locs hpo hG hS hq9 => ?_)
              have hf457 := hpo
              refine lv_aload_n hx hb dX6_readSum_56 rfl (lv_at hl 2 rfl) ?_
              refine tk_get (ci := 6) (C := RX6) (T := TX6) (N := 11) (sp := (6, 8, 512, 12)) hx hb htl inX6 hown hK hG ht_a0 (by decide) tk_no rfl 0 (by decide) (htl _ mw_132) (fun _ h9 => h9) rfl dX6_readSum_57 (fun v9 hf458 hV9 => ?_)
              obtain ⟨b459, rfl, ht_b459⟩ := hV9
              have ht_b459 : t b459 = (8, 512, 12) := ht_b459
              refine lv_iload_n hx hb dX6_readSum_60 rfl (lv_at hl 0 rfl) ?_
              refine lv_iconst (v := 0) hx hb dX6_readSum_61 (by decide) ?_
              have hk_0 : (0 : Int32).toInt = 0 := by decide
              refine tk_Vv (As := [.int v452, .int 0]) (rest := []) (ci := 7) ⟨hx, hb, hml, hown, hts⟩ hK hG hZ hS (k_X7_put l D cy ld t b459 v452 0 ht_b459) trivial ⟨callB_of 2 hts (wl_in mw_594) rfl rfl rfl (htl _ mw_131) (htl _ mw_591) hd_yX7_put ⟨(Nat.le_of_ble_eq_true rfl), (Nat.le_of_ble_eq_true rfl)⟩, htl _ mw_592, htl _ mw_593⟩ ht_b459 (by decide) tk_no rfl (tk_w.pick [1, 2] rfl) rfl hl.1 rfl (Nat.le_of_ble_eq_true rfl) dX6_readSum_62 ⟨(Nat.le_of_ble_eq_true rfl), (Nat.le_of_ble_eq_true rfl)⟩ (fun H locs hpo hG hS hq9 => ?_)
              have hf457 := hf457.call hq9 (tk_w.no ht_a0 (by decide))
              obtain ⟨v461, h_v461, e_v461⟩ := tk_inc v3 1 (by decide) (by omega) (by omega)
              refine lv_iinc (v := v461) (lv' := [(1, .int v461), (2, .int v452), (0, .ref a0)]) hx hb dX6_readSum_65 hl (k := 1) rfl e_v461 (by decide) rfl (fun ls hl => ?_)
              refine lv_goto (tgt := 6) hx hb dX6_readSum_68 (by decide) ?_
              exact ih_l410 v461 _ _ (by omega) (by omega) (by omega) hG hS hf457 _ (lv_sub hl [0, 2] rfl)
            refine lv_if_eq (tgt := 45) hx hb dX6_readSum_37 (by decide) (fun c9 => ?_) (fun c9 => ?_)
            · have hc450 : v444.toInt = 0 := (fi_eq rfl (show (0 : Int32).toInt = 0 by decide)).mp c9
              refine lv_bipush (v := 7) hx hb dX6_readSum_45 (by decide) ?_
              have hk_7 : (7 : Int32).toInt = 7 := by decide
              exact hj453 7 (by omega) (by omega) _ (lv_sub hl [0, 1] rfl)
            · have hc450 : ¬ (v444.toInt = 0) := fun h9 => c9 ((fi_eq rfl (show (0 : Int32).toInt = 0 by decide)).mpr h9)
              refine lv_bipush (v := 6) hx hb dX6_readSum_40 (by decide) ?_
              refine lv_goto (tgt := 47) hx hb dX6_readSum_42 (by decide) ?_
              have hk_6 : (6 : Int32).toInt = 6 := by decide
              exact hj453 6 (by omega) (by omega) _ (lv_sub hl [0, 1] rfl)
  have hk_0 : (0 : Int32).toInt = 0 := by decide
  exact hl410 401 0 _ _ (by omega) (by omega) (by omega) hG hS hf2 _ (lv_sub hl [0, 1] rfl)
set_option maxHeartbeats 4000000 in
set_option maxRecDepth 100000 in
theorem k_X6_readPart_0 (l : Launch) (D : va_G) (cy : Nat → ClassId) (ld : Nat → Nat) (t : tk_T) (a0 : Nat) (ht_a0 : t a0 = (7, 0, 0)) : Met l yX6_readPart (wl yX6_readPart cX6_readPart 3 none) ({ frames := 33, cells := 0, slots := 0, locals := 2240 }) (tp D cy ld t [] [.ref a0] (fun H => tk_f D H a0 6 9 (.int 0))) (tv D cy ld t [] (fun H => tk_f D H a0 6 9 (.int 0)) (tk_w t [(7, 0, 0), (20, 0, 0), (8, 12, 12)])) 0 0 (tk_w t [(7, 0, 0), (20, 0, 0), (8, 12, 12)]) := by
  refine tk_met (y := yX6_readPart) (cc := cX6_readPart) (maxL := 3) (ret := none) (av := [.ref a0]) _ _ (by decide) (Nat.le_of_ble_eq_true rfl) ?_
  intro p e s m args below meth c hx hb hr hml hts htl hown hlocks hK H locs hH hG hS hB hZ ls hl
  have hown : s.vm.findClass RX6 = some m.cls := hown
  have hl : lv_has ls 3 [(0, .ref a0)] := hl
  have hg_0 := hB
  refine lv_aload_n hx hb dX6_readPart_0 rfl (lv_at hl 0 rfl) ?_
  refine lv_bipush (v := 91) hx hb dX6_readPart_1 (by decide) ?_
  have hk_91 : (91 : Int32).toInt = 91 := by decide
  refine tk_Vi (As := [.int 91]) (rest := []) (ci := 6) ⟨hx, hb, hml, hown, hts⟩ hK hG hZ hS (k_X6_isSign l D cy ld t a0 91 ht_a0) trivial ⟨callB_of 1 hts (wl_in mw_590) rfl rfl rfl (htl _ mw_36) (htl _ mw_587) hd_yX6_isSign ⟨(Nat.le_of_ble_eq_true rfl), (Nat.le_of_ble_eq_true rfl)⟩, htl _ mw_588, htl _ mw_589⟩ ht_a0 (by decide) tk_no rfl (tk_w.pick [] rfl) rfl hl.1 rfl (Nat.le_of_ble_eq_true rfl) dX6_readPart_3 ⟨(Nat.le_of_ble_eq_true rfl), (Nat.le_of_ble_eq_true rfl)⟩ (fun v1 H locs hpo hG hS hq9 => ?_)
  have hg_0 := hg_0.call hq9 tk_w.nil
  obtain ⟨hpo3, hpo4, hpo5, hpo6⟩ := hpo
  refine lv_if_eq (tgt := 37) hx hb dX6_readPart_6 (by decide) (fun c9 => ?_) (fun c9 => ?_)
  · have hc7 : v1.toInt = 0 := (fi_eq rfl (show (0 : Int32).toInt = 0 by decide)).mp c9
    refine lv_aload_n hx hb dX6_readPart_37 rfl (lv_at hl 0 rfl) ?_
    refine tk_Vi (As := []) (rest := []) (ci := 6) ⟨hx, hb, hml, hown, hts⟩ hK hG hZ hS (k_X6_isGood l D cy ld t a0 ht_a0) trivial ⟨callB_of 0 hts (wl_in mw_503) rfl rfl rfl (htl _ mw_36) (htl _ mw_500) hd_yX6_isGood ⟨(Nat.le_of_ble_eq_true rfl), (Nat.le_of_ble_eq_true rfl)⟩, htl _ mw_501, htl _ mw_502⟩ ht_a0 (by decide) tk_no rfl (tk_w.pick [] rfl) rfl hl.1 rfl (Nat.le_of_ble_eq_true rfl) dX6_readPart_38 ⟨(Nat.le_of_ble_eq_true rfl), (Nat.le_of_ble_eq_true rfl)⟩ (fun v8 H locs hpo hG hS hq9 => ?_)
    have hg_0 := hg_0.call hq9 tk_w.nil
    obtain ⟨hpo10, hpo11, hpo12, hpo13⟩ := hpo
    have hj23 : ∀ (v22 : Int32), 0 ≤ v22.toInt → v22.toInt ≤ 1 → ∀ ls : Array Slot, lv_has ls 3 [(0, .ref a0)] → W p l e ({ frames := 33, cells := 0, slots := 0, locals := 2240 }) s m args below meth c H locs 0 0 (MQ below (tv D cy ld t [] (fun H => tk_f D H a0 6 9 (.int 0)) (tk_w t [(7, 0, 0), (20, 0, 0), (8, 12, 12)])) args s 0 0 (tk_w t [(7, 0, 0), (20, 0, 0), (8, 12, 12)])) (F0 m 67 ls [.int v22]) := by
      intro v22 hq0_j23 hq1_j23 ls hl
      refine lv_istore_n (lv' := [(1, .int v22), (0, .ref a0)]) hx hb dX6_readPart_67 rfl hl (by decide) rfl (fun ls hl => ?_)
      refine lv_aload_n hx hb dX6_readPart_68 rfl (lv_at hl 1 rfl) ?_
      refine lv_aload_n hx hb dX6_readPart_69 rfl (lv_at hl 1 rfl) ?_
      refine tk_get (ci := 6) (C := RX6) (T := TX6) (N := 11) (sp := (0, 0, 1, 0)) hx hb htl inX6 hown hK hG ht_a0 (by decide) tk_no rfl 3 (by decide) (htl _ mw_477) (fun _ h9 => h9) rfl dX6_readPart_70 (fun v9 hf24 hV9 => ?_)
      obtain ⟨v25, rfl, (ha_v25 : 0 ≤ v25.toInt), (hb_v25 : v25.toInt ≤ 1)⟩ := hV9
      refine lv_if_eq (tgt := 81) hx hb dX6_readPart_73 (by decide) (fun c9 => ?_) (fun c9 => ?_)
      · have hc26 : v25.toInt = 0 := (fi_eq rfl (show (0 : Int32).toInt = 0 by decide)).mp c9
        refine va_ldcS hx hb hown hK.2.2.2.2.2.2.2.1 dX6_readPart_81 ?_
        refine tk_Vi (As := [.ref (ld 3)]) (rest := []) (ci := 6) ⟨hx, hb, hml, hown, hts⟩ hK hG hZ hS (k_X6_wordAmong_3 l D cy ld t a0 ht_a0) trivial ⟨callB_of 1 hts (wl_in mw_517) rfl rfl rfl (htl _ mw_36) (htl _ mw_514) hd_yX6_wordAmong ⟨(Nat.le_of_ble_eq_true rfl), (Nat.le_of_ble_eq_true rfl)⟩, htl _ mw_515, htl _ mw_516⟩ ht_a0 (by decide) tk_no rfl (tk_w.pick [] rfl) rfl hl.1 rfl (Nat.le_of_ble_eq_true rfl) dX6_readPart_83 ⟨(Nat.le_of_ble_eq_true rfl), (Nat.le_of_ble_eq_true rfl)⟩ (fun v27 H locs hpo hG hS hq9 => ?_)
        have hg_0 := hg_0.call hq9 tk_w.nil
        obtain ⟨hpo29, hpo30⟩ := hpo
        refine lv_istore_n (lv' := [(2, .int v27), (1, .int v22), (0, .ref a0)]) hx hb dX6_readPart_86 rfl hl (by decide) rfl (fun ls hl => ?_)
        refine lv_iload_n hx hb dX6_readPart_87 rfl (lv_at hl 1 rfl) ?_
        refine lv_if_ne (tgt := 96) hx hb dX6_readPart_88 (by decide) (fun c9 => ?_) (fun c9 => ?_)
        · have hc31 : ¬ (v22.toInt = 0) := fun h9 => c9 ((fi_eq rfl (show (0 : Int32).toInt = 0 by decide)).mpr h9)
          refine lv_aload_n hx hb dX6_readPart_96 rfl (lv_at hl 2 rfl) ?_
          refine tk_get (ci := 6) (C := RX6) (T := TX6) (N := 11) (sp := (0, (-2147483648), 2147483647, 0)) hx hb htl inX6 hown hK hG ht_a0 (by decide) tk_no rfl 8 (by decide) (htl _ mw_479) (fun _ h9 => h9) rfl dX6_readPart_97 (fun v9 hf32 hV9 => ?_)
          obtain ⟨v33, rfl, (ha_v33 : (-2147483648) ≤ v33.toInt), (hb_v33 : v33.toInt ≤ 2147483647)⟩ := hV9
          refine lv_bipush (v := 50) hx hb dX6_readPart_100 (by decide) ?_
          refine lv_icmp_lt (tgt := 110) hx hb dX6_readPart_102 (by decide) (fun c9 => ?_) (fun c9 => ?_)
          · have hc34 : v33.toInt < 50 := (fi_lt rfl (show (50 : Int32).toInt = 50 by decide)).mp c9
            refine lv_aload_n hx hb dX6_readPart_110 rfl (lv_at hl 2 rfl) ?_
            refine lv_dup hx hb dX6_readPart_111 rfl ?_
            refine tk_get (ci := 6) (C := RX6) (T := TX6) (N := 11) (sp := (0, (-2147483648), 2147483647, 0)) hx hb htl inX6 hown hK hG ht_a0 (by decide) tk_no rfl 8 (by decide) (htl _ mw_479) (fun _ h9 => h9) rfl dX6_readPart_112 (fun v9 hf35 hV9 => ?_)
            obtain ⟨v36, rfl, (ha_v36 : (-2147483648) ≤ v36.toInt), (hb_v36 : v36.toInt ≤ 2147483647)⟩ := hV9
            refine lv_iconst (v := 1) hx hb dX6_readPart_115 (by decide) ?_
            refine lv_iadd hx hb dX6_readPart_116 ?_
            obtain ⟨v37, hm_v37⟩ : ∃ z : Int32, v36 + 1 = z := ⟨_, rfl⟩
            refine fx_ti hm_v37 ?_
            refine tk_put (ci := 6) (v := .int v37) (ty := .int) (C := RX6) (T := TX6) (N := 11) (sp := (0, (-2147483648), 2147483647, 0)) hx hb htl inX6 tyX6 tyX6_ok nmX6 hown hK hG hS ht_a0 (by decide) tk_no rfl 8 (by decide) (htl _ mw_479) (fun _ h9 => h9) rfl (tyX6_ok 8 (by decide)) rfl rfl rfl (tk_V0 (tk_rng _).1 (tk_rng _).2) (fun _ h => tk_X7 h (by decide) (by decide)) (tk_w.of ht_a0 (by decide) (List.mem_of_getElem? (i := 0) rfl) (Nat.le_refl _) (Nat.le_refl _)) dX6_readPart_117 (fun H locs hG hS hf38 hq9 hj9 => ?_)
            have hg_0 := hj9 9 _ (by decide) (by decide) hg_0
            refine lv_iload_n hx hb dX6_readPart_120 rfl (lv_at hl 1 rfl) ?_
            refine lv_if_eq (tgt := 143) hx hb dX6_readPart_121 (by decide) (fun c9 => absurd (show v22.toInt = 0 from (fi_eq rfl (show (0 : Int32).toInt = 0 by decide)).mp c9) (by omega)) (fun _ => ?_)
            refine lv_aload_n hx hb dX6_readPart_124 rfl (lv_at hl 2 rfl) ?_
            refine tk_get (ci := 6) (C := RX6) (T := TX6) (N := 11) (sp := (6, 8, 512, 12)) hx hb htl inX6 hown hK hG ht_a0 (by decide) tk_no rfl 0 (by decide) (htl _ mw_132) (fun _ h9 => h9) rfl dX6_readPart_125 (fun v9 hf40 hV9 => ?_)
            obtain ⟨b41, rfl, ht_b41⟩ := hV9
            have ht_b41 : t b41 = (8, 512, 12) := ht_b41
            refine lv_iconst (v := 1) hx hb dX6_readPart_128 (by decide) ?_
            refine lv_aload_n hx hb dX6_readPart_129 rfl (lv_at hl 2 rfl) ?_
            refine tk_get (ci := 6) (C := RX6) (T := TX6) (N := 11) (sp := (0, (-2147483648), 2147483647, 0)) hx hb htl inX6 hown hK hG ht_a0 (by decide) tk_no rfl 7 (by decide) (htl _ mw_496) (fun _ h9 => h9) rfl dX6_readPart_130 (fun v9 hf42 hV9 => ?_)
            obtain ⟨v43, rfl, (ha_v43 : (-2147483648) ≤ v43.toInt), (hb_v43 : v43.toInt ≤ 2147483647)⟩ := hV9
            have hk_1 : (1 : Int32).toInt = 1 := by decide
            refine tk_Vv (As := [.int 1, .int v43]) (rest := []) (ci := 7) ⟨hx, hb, hml, hown, hts⟩ hK hG hZ hS (k_X7_put l D cy ld t b41 1 v43 ht_b41) trivial ⟨callB_of 2 hts (wl_in mw_594) rfl rfl rfl (htl _ mw_131) (htl _ mw_591) hd_yX7_put ⟨(Nat.le_of_ble_eq_true rfl), (Nat.le_of_ble_eq_true rfl)⟩, htl _ mw_592, htl _ mw_593⟩ ht_b41 (by decide) tk_no rfl (tk_w.pick [1, 2] rfl) rfl hl.1 rfl (Nat.le_of_ble_eq_true rfl) dX6_readPart_133 ⟨(Nat.le_of_ble_eq_true rfl), (Nat.le_of_ble_eq_true rfl)⟩ (fun H locs hpo hG hS hq9 => ?_)
            have hg_0 := hg_0.call hq9 (tk_w.no ht_a0 (by decide))
            have hf42 := hf42.call hq9 (tk_w.no ht_a0 (by decide))
            refine lv_aload_n hx hb dX6_readPart_136 rfl (lv_at hl 2 rfl) ?_
            have hk_0 : (0 : Int32).toInt = 0 := by decide
            refine tk_Vv (As := []) (rest := []) (ci := 6) ⟨hx, hb, hml, hown, hts⟩ hK hG hZ hS (k_X6_step l D cy ld t a0 0 ht_a0 (by omega) (by omega)) hg_0 ⟨callB_of 0 hts (wl_in mw_494) rfl rfl rfl (htl _ mw_36) (htl _ mw_491) hd_yX6_step ⟨(Nat.le_of_ble_eq_true rfl), (Nat.le_of_ble_eq_true rfl)⟩, htl _ mw_492, htl _ mw_493⟩ ht_a0 (by decide) tk_no rfl (tk_w.pick [0] rfl) rfl hl.1 rfl (Nat.le_of_ble_eq_true rfl) dX6_readPart_137 ⟨(Nat.le_of_ble_eq_true rfl), (Nat.le_of_ble_eq_true rfl)⟩ (fun H locs hpo hG hS hq9 => ?_)
            have hf46 := hpo
            refine lv_goto (tgt := 175) hx hb dX6_readPart_140 (by decide) ?_
            exact tk_vret hx hb hr hlocks (show tk_f D H a0 6 9 (.int 0) from hf46) hG hS dX6_readPart_175
          · have hc34 : ¬ (v33.toInt < 50) := fun h9 => c9 ((fi_lt rfl (show (50 : Int32).toInt = 50 by decide)).mpr h9)
            refine lv_aload_n hx hb dX6_readPart_105 rfl (lv_at hl 2 rfl) ?_
            have hk_0 : (0 : Int32).toInt = 0 := by decide
            refine tk_Vv (As := []) (rest := []) (ci := 6) ⟨hx, hb, hml, hown, hts⟩ hK hG hZ hS (k_X6_fail l D cy ld t a0 0 ht_a0 (by omega) (by omega)) hg_0 ⟨callB_of 0 hts (wl_in mw_507) rfl rfl rfl (htl _ mw_36) (htl _ mw_504) hd_yX6_fail ⟨(Nat.le_of_ble_eq_true rfl), (Nat.le_of_ble_eq_true rfl)⟩, htl _ mw_505, htl _ mw_506⟩ ht_a0 (by decide) tk_no rfl (tk_w.pick [0] rfl) rfl hl.1 rfl (Nat.le_of_ble_eq_true rfl) dX6_readPart_106 ⟨(Nat.le_of_ble_eq_true rfl), (Nat.le_of_ble_eq_true rfl)⟩ (fun H locs hpo hG hS hq9 => ?_)
            have hf48 := hpo
            exact tk_vret hx hb hr hlocks (show tk_f D H a0 6 9 (.int 0) from hf48) hG hS dX6_readPart_109
        · have hc31 : v22.toInt = 0 := (fi_eq rfl (show (0 : Int32).toInt = 0 by decide)).mp c9
          refine lv_iload_n hx hb dX6_readPart_91 rfl (lv_at hl 0 rfl) ?_
          refine lv_iconst (v := (-1)) hx hb dX6_readPart_92 (by decide) ?_
          refine lv_icmp_eq (tgt := 105) hx hb dX6_readPart_93 (by decide) (fun c9 => ?_) (fun c9 => ?_)
          · have hc49 : v27.toInt = (-1) := (fi_eq rfl (show ((-1) : Int32).toInt = (-1) by decide)).mp c9
            refine lv_aload_n hx hb dX6_readPart_105 rfl (lv_at hl 2 rfl) ?_
            have hk_0 : (0 : Int32).toInt = 0 := by decide
            refine tk_Vv (As := []) (rest := []) (ci := 6) ⟨hx, hb, hml, hown, hts⟩ hK hG hZ hS (k_X6_fail l D cy ld t a0 0 ht_a0 (by omega) (by omega)) hg_0 ⟨callB_of 0 hts (wl_in mw_507) rfl rfl rfl (htl _ mw_36) (htl _ mw_504) hd_yX6_fail ⟨(Nat.le_of_ble_eq_true rfl), (Nat.le_of_ble_eq_true rfl)⟩, htl _ mw_505, htl _ mw_506⟩ ht_a0 (by decide) tk_no rfl (tk_w.pick [0] rfl) rfl hl.1 rfl (Nat.le_of_ble_eq_true rfl) dX6_readPart_106 ⟨(Nat.le_of_ble_eq_true rfl), (Nat.le_of_ble_eq_true rfl)⟩ (fun H locs hpo hG hS hq9 => ?_)
            have hf51 := hpo
            exact tk_vret hx hb hr hlocks (show tk_f D H a0 6 9 (.int 0) from hf51) hG hS dX6_readPart_109
          · have hc49 : ¬ (v27.toInt = (-1)) := fun h9 => c9 ((fi_eq rfl (show ((-1) : Int32).toInt = (-1) by decide)).mpr h9)
            refine lv_aload_n hx hb dX6_readPart_96 rfl (lv_at hl 2 rfl) ?_
            refine tk_get (ci := 6) (C := RX6) (T := TX6) (N := 11) (sp := (0, (-2147483648), 2147483647, 0)) hx hb htl inX6 hown hK hG ht_a0 (by decide) tk_no rfl 8 (by decide) (htl _ mw_479) (fun _ h9 => h9) rfl dX6_readPart_97 (fun v9 hf52 hV9 => ?_)
            obtain ⟨v53, rfl, (ha_v53 : (-2147483648) ≤ v53.toInt), (hb_v53 : v53.toInt ≤ 2147483647)⟩ := hV9
            refine lv_bipush (v := 50) hx hb dX6_readPart_100 (by decide) ?_
            refine lv_icmp_lt (tgt := 110) hx hb dX6_readPart_102 (by decide) (fun c9 => ?_) (fun c9 => ?_)
            · have hc54 : v53.toInt < 50 := (fi_lt rfl (show (50 : Int32).toInt = 50 by decide)).mp c9
              refine lv_aload_n hx hb dX6_readPart_110 rfl (lv_at hl 2 rfl) ?_
              refine lv_dup hx hb dX6_readPart_111 rfl ?_
              refine tk_get (ci := 6) (C := RX6) (T := TX6) (N := 11) (sp := (0, (-2147483648), 2147483647, 0)) hx hb htl inX6 hown hK hG ht_a0 (by decide) tk_no rfl 8 (by decide) (htl _ mw_479) (fun _ h9 => h9) rfl dX6_readPart_112 (fun v9 hf55 hV9 => ?_)
              obtain ⟨v56, rfl, (ha_v56 : (-2147483648) ≤ v56.toInt), (hb_v56 : v56.toInt ≤ 2147483647)⟩ := hV9
              refine lv_iconst (v := 1) hx hb dX6_readPart_115 (by decide) ?_
              refine lv_iadd hx hb dX6_readPart_116 ?_
              obtain ⟨v57, hm_v57⟩ : ∃ z : Int32, v56 + 1 = z := ⟨_, rfl⟩
              refine fx_ti hm_v57 ?_
              refine tk_put (ci := 6) (v := .int v57) (ty := .int) (C := RX6) (T := TX6) (N := 11) (sp := (0, (-2147483648), 2147483647, 0)) hx hb htl inX6 tyX6 tyX6_ok nmX6 hown hK hG hS ht_a0 (by decide) tk_no rfl 8 (by decide) (htl _ mw_479) (fun _ h9 => h9) rfl (tyX6_ok 8 (by decide)) rfl rfl rfl (tk_V0 (tk_rng _).1 (tk_rng _).2) (fun _ h => tk_X7 h (by decide) (by decide)) (tk_w.of ht_a0 (by decide) (List.mem_of_getElem? (i := 0) rfl) (Nat.le_refl _) (Nat.le_refl _)) dX6_readPart_117 (fun H locs hG hS hf58 hq9 hj9 => ?_)
              have hg_0 := hj9 9 _ (by decide) (by decide) hg_0
              refine lv_iload_n hx hb dX6_readPart_120 rfl (lv_at hl 1 rfl) ?_
              refine lv_if_eq (tgt := 143) hx hb dX6_readPart_121 (by decide) (fun _ => ?_) (fun c9 => absurd ((fi_eq rfl (show (0 : Int32).toInt = 0 by decide)).mpr (show v22.toInt = 0 by omega)) c9)
              refine lv_aload_n hx hb dX6_readPart_143 rfl (lv_at hl 2 rfl) ?_
              have hk_0 : (0 : Int32).toInt = 0 := by decide
              refine tk_Vv (As := []) (rest := []) (ci := 6) ⟨hx, hb, hml, hown, hts⟩ hK hG hZ hS (k_X6_step l D cy ld t a0 0 ht_a0 (by omega) (by omega)) hg_0 ⟨callB_of 0 hts (wl_in mw_494) rfl rfl rfl (htl _ mw_36) (htl _ mw_491) hd_yX6_step ⟨(Nat.le_of_ble_eq_true rfl), (Nat.le_of_ble_eq_true rfl)⟩, htl _ mw_492, htl _ mw_493⟩ ht_a0 (by decide) tk_no rfl (tk_w.pick [0] rfl) rfl hl.1 rfl (Nat.le_of_ble_eq_true rfl) dX6_readPart_144 ⟨(Nat.le_of_ble_eq_true rfl), (Nat.le_of_ble_eq_true rfl)⟩ (fun H locs hpo hG hS hq9 => ?_)
              have hf61 := hpo
              refine lv_aload_n hx hb dX6_readPart_147 rfl (lv_at hl 2 rfl) ?_
              refine tk_get (ci := 6) (C := RX6) (T := TX6) (N := 11) (sp := (6, 8, 512, 12)) hx hb htl inX6 hown hK hG ht_a0 (by decide) tk_no rfl 0 (by decide) (htl _ mw_132) (fun _ h9 => h9) rfl dX6_readPart_148 (fun v9 hf62 hV9 => ?_)
              obtain ⟨b63, rfl, ht_b63⟩ := hV9
              have ht_b63 : t b63 = (8, 512, 12) := ht_b63
              refine lv_iconst (v := 2) hx hb dX6_readPart_151 (by decide) ?_
              refine lv_aload_n hx hb dX6_readPart_152 rfl (lv_at hl 2 rfl) ?_
              refine tk_get (ci := 6) (C := RX6) (T := TX6) (N := 11) (sp := (0, 0, 1, 0)) hx hb htl inX6 hown hK hG ht_a0 (by decide) tk_no rfl 3 (by decide) (htl _ mw_477) (fun _ h9 => h9) rfl dX6_readPart_153 (fun v9 hf64 hV9 => ?_)
              obtain ⟨v65, rfl, (ha_v65 : 0 ≤ v65.toInt), (hb_v65 : v65.toInt ≤ 1)⟩ := hV9
              have hj76 : ∀ (v74 : Int32) (H : Heap) (locs : List Loc), tk_G D cy ld t [] H → va_S (tk_w t [(7, 0, 0), (20, 0, 0), (8, 12, 12)]) s.heap H locs → tk_f D H a0 6 9 (.int 0) → ∀ ls : Array Slot, lv_has ls 3 [] → W p l e ({ frames := 33, cells := 0, slots := 0, locals := 2240 }) s m args below meth c H locs 0 0 (MQ below (tv D cy ld t [] (fun H => tk_f D H a0 6 9 (.int 0)) (tk_w t [(7, 0, 0), (20, 0, 0), (8, 12, 12)])) args s 0 0 (tk_w t [(7, 0, 0), (20, 0, 0), (8, 12, 12)])) (F0 m 172 ls [.int v74, .int 2, .ref b63]) := by
                intro v74 H locs hG hS hf69 ls hl
                have hk_2 : (2 : Int32).toInt = 2 := by decide
                refine tk_Vv (As := [.int 2, .int v74]) (rest := []) (ci := 7) ⟨hx, hb, hml, hown, hts⟩ hK hG hZ hS (k_X7_put l D cy ld t b63 2 v74 ht_b63) trivial ⟨callB_of 2 hts (wl_in mw_594) rfl rfl rfl (htl _ mw_131) (htl _ mw_591) hd_yX7_put ⟨(Nat.le_of_ble_eq_true rfl), (Nat.le_of_ble_eq_true rfl)⟩, htl _ mw_592, htl _ mw_593⟩ ht_b63 (by decide) tk_no rfl (tk_w.pick [1, 2] rfl) rfl hl.1 rfl (Nat.le_of_ble_eq_true rfl) dX6_readPart_172 ⟨(Nat.le_of_ble_eq_true rfl), (Nat.le_of_ble_eq_true rfl)⟩ (fun H locs hpo hG hS hq9 => ?_)
                have hf69 := hf69.call hq9 (tk_w.no ht_a0 (by decide))
                exact tk_vret hx hb hr hlocks (show tk_f D H a0 6 9 (.int 0) from hf69) hG hS dX6_readPart_175
              refine lv_if_eq (tgt := 167) hx hb dX6_readPart_156 (by decide) (fun c9 => ?_) (fun c9 => ?_)
              · have hc66 : v65.toInt = 0 := (fi_eq rfl (show (0 : Int32).toInt = 0 by decide)).mp c9
                refine lv_aload_n hx hb dX6_readPart_167 rfl (lv_at hl 2 rfl) ?_
                refine lv_iload_n hx hb dX6_readPart_168 rfl (lv_at hl 0 rfl) ?_
                have hk_0 : (0 : Int32).toInt = 0 := by decide
                refine tk_Vi (As := [.int v27]) (rest := [.int 2, .ref b63]) (ci := 6) ⟨hx, hb, hml, hown, hts⟩ hK hG hZ hS (k_X6_readOwner l D cy ld t a0 v27 0 ht_a0 (by omega) (by omega)) hf61 ⟨callB_of 1 hts (wl_in mw_614) rfl rfl rfl (htl _ mw_36) (htl _ mw_611) hd_yX6_readOwner ⟨(Nat.le_of_ble_eq_true rfl), (Nat.le_of_ble_eq_true rfl)⟩, htl _ mw_612, htl _ mw_613⟩ ht_a0 (by decide) tk_no rfl (tk_w.pick [0] rfl) rfl hl.1 rfl (Nat.le_of_ble_eq_true rfl) dX6_readPart_169 ⟨(Nat.le_of_ble_eq_true rfl), (Nat.le_of_ble_eq_true rfl)⟩ (fun v78 H locs hpo hG hS hq9 => ?_)
                have hf80 := hpo
                exact hj76 v78 _ _ hG hS hf80 _ (lv_sub hl [] rfl)
              · have hc66 : ¬ (v65.toInt = 0) := fun h9 => c9 ((fi_eq rfl (show (0 : Int32).toInt = 0 by decide)).mpr h9)
                refine lv_aload_n hx hb dX6_readPart_159 rfl (lv_at hl 2 rfl) ?_
                refine lv_iload_n hx hb dX6_readPart_160 rfl (lv_at hl 0 rfl) ?_
                refine tk_Vi (As := [.int v27]) (rest := [.int 2, .ref b63]) (ci := 6) ⟨hx, hb, hml, hown, hts⟩ hK hG hZ hS (k_X6_noteLawWord l D cy ld t a0 v27 ht_a0) trivial ⟨callB_of 1 hts (wl_in mw_607) rfl rfl rfl (htl _ mw_36) (htl _ mw_604) hd_yX6_noteLawWord ⟨(Nat.le_of_ble_eq_true rfl), (Nat.le_of_ble_eq_true rfl)⟩, htl _ mw_605, htl _ mw_606⟩ ht_a0 (by decide) tk_no rfl (tk_w.pick [2] rfl) rfl hl.1 rfl (Nat.le_of_ble_eq_true rfl) dX6_readPart_161 ⟨(Nat.le_of_ble_eq_true rfl), (Nat.le_of_ble_eq_true rfl)⟩ (fun v81 H locs hpo hG hS hq9 => ?_)
                have hf61 := hf61.call hq9 (tk_w.no ht_a0 (by decide))
                refine lv_goto (tgt := 172) hx hb dX6_readPart_164 (by decide) ?_
                exact hj76 v81 _ _ hG hS hf61 _ (lv_sub hl [] rfl)
            · have hc54 : ¬ (v53.toInt < 50) := fun h9 => c9 ((fi_lt rfl (show (50 : Int32).toInt = 50 by decide)).mpr h9)
              refine lv_aload_n hx hb dX6_readPart_105 rfl (lv_at hl 2 rfl) ?_
              have hk_0 : (0 : Int32).toInt = 0 := by decide
              refine tk_Vv (As := []) (rest := []) (ci := 6) ⟨hx, hb, hml, hown, hts⟩ hK hG hZ hS (k_X6_fail l D cy ld t a0 0 ht_a0 (by omega) (by omega)) hg_0 ⟨callB_of 0 hts (wl_in mw_507) rfl rfl rfl (htl _ mw_36) (htl _ mw_504) hd_yX6_fail ⟨(Nat.le_of_ble_eq_true rfl), (Nat.le_of_ble_eq_true rfl)⟩, htl _ mw_505, htl _ mw_506⟩ ht_a0 (by decide) tk_no rfl (tk_w.pick [0] rfl) rfl hl.1 rfl (Nat.le_of_ble_eq_true rfl) dX6_readPart_106 ⟨(Nat.le_of_ble_eq_true rfl), (Nat.le_of_ble_eq_true rfl)⟩ (fun H locs hpo hG hS hq9 => ?_)
              have hf84 := hpo
              exact tk_vret hx hb hr hlocks (show tk_f D H a0 6 9 (.int 0) from hf84) hG hS dX6_readPart_109
      · have hc26 : ¬ (v25.toInt = 0) := fun h9 => c9 ((fi_eq rfl (show (0 : Int32).toInt = 0 by decide)).mpr h9)
        refine va_ldcS hx hb hown hK.2.2.2.2.2.2.1 dX6_readPart_76 ?_
        refine lv_goto (tgt := 83) hx hb dX6_readPart_78 (by decide) ?_
        refine tk_Vi (As := [.ref (ld 2)]) (rest := []) (ci := 6) ⟨hx, hb, hml, hown, hts⟩ hK hG hZ hS (k_X6_wordAmong_2 l D cy ld t a0 ht_a0) trivial ⟨callB_of 1 hts (wl_in mw_517) rfl rfl rfl (htl _ mw_36) (htl _ mw_514) hd_yX6_wordAmong ⟨(Nat.le_of_ble_eq_true rfl), (Nat.le_of_ble_eq_true rfl)⟩, htl _ mw_515, htl _ mw_516⟩ ht_a0 (by decide) tk_no rfl (tk_w.pick [] rfl) rfl hl.1 rfl (Nat.le_of_ble_eq_true rfl) dX6_readPart_83 ⟨(Nat.le_of_ble_eq_true rfl), (Nat.le_of_ble_eq_true rfl)⟩ (fun v85 H locs hpo hG hS hq9 => ?_)
        have hg_0 := hg_0.call hq9 tk_w.nil
        obtain ⟨hpo87, hpo88⟩ := hpo
        refine lv_istore_n (lv' := [(2, .int v85), (1, .int v22), (0, .ref a0)]) hx hb dX6_readPart_86 rfl hl (by decide) rfl (fun ls hl => ?_)
        refine lv_iload_n hx hb dX6_readPart_87 rfl (lv_at hl 1 rfl) ?_
        refine lv_if_ne (tgt := 96) hx hb dX6_readPart_88 (by decide) (fun c9 => ?_) (fun c9 => ?_)
        · have hc89 : ¬ (v22.toInt = 0) := fun h9 => c9 ((fi_eq rfl (show (0 : Int32).toInt = 0 by decide)).mpr h9)
          refine lv_aload_n hx hb dX6_readPart_96 rfl (lv_at hl 2 rfl) ?_
          refine tk_get (ci := 6) (C := RX6) (T := TX6) (N := 11) (sp := (0, (-2147483648), 2147483647, 0)) hx hb htl inX6 hown hK hG ht_a0 (by decide) tk_no rfl 8 (by decide) (htl _ mw_479) (fun _ h9 => h9) rfl dX6_readPart_97 (fun v9 hf90 hV9 => ?_)
          obtain ⟨v91, rfl, (ha_v91 : (-2147483648) ≤ v91.toInt), (hb_v91 : v91.toInt ≤ 2147483647)⟩ := hV9
          refine lv_bipush (v := 50) hx hb dX6_readPart_100 (by decide) ?_
          refine lv_icmp_lt (tgt := 110) hx hb dX6_readPart_102 (by decide) (fun c9 => ?_) (fun c9 => ?_)
          · have hc92 : v91.toInt < 50 := (fi_lt rfl (show (50 : Int32).toInt = 50 by decide)).mp c9
            refine lv_aload_n hx hb dX6_readPart_110 rfl (lv_at hl 2 rfl) ?_
            refine lv_dup hx hb dX6_readPart_111 rfl ?_
            refine tk_get (ci := 6) (C := RX6) (T := TX6) (N := 11) (sp := (0, (-2147483648), 2147483647, 0)) hx hb htl inX6 hown hK hG ht_a0 (by decide) tk_no rfl 8 (by decide) (htl _ mw_479) (fun _ h9 => h9) rfl dX6_readPart_112 (fun v9 hf93 hV9 => ?_)
            obtain ⟨v94, rfl, (ha_v94 : (-2147483648) ≤ v94.toInt), (hb_v94 : v94.toInt ≤ 2147483647)⟩ := hV9
            refine lv_iconst (v := 1) hx hb dX6_readPart_115 (by decide) ?_
            refine lv_iadd hx hb dX6_readPart_116 ?_
            obtain ⟨v95, hm_v95⟩ : ∃ z : Int32, v94 + 1 = z := ⟨_, rfl⟩
            refine fx_ti hm_v95 ?_
            refine tk_put (ci := 6) (v := .int v95) (ty := .int) (C := RX6) (T := TX6) (N := 11) (sp := (0, (-2147483648), 2147483647, 0)) hx hb htl inX6 tyX6 tyX6_ok nmX6 hown hK hG hS ht_a0 (by decide) tk_no rfl 8 (by decide) (htl _ mw_479) (fun _ h9 => h9) rfl (tyX6_ok 8 (by decide)) rfl rfl rfl (tk_V0 (tk_rng _).1 (tk_rng _).2) (fun _ h => tk_X7 h (by decide) (by decide)) (tk_w.of ht_a0 (by decide) (List.mem_of_getElem? (i := 0) rfl) (Nat.le_refl _) (Nat.le_refl _)) dX6_readPart_117 (fun H locs hG hS hf96 hq9 hj9 => ?_)
            have hg_0 := hj9 9 _ (by decide) (by decide) hg_0
            refine lv_iload_n hx hb dX6_readPart_120 rfl (lv_at hl 1 rfl) ?_
            refine lv_if_eq (tgt := 143) hx hb dX6_readPart_121 (by decide) (fun c9 => absurd (show v22.toInt = 0 from (fi_eq rfl (show (0 : Int32).toInt = 0 by decide)).mp c9) (by omega)) (fun _ => ?_)
            refine lv_aload_n hx hb dX6_readPart_124 rfl (lv_at hl 2 rfl) ?_
            refine tk_get (ci := 6) (C := RX6) (T := TX6) (N := 11) (sp := (6, 8, 512, 12)) hx hb htl inX6 hown hK hG ht_a0 (by decide) tk_no rfl 0 (by decide) (htl _ mw_132) (fun _ h9 => h9) rfl dX6_readPart_125 (fun v9 hf98 hV9 => ?_)
            obtain ⟨b99, rfl, ht_b99⟩ := hV9
            have ht_b99 : t b99 = (8, 512, 12) := ht_b99
            refine lv_iconst (v := 1) hx hb dX6_readPart_128 (by decide) ?_
            refine lv_aload_n hx hb dX6_readPart_129 rfl (lv_at hl 2 rfl) ?_
            refine tk_get (ci := 6) (C := RX6) (T := TX6) (N := 11) (sp := (0, (-2147483648), 2147483647, 0)) hx hb htl inX6 hown hK hG ht_a0 (by decide) tk_no rfl 7 (by decide) (htl _ mw_496) (fun _ h9 => h9) rfl dX6_readPart_130 (fun v9 hf100 hV9 => ?_)
            obtain ⟨v101, rfl, (ha_v101 : (-2147483648) ≤ v101.toInt), (hb_v101 : v101.toInt ≤ 2147483647)⟩ := hV9
            have hk_1 : (1 : Int32).toInt = 1 := by decide
            refine tk_Vv (As := [.int 1, .int v101]) (rest := []) (ci := 7) ⟨hx, hb, hml, hown, hts⟩ hK hG hZ hS (k_X7_put l D cy ld t b99 1 v101 ht_b99) trivial ⟨callB_of 2 hts (wl_in mw_594) rfl rfl rfl (htl _ mw_131) (htl _ mw_591) hd_yX7_put ⟨(Nat.le_of_ble_eq_true rfl), (Nat.le_of_ble_eq_true rfl)⟩, htl _ mw_592, htl _ mw_593⟩ ht_b99 (by decide) tk_no rfl (tk_w.pick [1, 2] rfl) rfl hl.1 rfl (Nat.le_of_ble_eq_true rfl) dX6_readPart_133 ⟨(Nat.le_of_ble_eq_true rfl), (Nat.le_of_ble_eq_true rfl)⟩ (fun H locs hpo hG hS hq9 => ?_)
            have hg_0 := hg_0.call hq9 (tk_w.no ht_a0 (by decide))
            have hf100 := hf100.call hq9 (tk_w.no ht_a0 (by decide))
            refine lv_aload_n hx hb dX6_readPart_136 rfl (lv_at hl 2 rfl) ?_
            have hk_0 : (0 : Int32).toInt = 0 := by decide
            refine tk_Vv (As := []) (rest := []) (ci := 6) ⟨hx, hb, hml, hown, hts⟩ hK hG hZ hS (k_X6_step l D cy ld t a0 0 ht_a0 (by omega) (by omega)) hg_0 ⟨callB_of 0 hts (wl_in mw_494) rfl rfl rfl (htl _ mw_36) (htl _ mw_491) hd_yX6_step ⟨(Nat.le_of_ble_eq_true rfl), (Nat.le_of_ble_eq_true rfl)⟩, htl _ mw_492, htl _ mw_493⟩ ht_a0 (by decide) tk_no rfl (tk_w.pick [0] rfl) rfl hl.1 rfl (Nat.le_of_ble_eq_true rfl) dX6_readPart_137 ⟨(Nat.le_of_ble_eq_true rfl), (Nat.le_of_ble_eq_true rfl)⟩ (fun H locs hpo hG hS hq9 => ?_)
            have hf104 := hpo
            refine lv_goto (tgt := 175) hx hb dX6_readPart_140 (by decide) ?_
            exact tk_vret hx hb hr hlocks (show tk_f D H a0 6 9 (.int 0) from hf104) hG hS dX6_readPart_175
          · have hc92 : ¬ (v91.toInt < 50) := fun h9 => c9 ((fi_lt rfl (show (50 : Int32).toInt = 50 by decide)).mpr h9)
            refine lv_aload_n hx hb dX6_readPart_105 rfl (lv_at hl 2 rfl) ?_
            have hk_0 : (0 : Int32).toInt = 0 := by decide
            refine tk_Vv (As := []) (rest := []) (ci := 6) ⟨hx, hb, hml, hown, hts⟩ hK hG hZ hS (k_X6_fail l D cy ld t a0 0 ht_a0 (by omega) (by omega)) hg_0 ⟨callB_of 0 hts (wl_in mw_507) rfl rfl rfl (htl _ mw_36) (htl _ mw_504) hd_yX6_fail ⟨(Nat.le_of_ble_eq_true rfl), (Nat.le_of_ble_eq_true rfl)⟩, htl _ mw_505, htl _ mw_506⟩ ht_a0 (by decide) tk_no rfl (tk_w.pick [0] rfl) rfl hl.1 rfl (Nat.le_of_ble_eq_true rfl) dX6_readPart_106 ⟨(Nat.le_of_ble_eq_true rfl), (Nat.le_of_ble_eq_true rfl)⟩ (fun H locs hpo hG hS hq9 => ?_)
            have hf106 := hpo
            exact tk_vret hx hb hr hlocks (show tk_f D H a0 6 9 (.int 0) from hf106) hG hS dX6_readPart_109
        · have hc89 : v22.toInt = 0 := (fi_eq rfl (show (0 : Int32).toInt = 0 by decide)).mp c9
          refine lv_iload_n hx hb dX6_readPart_91 rfl (lv_at hl 0 rfl) ?_
          refine lv_iconst (v := (-1)) hx hb dX6_readPart_92 (by decide) ?_
          refine lv_icmp_eq (tgt := 105) hx hb dX6_readPart_93 (by decide) (fun c9 => ?_) (fun c9 => ?_)
          · have hc107 : v85.toInt = (-1) := (fi_eq rfl (show ((-1) : Int32).toInt = (-1) by decide)).mp c9
            refine lv_aload_n hx hb dX6_readPart_105 rfl (lv_at hl 2 rfl) ?_
            have hk_0 : (0 : Int32).toInt = 0 := by decide
            refine tk_Vv (As := []) (rest := []) (ci := 6) ⟨hx, hb, hml, hown, hts⟩ hK hG hZ hS (k_X6_fail l D cy ld t a0 0 ht_a0 (by omega) (by omega)) hg_0 ⟨callB_of 0 hts (wl_in mw_507) rfl rfl rfl (htl _ mw_36) (htl _ mw_504) hd_yX6_fail ⟨(Nat.le_of_ble_eq_true rfl), (Nat.le_of_ble_eq_true rfl)⟩, htl _ mw_505, htl _ mw_506⟩ ht_a0 (by decide) tk_no rfl (tk_w.pick [0] rfl) rfl hl.1 rfl (Nat.le_of_ble_eq_true rfl) dX6_readPart_106 ⟨(Nat.le_of_ble_eq_true rfl), (Nat.le_of_ble_eq_true rfl)⟩ (fun H locs hpo hG hS hq9 => ?_)
            have hf109 := hpo
            exact tk_vret hx hb hr hlocks (show tk_f D H a0 6 9 (.int 0) from hf109) hG hS dX6_readPart_109
          · have hc107 : ¬ (v85.toInt = (-1)) := fun h9 => c9 ((fi_eq rfl (show ((-1) : Int32).toInt = (-1) by decide)).mpr h9)
            refine lv_aload_n hx hb dX6_readPart_96 rfl (lv_at hl 2 rfl) ?_
            refine tk_get (ci := 6) (C := RX6) (T := TX6) (N := 11) (sp := (0, (-2147483648), 2147483647, 0)) hx hb htl inX6 hown hK hG ht_a0 (by decide) tk_no rfl 8 (by decide) (htl _ mw_479) (fun _ h9 => h9) rfl dX6_readPart_97 (fun v9 hf110 hV9 => ?_)
            obtain ⟨v111, rfl, (ha_v111 : (-2147483648) ≤ v111.toInt), (hb_v111 : v111.toInt ≤ 2147483647)⟩ := hV9
            refine lv_bipush (v := 50) hx hb dX6_readPart_100 (by decide) ?_
            refine lv_icmp_lt (tgt := 110) hx hb dX6_readPart_102 (by decide) (fun c9 => ?_) (fun c9 => ?_)
            · have hc112 : v111.toInt < 50 := (fi_lt rfl (show (50 : Int32).toInt = 50 by decide)).mp c9
              refine lv_aload_n hx hb dX6_readPart_110 rfl (lv_at hl 2 rfl) ?_
              refine lv_dup hx hb dX6_readPart_111 rfl ?_
              refine tk_get (ci := 6) (C := RX6) (T := TX6) (N := 11) (sp := (0, (-2147483648), 2147483647, 0)) hx hb htl inX6 hown hK hG ht_a0 (by decide) tk_no rfl 8 (by decide) (htl _ mw_479) (fun _ h9 => h9) rfl dX6_readPart_112 (fun v9 hf113 hV9 => ?_)
              obtain ⟨v114, rfl, (ha_v114 : (-2147483648) ≤ v114.toInt), (hb_v114 : v114.toInt ≤ 2147483647)⟩ := hV9
              refine lv_iconst (v := 1) hx hb dX6_readPart_115 (by decide) ?_
              refine lv_iadd hx hb dX6_readPart_116 ?_
              obtain ⟨v115, hm_v115⟩ : ∃ z : Int32, v114 + 1 = z := ⟨_, rfl⟩
              refine fx_ti hm_v115 ?_
              refine tk_put (ci := 6) (v := .int v115) (ty := .int) (C := RX6) (T := TX6) (N := 11) (sp := (0, (-2147483648), 2147483647, 0)) hx hb htl inX6 tyX6 tyX6_ok nmX6 hown hK hG hS ht_a0 (by decide) tk_no rfl 8 (by decide) (htl _ mw_479) (fun _ h9 => h9) rfl (tyX6_ok 8 (by decide)) rfl rfl rfl (tk_V0 (tk_rng _).1 (tk_rng _).2) (fun _ h => tk_X7 h (by decide) (by decide)) (tk_w.of ht_a0 (by decide) (List.mem_of_getElem? (i := 0) rfl) (Nat.le_refl _) (Nat.le_refl _)) dX6_readPart_117 (fun H locs hG hS hf116 hq9 hj9 => ?_)
              have hg_0 := hj9 9 _ (by decide) (by decide) hg_0
              refine lv_iload_n hx hb dX6_readPart_120 rfl (lv_at hl 1 rfl) ?_
              refine lv_if_eq (tgt := 143) hx hb dX6_readPart_121 (by decide) (fun _ => ?_) (fun c9 => absurd ((fi_eq rfl (show (0 : Int32).toInt = 0 by decide)).mpr (show v22.toInt = 0 by omega)) c9)
              refine lv_aload_n hx hb dX6_readPart_143 rfl (lv_at hl 2 rfl) ?_
              have hk_0 : (0 : Int32).toInt = 0 := by decide
              refine tk_Vv (As := []) (rest := []) (ci := 6) ⟨hx, hb, hml, hown, hts⟩ hK hG hZ hS (k_X6_step l D cy ld t a0 0 ht_a0 (by omega) (by omega)) hg_0 ⟨callB_of 0 hts (wl_in mw_494) rfl rfl rfl (htl _ mw_36) (htl _ mw_491) hd_yX6_step ⟨(Nat.le_of_ble_eq_true rfl), (Nat.le_of_ble_eq_true rfl)⟩, htl _ mw_492, htl _ mw_493⟩ ht_a0 (by decide) tk_no rfl (tk_w.pick [0] rfl) rfl hl.1 rfl (Nat.le_of_ble_eq_true rfl) dX6_readPart_144 ⟨(Nat.le_of_ble_eq_true rfl), (Nat.le_of_ble_eq_true rfl)⟩ (fun H locs hpo hG hS hq9 => ?_)
              have hf119 := hpo
              refine lv_aload_n hx hb dX6_readPart_147 rfl (lv_at hl 2 rfl) ?_
              refine tk_get (ci := 6) (C := RX6) (T := TX6) (N := 11) (sp := (6, 8, 512, 12)) hx hb htl inX6 hown hK hG ht_a0 (by decide) tk_no rfl 0 (by decide) (htl _ mw_132) (fun _ h9 => h9) rfl dX6_readPart_148 (fun v9 hf120 hV9 => ?_)
              obtain ⟨b121, rfl, ht_b121⟩ := hV9
              have ht_b121 : t b121 = (8, 512, 12) := ht_b121
              refine lv_iconst (v := 2) hx hb dX6_readPart_151 (by decide) ?_
              refine lv_aload_n hx hb dX6_readPart_152 rfl (lv_at hl 2 rfl) ?_
              refine tk_get (ci := 6) (C := RX6) (T := TX6) (N := 11) (sp := (0, 0, 1, 0)) hx hb htl inX6 hown hK hG ht_a0 (by decide) tk_no rfl 3 (by decide) (htl _ mw_477) (fun _ h9 => h9) rfl dX6_readPart_153 (fun v9 hf122 hV9 => ?_)
              obtain ⟨v123, rfl, (ha_v123 : 0 ≤ v123.toInt), (hb_v123 : v123.toInt ≤ 1)⟩ := hV9
              have hj134 : ∀ (v132 : Int32) (H : Heap) (locs : List Loc), tk_G D cy ld t [] H → va_S (tk_w t [(7, 0, 0), (20, 0, 0), (8, 12, 12)]) s.heap H locs → tk_f D H a0 6 9 (.int 0) → ∀ ls : Array Slot, lv_has ls 3 [] → W p l e ({ frames := 33, cells := 0, slots := 0, locals := 2240 }) s m args below meth c H locs 0 0 (MQ below (tv D cy ld t [] (fun H => tk_f D H a0 6 9 (.int 0)) (tk_w t [(7, 0, 0), (20, 0, 0), (8, 12, 12)])) args s 0 0 (tk_w t [(7, 0, 0), (20, 0, 0), (8, 12, 12)])) (F0 m 172 ls [.int v132, .int 2, .ref b121]) := by
                intro v132 H locs hG hS hf127 ls hl
                have hk_2 : (2 : Int32).toInt = 2 := by decide
                refine tk_Vv (As := [.int 2, .int v132]) (rest := []) (ci := 7) ⟨hx, hb, hml, hown, hts⟩ hK hG hZ hS (k_X7_put l D cy ld t b121 2 v132 ht_b121) trivial ⟨callB_of 2 hts (wl_in mw_594) rfl rfl rfl (htl _ mw_131) (htl _ mw_591) hd_yX7_put ⟨(Nat.le_of_ble_eq_true rfl), (Nat.le_of_ble_eq_true rfl)⟩, htl _ mw_592, htl _ mw_593⟩ ht_b121 (by decide) tk_no rfl (tk_w.pick [1, 2] rfl) rfl hl.1 rfl (Nat.le_of_ble_eq_true rfl) dX6_readPart_172 ⟨(Nat.le_of_ble_eq_true rfl), (Nat.le_of_ble_eq_true rfl)⟩ (fun H locs hpo hG hS hq9 => ?_)
                have hf127 := hf127.call hq9 (tk_w.no ht_a0 (by decide))
                exact tk_vret hx hb hr hlocks (show tk_f D H a0 6 9 (.int 0) from hf127) hG hS dX6_readPart_175
              refine lv_if_eq (tgt := 167) hx hb dX6_readPart_156 (by decide) (fun c9 => ?_) (fun c9 => ?_)
              · have hc124 : v123.toInt = 0 := (fi_eq rfl (show (0 : Int32).toInt = 0 by decide)).mp c9
                refine lv_aload_n hx hb dX6_readPart_167 rfl (lv_at hl 2 rfl) ?_
                refine lv_iload_n hx hb dX6_readPart_168 rfl (lv_at hl 0 rfl) ?_
                have hk_0 : (0 : Int32).toInt = 0 := by decide
                refine tk_Vi (As := [.int v85]) (rest := [.int 2, .ref b121]) (ci := 6) ⟨hx, hb, hml, hown, hts⟩ hK hG hZ hS (k_X6_readOwner l D cy ld t a0 v85 0 ht_a0 (by omega) (by omega)) hf119 ⟨callB_of 1 hts (wl_in mw_614) rfl rfl rfl (htl _ mw_36) (htl _ mw_611) hd_yX6_readOwner ⟨(Nat.le_of_ble_eq_true rfl), (Nat.le_of_ble_eq_true rfl)⟩, htl _ mw_612, htl _ mw_613⟩ ht_a0 (by decide) tk_no rfl (tk_w.pick [0] rfl) rfl hl.1 rfl (Nat.le_of_ble_eq_true rfl) dX6_readPart_169 ⟨(Nat.le_of_ble_eq_true rfl), (Nat.le_of_ble_eq_true rfl)⟩ (fun v136 H locs hpo hG hS hq9 => ?_)
                have hf138 := hpo
                exact hj134 v136 _ _ hG hS hf138 _ (lv_sub hl [] rfl)
              · have hc124 : ¬ (v123.toInt = 0) := fun h9 => c9 ((fi_eq rfl (show (0 : Int32).toInt = 0 by decide)).mpr h9)
                refine lv_aload_n hx hb dX6_readPart_159 rfl (lv_at hl 2 rfl) ?_
                refine lv_iload_n hx hb dX6_readPart_160 rfl (lv_at hl 0 rfl) ?_
                refine tk_Vi (As := [.int v85]) (rest := [.int 2, .ref b121]) (ci := 6) ⟨hx, hb, hml, hown, hts⟩ hK hG hZ hS (k_X6_noteLawWord l D cy ld t a0 v85 ht_a0) trivial ⟨callB_of 1 hts (wl_in mw_607) rfl rfl rfl (htl _ mw_36) (htl _ mw_604) hd_yX6_noteLawWord ⟨(Nat.le_of_ble_eq_true rfl), (Nat.le_of_ble_eq_true rfl)⟩, htl _ mw_605, htl _ mw_606⟩ ht_a0 (by decide) tk_no rfl (tk_w.pick [2] rfl) rfl hl.1 rfl (Nat.le_of_ble_eq_true rfl) dX6_readPart_161 ⟨(Nat.le_of_ble_eq_true rfl), (Nat.le_of_ble_eq_true rfl)⟩ (fun v139 H locs hpo hG hS hq9 => ?_)
                have hf119 := hf119.call hq9 (tk_w.no ht_a0 (by decide))
                refine lv_goto (tgt := 172) hx hb dX6_readPart_164 (by decide) ?_
                exact hj134 v139 _ _ hG hS hf119 _ (lv_sub hl [] rfl)
            · have hc112 : ¬ (v111.toInt < 50) := fun h9 => c9 ((fi_lt rfl (show (50 : Int32).toInt = 50 by decide)).mpr h9)
              refine lv_aload_n hx hb dX6_readPart_105 rfl (lv_at hl 2 rfl) ?_
              have hk_0 : (0 : Int32).toInt = 0 := by decide
              refine tk_Vv (As := []) (rest := []) (ci := 6) ⟨hx, hb, hml, hown, hts⟩ hK hG hZ hS (k_X6_fail l D cy ld t a0 0 ht_a0 (by omega) (by omega)) hg_0 ⟨callB_of 0 hts (wl_in mw_507) rfl rfl rfl (htl _ mw_36) (htl _ mw_504) hd_yX6_fail ⟨(Nat.le_of_ble_eq_true rfl), (Nat.le_of_ble_eq_true rfl)⟩, htl _ mw_505, htl _ mw_506⟩ ht_a0 (by decide) tk_no rfl (tk_w.pick [0] rfl) rfl hl.1 rfl (Nat.le_of_ble_eq_true rfl) dX6_readPart_106 ⟨(Nat.le_of_ble_eq_true rfl), (Nat.le_of_ble_eq_true rfl)⟩ (fun H locs hpo hG hS hq9 => ?_)
              have hf142 := hpo
              exact tk_vret hx hb hr hlocks (show tk_f D H a0 6 9 (.int 0) from hf142) hG hS dX6_readPart_109
    refine lv_if_eq (tgt := 66) hx hb dX6_readPart_41 (by decide) (fun c9 => ?_) (fun c9 => ?_)
    · have hc14 : v8.toInt = 0 := (fi_eq rfl (show (0 : Int32).toInt = 0 by decide)).mp c9
      refine lv_iconst (v := 0) hx hb dX6_readPart_66 (by decide) ?_
      have hk_0 : (0 : Int32).toInt = 0 := by decide
      exact hj23 0 (by omega) (by omega) _ (lv_sub hl [0] rfl)
    · have hc14 : ¬ (v8.toInt = 0) := fun h9 => c9 ((fi_eq rfl (show (0 : Int32).toInt = 0 by decide)).mpr h9)
      refine lv_aload_n hx hb dX6_readPart_44 rfl (lv_at hl 0 rfl) ?_
      refine tk_get (ci := 6) (C := RX6) (T := TX6) (N := 11) (sp := (0, (-2147483648), 2147483647, 0)) hx hb htl inX6 hown hK hG ht_a0 (by decide) tk_no rfl 6 (by decide) (htl _ mw_482) (fun _ h9 => h9) rfl dX6_readPart_45 (fun v9 hf143 hV9 => ?_)
      obtain ⟨v144, rfl, (ha_v144 : (-2147483648) ≤ v144.toInt), (hb_v144 : v144.toInt ≤ 2147483647)⟩ := hV9
      refine lv_iconst (v := 2) hx hb dX6_readPart_48 (by decide) ?_
      refine lv_icmp_ne (tgt := 66) hx hb dX6_readPart_49 (by decide) (fun c9 => ?_) (fun c9 => ?_)
      · have hc145 : ¬ (v144.toInt = 2) := fun h9 => c9 ((fi_eq rfl (show (2 : Int32).toInt = 2 by decide)).mpr h9)
        refine lv_iconst (v := 0) hx hb dX6_readPart_66 (by decide) ?_
        have hk_0 : (0 : Int32).toInt = 0 := by decide
        exact hj23 0 (by omega) (by omega) _ (lv_sub hl [0] rfl)
      · have hc145 : v144.toInt = 2 := (fi_eq rfl (show (2 : Int32).toInt = 2 by decide)).mp c9
        refine lv_aload_n hx hb dX6_readPart_52 rfl (lv_at hl 0 rfl) ?_
        refine tk_get (ci := 6) (C := RX6) (T := TX6) (N := 11) (sp := (0, (-2147483648), 2147483647, 0)) hx hb htl inX6 hown hK hG ht_a0 (by decide) tk_no rfl 7 (by decide) (htl _ mw_496) (fun _ h9 => h9) rfl dX6_readPart_53 (fun v9 hf146 hV9 => ?_)
        obtain ⟨v147, rfl, (ha_v147 : (-2147483648) ≤ v147.toInt), (hb_v147 : v147.toInt ≤ 2147483647)⟩ := hV9
        refine lv_sipush (v := 1000) hx hb dX6_readPart_56 (by decide) ?_
        refine lv_icmp_gt (tgt := 66) hx hb dX6_readPart_59 (by decide) (fun c9 => ?_) (fun c9 => ?_)
        · have hc148 : 1000 < v147.toInt := (fi_lt (show (1000 : Int32).toInt = 1000 by decide) rfl).mp c9
          refine lv_iconst (v := 0) hx hb dX6_readPart_66 (by decide) ?_
          have hk_0 : (0 : Int32).toInt = 0 := by decide
          exact hj23 0 (by omega) (by omega) _ (lv_sub hl [0] rfl)
        · have hc148 : ¬ (1000 < v147.toInt) := fun h9 => c9 ((fi_lt (show (1000 : Int32).toInt = 1000 by decide) rfl).mpr h9)
          refine lv_iconst (v := 1) hx hb dX6_readPart_62 (by decide) ?_
          refine lv_goto (tgt := 67) hx hb dX6_readPart_63 (by decide) ?_
          have hk_1 : (1 : Int32).toInt = 1 := by decide
          exact hj23 1 (by omega) (by omega) _ (lv_sub hl [0] rfl)
  · have hc7 : ¬ (v1.toInt = 0) := fun h9 => c9 ((fi_eq rfl (show (0 : Int32).toInt = 0 by decide)).mpr h9)
    refine lv_aload_n hx hb dX6_readPart_9 rfl (lv_at hl 0 rfl) ?_
    refine tk_Vi (As := []) (rest := []) (ci := 6) ⟨hx, hb, hml, hown, hts⟩ hK hG hZ hS (k_X6_goDeeper_0 l D cy ld t a0 ht_a0) hg_0 ⟨callB_of 0 hts (wl_in mw_599) rfl rfl rfl (htl _ mw_36) (htl _ mw_596) hd_yX6_goDeeper ⟨(Nat.le_of_ble_eq_true rfl), (Nat.le_of_ble_eq_true rfl)⟩, htl _ mw_597, htl _ mw_598⟩ ht_a0 (by decide) tk_no rfl (tk_w.pick [0] rfl) rfl hl.1 rfl (Nat.le_of_ble_eq_true rfl) dX6_readPart_10 ⟨(Nat.le_of_ble_eq_true rfl), (Nat.le_of_ble_eq_true rfl)⟩ (fun v149 H locs hpo hG hS hq9 => ?_)
    obtain ⟨hpo151, hpo152, hpo153, hf154⟩ := hpo
    obtain rfl : v149 = 1 := (fi_eq (show v149.toInt = 1 by omega) (by decide)).mpr rfl
    refine lv_if_eq (tgt := 36) hx hb dX6_readPart_13 (by decide) (fun c9 => absurd c9 (by decide)) (fun _ => ?_)
    refine lv_aload_n hx hb dX6_readPart_16 rfl (lv_at hl 0 rfl) ?_
    refine tk_Vv (As := []) (rest := []) (ci := 6) ⟨hx, hb, hml, hown, hts⟩ hK hG hZ hS (k_X6_readSum_1 l D cy ld t a0 ht_a0) hf154 ⟨callB_of 0 hts (wl_in mw_583) rfl rfl rfl (htl _ mw_36) (htl _ mw_580) hd_yX6_readSum ⟨(Nat.le_of_ble_eq_true rfl), (Nat.le_of_ble_eq_true rfl)⟩, htl _ mw_581, htl _ mw_582⟩ ht_a0 (by decide) tk_no rfl (tk_w.pick [0, 1, 2] rfl) rfl hl.1 rfl (Nat.le_of_ble_eq_true rfl) dX6_readPart_17 ⟨(Nat.le_of_ble_eq_true rfl), (Nat.le_of_ble_eq_true rfl)⟩ (fun H locs hpo hG hS hq9 => ?_)
    have hf156 := hpo
    refine lv_aload_n hx hb dX6_readPart_20 rfl (lv_at hl 0 rfl) ?_
    refine lv_bipush (v := 93) hx hb dX6_readPart_21 (by decide) ?_
    have hk_93 : (93 : Int32).toInt = 93 := by decide
    have hk_1 : (1 : Int32).toInt = 1 := by decide
    refine tk_Vv (As := [.int 93]) (rest := []) (ci := 6) ⟨hx, hb, hml, hown, hts⟩ hK hG hZ hS (k_X6_take l D cy ld t a0 93 1 ht_a0 (by omega) (by omega)) hf156 ⟨callB_of 1 hts (wl_in mw_603) rfl rfl rfl (htl _ mw_36) (htl _ mw_600) hd_yX6_take ⟨(Nat.le_of_ble_eq_true rfl), (Nat.le_of_ble_eq_true rfl)⟩, htl _ mw_601, htl _ mw_602⟩ ht_a0 (by decide) tk_no rfl (tk_w.pick [0] rfl) rfl hl.1 rfl (Nat.le_of_ble_eq_true rfl) dX6_readPart_23 ⟨(Nat.le_of_ble_eq_true rfl), (Nat.le_of_ble_eq_true rfl)⟩ (fun H locs hpo hG hS hq9 => ?_)
    have hf158 := hpo
    refine lv_aload_n hx hb dX6_readPart_26 rfl (lv_at hl 0 rfl) ?_
    refine lv_dup hx hb dX6_readPart_27 rfl ?_
    refine tk_getk (ci := 6) (C := RX6) (T := TX6) (N := 11) (sp := (0, 0, 8, 0)) hx hb htl inX6 hown hK hG ht_a0 (by decide) tk_no rfl 9 (by decide) (htl _ mw_480) (fun _ h9 => h9) rfl hf158 dX6_readPart_28 ?_
    refine lv_iconst (v := 1) hx hb dX6_readPart_31 (by decide) ?_
    refine lv_isub hx hb dX6_readPart_32 ?_
    refine fx_ti (v := 0) (by decide) ?_
    refine tk_put (ci := 6) (v := .int 0) (ty := .int) (C := RX6) (T := TX6) (N := 11) (sp := (0, 0, 8, 0)) hx hb htl inX6 tyX6 tyX6_ok nmX6 hown hK hG hS ht_a0 (by decide) tk_no rfl 9 (by decide) (htl _ mw_480) (fun _ h9 => h9) rfl (tyX6_ok 9 (by decide)) rfl rfl rfl (tk_V0 (by decide) (by decide)) (fun _ h => tk_X7 h (by decide) (by decide)) (tk_w.of ht_a0 (by decide) (List.mem_of_getElem? (i := 0) rfl) (Nat.le_refl _) (Nat.le_refl _)) dX6_readPart_33 (fun H locs hG hS hf159 hq9 hj9 => ?_)
    exact tk_vret hx hb hr hlocks (show tk_f D H a0 6 9 (.int 0) from hf159) hG hS dX6_readPart_36
set_option maxHeartbeats 4000000 in
set_option maxRecDepth 100000 in
theorem k_X6_readTerm_0 (l : Launch) (D : va_G) (cy : Nat → ClassId) (ld : Nat → Nat) (t : tk_T) (a0 : Nat) (ht_a0 : t a0 = (7, 0, 0)) : Met l yX6_readTerm (wl yX6_readTerm cX6_readTerm 3 none) ({ frames := 34, cells := 0, slots := 0, locals := 2310 }) (tp D cy ld t [] [.ref a0] (fun H => tk_f D H a0 6 9 (.int 0))) (tv D cy ld t [] (fun H => tk_f D H a0 6 9 (.int 0)) (tk_w t [(7, 0, 0), (20, 0, 0), (8, 12, 12)])) 0 0 (tk_w t [(7, 0, 0), (20, 0, 0), (8, 12, 12)]) := by
  refine tk_met (y := yX6_readTerm) (cc := cX6_readTerm) (maxL := 3) (ret := none) (av := [.ref a0]) _ _ (by decide) (Nat.le_of_ble_eq_true rfl) ?_
  intro p e s m args below meth c hx hb hr hml hts htl hown hlocks hK H locs hH hG hS hB hZ ls hl
  have hown : s.vm.findClass RX6 = some m.cls := hown
  have hl : lv_has ls 3 [(0, .ref a0)] := hl
  have hg_0 := hB
  refine lv_aload_n hx hb dX6_readTerm_0 rfl (lv_at hl 0 rfl) ?_
  refine tk_Vv (As := []) (rest := []) (ci := 6) ⟨hx, hb, hml, hown, hts⟩ hK hG hZ hS (k_X6_readPart_0 l D cy ld t a0 ht_a0) hg_0 ⟨callB_of 0 hts (wl_in mw_595) rfl rfl rfl (htl _ mw_36) (htl _ mw_616) hd_yX6_readPart ⟨(Nat.le_of_ble_eq_true rfl), (Nat.le_of_ble_eq_true rfl)⟩, htl _ mw_617, htl _ mw_618⟩ ht_a0 (by decide) tk_no rfl (tk_w.pick [0, 1, 2] rfl) rfl hl.1 rfl (Nat.le_of_ble_eq_true rfl) dX6_readTerm_1 ⟨(Nat.le_of_ble_eq_true rfl), (Nat.le_of_ble_eq_true rfl)⟩ (fun H locs hpo hG hS hq9 => ?_)
  have hf2 := hpo
  refine lv_iconst (v := 0) hx hb dX6_readTerm_4 (by decide) ?_
  refine lv_istore_n (lv' := [(1, .int 0), (0, .ref a0)]) hx hb dX6_readTerm_5 rfl hl (by decide) rfl (fun ls hl => ?_)
  have hl994 : ∀ (N_l994 : Nat) (v3 : Int32) (H : Heap) (locs : List Loc), 0 ≤ v3.toInt → v3.toInt ≤ 400 → (-1) * v3.toInt + 400 < (N_l994 : Int) → tk_G D cy ld t [] H → va_S (tk_w t [(7, 0, 0), (20, 0, 0), (8, 12, 12)]) s.heap H locs → tk_f D H a0 6 9 (.int 0) → ∀ ls : Array Slot, lv_has ls 3 [(1, .int v3), (0, .ref a0)] → W p l e ({ frames := 34, cells := 0, slots := 0, locals := 2310 }) s m args below meth c H locs 0 0 (MQ below (tv D cy ld t [] (fun H => tk_f D H a0 6 9 (.int 0)) (tk_w t [(7, 0, 0), (20, 0, 0), (8, 12, 12)])) args s 0 0 (tk_w t [(7, 0, 0), (20, 0, 0), (8, 12, 12)])) (F0 m 6 ls []) := by
    intro N_l994
    induction N_l994 with
    | zero => intro v3 H locs hq0_l994 hq1_l994 hm_l994 hG hS hf2 ls hl; exfalso; omega
    | succ N_l994 ih_l994 =>
      intro v3 H locs hq0_l994 hq1_l994 hm_l994 hG hS hf2 ls hl
      refine lv_iload_n hx hb dX6_readTerm_6 rfl (lv_at hl 0 rfl) ?_
      refine lv_sipush (v := 400) hx hb dX6_readTerm_7 (by decide) ?_
      refine lv_icmp_ge (tgt := 94) hx hb dX6_readTerm_10 (by decide) (fun c9 => ?_) (fun c9 => ?_)
      · have hc995 : 400 ≤ v3.toInt := (fi_le (show (400 : Int32).toInt = 400 by decide) rfl).mp c9
        exact tk_vret hx hb hr hlocks (show tk_f D H a0 6 9 (.int 0) from hf2) hG hS dX6_readTerm_94
      · have hc995 : ¬ (400 ≤ v3.toInt) := fun h9 => c9 ((fi_le (show (400 : Int32).toInt = 400 by decide) rfl).mpr h9)
        refine lv_aload_n hx hb dX6_readTerm_13 rfl (lv_at hl 1 rfl) ?_
        refine lv_bipush (v := 42) hx hb dX6_readTerm_14 (by decide) ?_
        have hk_42 : (42 : Int32).toInt = 42 := by decide
        refine tk_Vi (As := [.int 42]) (rest := []) (ci := 6) ⟨hx, hb, hml, hown, hts⟩ hK hG hZ hS (k_X6_isSign l D cy ld t a0 42 ht_a0) trivial ⟨callB_of 1 hts (wl_in mw_590) rfl rfl rfl (htl _ mw_36) (htl _ mw_587) hd_yX6_isSign ⟨(Nat.le_of_ble_eq_true rfl), (Nat.le_of_ble_eq_true rfl)⟩, htl _ mw_588, htl _ mw_589⟩ ht_a0 (by decide) tk_no rfl (tk_w.pick [] rfl) rfl hl.1 rfl (Nat.le_of_ble_eq_true rfl) dX6_readTerm_16 ⟨(Nat.le_of_ble_eq_true rfl), (Nat.le_of_ble_eq_true rfl)⟩ (fun v996 H locs hpo hG hS hq9 => ?_)
        have hf2 := hf2.call hq9 tk_w.nil
        obtain ⟨hpo998, hpo999, hpo1000, hpo1001⟩ := hpo
        refine lv_if_ne (tgt := 40) hx hb dX6_readTerm_19 (by decide) (fun c9 => ?_) (fun c9 => ?_)
        · have hc1002 : ¬ (v996.toInt = 0) := fun h9 => c9 ((fi_eq rfl (show (0 : Int32).toInt = 0 by decide)).mpr h9)
          refine lv_aload_n hx hb dX6_readTerm_40 rfl (lv_at hl 1 rfl) ?_
          refine lv_bipush (v := 42) hx hb dX6_readTerm_41 (by decide) ?_
          have hk_42 : (42 : Int32).toInt = 42 := by decide
          refine tk_Vi (As := [.int 42]) (rest := []) (ci := 6) ⟨hx, hb, hml, hown, hts⟩ hK hG hZ hS (k_X6_isSign l D cy ld t a0 42 ht_a0) trivial ⟨callB_of 1 hts (wl_in mw_590) rfl rfl rfl (htl _ mw_36) (htl _ mw_587) hd_yX6_isSign ⟨(Nat.le_of_ble_eq_true rfl), (Nat.le_of_ble_eq_true rfl)⟩, htl _ mw_588, htl _ mw_589⟩ ht_a0 (by decide) tk_no rfl (tk_w.pick [] rfl) rfl hl.1 rfl (Nat.le_of_ble_eq_true rfl) dX6_readTerm_43 ⟨(Nat.le_of_ble_eq_true rfl), (Nat.le_of_ble_eq_true rfl)⟩ (fun v1003 H locs hpo hG hS hq9 => ?_)
          have hf2 := hf2.call hq9 tk_w.nil
          obtain ⟨hpo1005, hpo1006, hpo1007, hpo1008⟩ := hpo
          have hj1021 : ∀ (v1019 : Int32) (H : Heap) (locs : List Loc), 8 ≤ v1019.toInt → v1019.toInt ≤ 10 → tk_G D cy ld t [] H → va_S (tk_w t [(7, 0, 0), (20, 0, 0), (8, 12, 12)]) s.heap H locs → tk_f D H a0 6 9 (.int 0) → ∀ ls : Array Slot, lv_has ls 3 [(1, .int v3), (0, .ref a0)] → W p l e ({ frames := 34, cells := 0, slots := 0, locals := 2310 }) s m args below meth c H locs 0 0 (MQ below (tv D cy ld t [] (fun H => tk_f D H a0 6 9 (.int 0)) (tk_w t [(7, 0, 0), (20, 0, 0), (8, 12, 12)])) args s 0 0 (tk_w t [(7, 0, 0), (20, 0, 0), (8, 12, 12)])) (F0 m 70 ls [.int v1019]) := by
            intro v1019 H locs hq0_j1021 hq1_j1021 hG hS hf2 ls hl
            refine lv_istore_n (lv' := [(2, .int v1019), (1, .int v3), (0, .ref a0)]) hx hb dX6_readTerm_70 rfl hl (by decide) rfl (fun ls hl => ?_)
            refine lv_aload_n hx hb dX6_readTerm_71 rfl (lv_at hl 2 rfl) ?_
            have hk_0 : (0 : Int32).toInt = 0 := by decide
            refine tk_Vv (As := []) (rest := []) (ci := 6) ⟨hx, hb, hml, hown, hts⟩ hK hG hZ hS (k_X6_step l D cy ld t a0 0 ht_a0 (by omega) (by omega)) hf2 ⟨callB_of 0 hts (wl_in mw_494) rfl rfl rfl (htl _ mw_36) (htl _ mw_491) hd_yX6_step ⟨(Nat.le_of_ble_eq_true rfl), (Nat.le_of_ble_eq_true rfl)⟩, htl _ mw_492, htl _ mw_493⟩ ht_a0 (by decide) tk_no rfl (tk_w.pick [0] rfl) rfl hl.1 rfl (Nat.le_of_ble_eq_true rfl) dX6_readTerm_72 ⟨(Nat.le_of_ble_eq_true rfl), (Nat.le_of_ble_eq_true rfl)⟩ (fun H locs hpo hG hS hq9 => ?_)
            have hf1023 := hpo
            refine lv_aload_n hx hb dX6_readTerm_75 rfl (lv_at hl 2 rfl) ?_
            refine tk_Vv (As := []) (rest := []) (ci := 6) ⟨hx, hb, hml, hown, hts⟩ hK hG hZ hS (k_X6_readPart_0 l D cy ld t a0 ht_a0) hf1023 ⟨callB_of 0 hts (wl_in mw_595) rfl rfl rfl (htl _ mw_36) (htl _ mw_616) hd_yX6_readPart ⟨(Nat.le_of_ble_eq_true rfl), (Nat.le_of_ble_eq_true rfl)⟩, htl _ mw_617, htl _ mw_618⟩ ht_a0 (by decide) tk_no rfl (tk_w.pick [0, 1, 2] rfl) rfl hl.1 rfl (Nat.le_of_ble_eq_true rfl) dX6_readTerm_76 ⟨(Nat.le_of_ble_eq_true rfl), (Nat.le_of_ble_eq_true rfl)⟩ (fun H locs hpo hG hS hq9 => ?_)
            have hf1025 := hpo
            refine lv_aload_n hx hb dX6_readTerm_79 rfl (lv_at hl 2 rfl) ?_
            refine tk_get (ci := 6) (C := RX6) (T := TX6) (N := 11) (sp := (6, 8, 512, 12)) hx hb htl inX6 hown hK hG ht_a0 (by decide) tk_no rfl 0 (by decide) (htl _ mw_132) (fun _ h9 => h9) rfl dX6_readTerm_80 (fun v9 hf1026 hV9 => ?_)
            obtain ⟨b1027, rfl, ht_b1027⟩ := hV9
            have ht_b1027 : t b1027 = (8, 512, 12) := ht_b1027
            refine lv_iload_n hx hb dX6_readTerm_83 rfl (lv_at hl 0 rfl) ?_
            refine lv_iconst (v := 0) hx hb dX6_readTerm_84 (by decide) ?_
            have hk_0 : (0 : Int32).toInt = 0 := by decide
            refine tk_Vv (As := [.int v1019, .int 0]) (rest := []) (ci := 7) ⟨hx, hb, hml, hown, hts⟩ hK hG hZ hS (k_X7_put l D cy ld t b1027 v1019 0 ht_b1027) trivial ⟨callB_of 2 hts (wl_in mw_594) rfl rfl rfl (htl _ mw_131) (htl _ mw_591) hd_yX7_put ⟨(Nat.le_of_ble_eq_true rfl), (Nat.le_of_ble_eq_true rfl)⟩, htl _ mw_592, htl _ mw_593⟩ ht_b1027 (by decide) tk_no rfl (tk_w.pick [1, 2] rfl) rfl hl.1 rfl (Nat.le_of_ble_eq_true rfl) dX6_readTerm_85 ⟨(Nat.le_of_ble_eq_true rfl), (Nat.le_of_ble_eq_true rfl)⟩ (fun H locs hpo hG hS hq9 => ?_)
            have hf1025 := hf1025.call hq9 (tk_w.no ht_a0 (by decide))
            obtain ⟨v1029, h_v1029, e_v1029⟩ := tk_inc v3 1 (by decide) (by omega) (by omega)
            refine lv_iinc (v := v1029) (lv' := [(1, .int v1029), (2, .int v1019), (0, .ref a0)]) hx hb dX6_readTerm_88 hl (k := 1) rfl e_v1029 (by decide) rfl (fun ls hl => ?_)
            refine lv_goto (tgt := 6) hx hb dX6_readTerm_91 (by decide) ?_
            exact ih_l994 v1029 _ _ (by omega) (by omega) (by omega) hG hS hf1025 _ (lv_sub hl [0, 2] rfl)
          refine lv_if_eq (tgt := 54) hx hb dX6_readTerm_46 (by decide) (fun c9 => ?_) (fun c9 => ?_)
          · have hc1009 : v1003.toInt = 0 := (fi_eq rfl (show (0 : Int32).toInt = 0 by decide)).mp c9
            refine lv_aload_n hx hb dX6_readTerm_54 rfl (lv_at hl 1 rfl) ?_
            refine lv_bipush (v := 47) hx hb dX6_readTerm_55 (by decide) ?_
            have hk_47 : (47 : Int32).toInt = 47 := by decide
            refine tk_Vi (As := [.int 47]) (rest := []) (ci := 6) ⟨hx, hb, hml, hown, hts⟩ hK hG hZ hS (k_X6_isSign l D cy ld t a0 47 ht_a0) trivial ⟨callB_of 1 hts (wl_in mw_590) rfl rfl rfl (htl _ mw_36) (htl _ mw_587) hd_yX6_isSign ⟨(Nat.le_of_ble_eq_true rfl), (Nat.le_of_ble_eq_true rfl)⟩, htl _ mw_588, htl _ mw_589⟩ ht_a0 (by decide) tk_no rfl (tk_w.pick [] rfl) rfl hl.1 rfl (Nat.le_of_ble_eq_true rfl) dX6_readTerm_57 ⟨(Nat.le_of_ble_eq_true rfl), (Nat.le_of_ble_eq_true rfl)⟩ (fun v1030 H locs hpo hG hS hq9 => ?_)
            have hf2 := hf2.call hq9 tk_w.nil
            obtain ⟨hpo1032, hpo1033, hpo1034, hpo1035⟩ := hpo
            refine lv_if_eq (tgt := 68) hx hb dX6_readTerm_60 (by decide) (fun c9 => ?_) (fun c9 => ?_)
            · have hc1036 : v1030.toInt = 0 := (fi_eq rfl (show (0 : Int32).toInt = 0 by decide)).mp c9
              refine lv_bipush (v := 10) hx hb dX6_readTerm_68 (by decide) ?_
              have hk_10 : (10 : Int32).toInt = 10 := by decide
              exact hj1021 10 _ _ (by omega) (by omega) hG hS hf2 _ (lv_sub hl [0, 1] rfl)
            · have hc1036 : ¬ (v1030.toInt = 0) := fun h9 => c9 ((fi_eq rfl (show (0 : Int32).toInt = 0 by decide)).mpr h9)
              refine lv_bipush (v := 9) hx hb dX6_readTerm_63 (by decide) ?_
              refine lv_goto (tgt := 70) hx hb dX6_readTerm_65 (by decide) ?_
              have hk_9 : (9 : Int32).toInt = 9 := by decide
              exact hj1021 9 _ _ (by omega) (by omega) hG hS hf2 _ (lv_sub hl [0, 1] rfl)
          · have hc1009 : ¬ (v1003.toInt = 0) := fun h9 => c9 ((fi_eq rfl (show (0 : Int32).toInt = 0 by decide)).mpr h9)
            refine lv_bipush (v := 8) hx hb dX6_readTerm_49 (by decide) ?_
            refine lv_goto (tgt := 70) hx hb dX6_readTerm_51 (by decide) ?_
            have hk_8 : (8 : Int32).toInt = 8 := by decide
            exact hj1021 8 _ _ (by omega) (by omega) hG hS hf2 _ (lv_sub hl [0, 1] rfl)
        · have hc1002 : v996.toInt = 0 := (fi_eq rfl (show (0 : Int32).toInt = 0 by decide)).mp c9
          refine lv_aload_n hx hb dX6_readTerm_22 rfl (lv_at hl 1 rfl) ?_
          refine lv_bipush (v := 47) hx hb dX6_readTerm_23 (by decide) ?_
          have hk_47 : (47 : Int32).toInt = 47 := by decide
          refine tk_Vi (As := [.int 47]) (rest := []) (ci := 6) ⟨hx, hb, hml, hown, hts⟩ hK hG hZ hS (k_X6_isSign l D cy ld t a0 47 ht_a0) trivial ⟨callB_of 1 hts (wl_in mw_590) rfl rfl rfl (htl _ mw_36) (htl _ mw_587) hd_yX6_isSign ⟨(Nat.le_of_ble_eq_true rfl), (Nat.le_of_ble_eq_true rfl)⟩, htl _ mw_588, htl _ mw_589⟩ ht_a0 (by decide) tk_no rfl (tk_w.pick [] rfl) rfl hl.1 rfl (Nat.le_of_ble_eq_true rfl) dX6_readTerm_25 ⟨(Nat.le_of_ble_eq_true rfl), (Nat.le_of_ble_eq_true rfl)⟩ (fun v1037 H locs hpo hG hS hq9 => ?_)
          have hf2 := hf2.call hq9 tk_w.nil
          obtain ⟨hpo1039, hpo1040, hpo1041, hpo1042⟩ := hpo
          refine lv_if_ne (tgt := 40) hx hb dX6_readTerm_28 (by decide) (fun c9 => ?_) (fun c9 => ?_)
          · have hc1043 : ¬ (v1037.toInt = 0) := fun h9 => c9 ((fi_eq rfl (show (0 : Int32).toInt = 0 by decide)).mpr h9)
            refine lv_aload_n hx hb dX6_readTerm_40 rfl (lv_at hl 1 rfl) ?_
            refine lv_bipush (v := 42) hx hb dX6_readTerm_41 (by decide) ?_
            have hk_42 : (42 : Int32).toInt = 42 := by decide
            refine tk_Vi (As := [.int 42]) (rest := []) (ci := 6) ⟨hx, hb, hml, hown, hts⟩ hK hG hZ hS (k_X6_isSign l D cy ld t a0 42 ht_a0) trivial ⟨callB_of 1 hts (wl_in mw_590) rfl rfl rfl (htl _ mw_36) (htl _ mw_587) hd_yX6_isSign ⟨(Nat.le_of_ble_eq_true rfl), (Nat.le_of_ble_eq_true rfl)⟩, htl _ mw_588, htl _ mw_589⟩ ht_a0 (by decide) tk_no rfl (tk_w.pick [] rfl) rfl hl.1 rfl (Nat.le_of_ble_eq_true rfl) dX6_readTerm_43 ⟨(Nat.le_of_ble_eq_true rfl), (Nat.le_of_ble_eq_true rfl)⟩ (fun v1044 H locs hpo hG hS hq9 => ?_)
            have hf2 := hf2.call hq9 tk_w.nil
            obtain ⟨hpo1046, hpo1047, hpo1048, hpo1049⟩ := hpo
            have hj1062 : ∀ (v1060 : Int32) (H : Heap) (locs : List Loc), 8 ≤ v1060.toInt → v1060.toInt ≤ 10 → tk_G D cy ld t [] H → va_S (tk_w t [(7, 0, 0), (20, 0, 0), (8, 12, 12)]) s.heap H locs → tk_f D H a0 6 9 (.int 0) → ∀ ls : Array Slot, lv_has ls 3 [(1, .int v3), (0, .ref a0)] → W p l e ({ frames := 34, cells := 0, slots := 0, locals := 2310 }) s m args below meth c H locs 0 0 (MQ below (tv D cy ld t [] (fun H => tk_f D H a0 6 9 (.int 0)) (tk_w t [(7, 0, 0), (20, 0, 0), (8, 12, 12)])) args s 0 0 (tk_w t [(7, 0, 0), (20, 0, 0), (8, 12, 12)])) (F0 m 70 ls [.int v1060]) := by
              intro v1060 H locs hq0_j1062 hq1_j1062 hG hS hf2 ls hl
              refine lv_istore_n (lv' := [(2, .int v1060), (1, .int v3), (0, .ref a0)]) hx hb dX6_readTerm_70 rfl hl (by decide) rfl (fun ls hl => ?_)
              refine lv_aload_n hx hb dX6_readTerm_71 rfl (lv_at hl 2 rfl) ?_
              have hk_0 : (0 : Int32).toInt = 0 := by decide
              refine tk_Vv (As := []) (rest := []) (ci := 6) ⟨hx, hb, hml, hown, hts⟩ hK hG hZ hS (k_X6_step l D cy ld t a0 0 ht_a0 (by omega) (by omega)) hf2 ⟨callB_of 0 hts (wl_in mw_494) rfl rfl rfl (htl _ mw_36) (htl _ mw_491) hd_yX6_step ⟨(Nat.le_of_ble_eq_true rfl), (Nat.le_of_ble_eq_true rfl)⟩, htl _ mw_492, htl _ mw_493⟩ ht_a0 (by decide) tk_no rfl (tk_w.pick [0] rfl) rfl hl.1 rfl (Nat.le_of_ble_eq_true rfl) dX6_readTerm_72 ⟨(Nat.le_of_ble_eq_true rfl), (Nat.le_of_ble_eq_true rfl)⟩ (fun H locs hpo hG hS hq9 => ?_)
              have hf1064 := hpo
              refine lv_aload_n hx hb dX6_readTerm_75 rfl (lv_at hl 2 rfl) ?_
              refine tk_Vv (As := []) (rest := []) (ci := 6) ⟨hx, hb, hml, hown, hts⟩ hK hG hZ hS (k_X6_readPart_0 l D cy ld t a0 ht_a0) hf1064 ⟨callB_of 0 hts (wl_in mw_595) rfl rfl rfl (htl _ mw_36) (htl _ mw_616) hd_yX6_readPart ⟨(Nat.le_of_ble_eq_true rfl), (Nat.le_of_ble_eq_true rfl)⟩, htl _ mw_617, htl _ mw_618⟩ ht_a0 (by decide) tk_no rfl (tk_w.pick [0, 1, 2] rfl) rfl hl.1 rfl (Nat.le_of_ble_eq_true rfl) dX6_readTerm_76 ⟨(Nat.le_of_ble_eq_true rfl), (Nat.le_of_ble_eq_true rfl)⟩ (fun H locs hpo hG hS hq9 => ?_)
              have hf1066 := hpo
              refine lv_aload_n hx hb dX6_readTerm_79 rfl (lv_at hl 2 rfl) ?_
              refine tk_get (ci := 6) (C := RX6) (T := TX6) (N := 11) (sp := (6, 8, 512, 12)) hx hb htl inX6 hown hK hG ht_a0 (by decide) tk_no rfl 0 (by decide) (htl _ mw_132) (fun _ h9 => h9) rfl dX6_readTerm_80 (fun v9 hf1067 hV9 => ?_)
              obtain ⟨b1068, rfl, ht_b1068⟩ := hV9
              have ht_b1068 : t b1068 = (8, 512, 12) := ht_b1068
              refine lv_iload_n hx hb dX6_readTerm_83 rfl (lv_at hl 0 rfl) ?_
              refine lv_iconst (v := 0) hx hb dX6_readTerm_84 (by decide) ?_
              have hk_0 : (0 : Int32).toInt = 0 := by decide
              refine tk_Vv (As := [.int v1060, .int 0]) (rest := []) (ci := 7) ⟨hx, hb, hml, hown, hts⟩ hK hG hZ hS (k_X7_put l D cy ld t b1068 v1060 0 ht_b1068) trivial ⟨callB_of 2 hts (wl_in mw_594) rfl rfl rfl (htl _ mw_131) (htl _ mw_591) hd_yX7_put ⟨(Nat.le_of_ble_eq_true rfl), (Nat.le_of_ble_eq_true rfl)⟩, htl _ mw_592, htl _ mw_593⟩ ht_b1068 (by decide) tk_no rfl (tk_w.pick [1, 2] rfl) rfl hl.1 rfl (Nat.le_of_ble_eq_true rfl) dX6_readTerm_85 ⟨(Nat.le_of_ble_eq_true rfl), (Nat.le_of_ble_eq_true rfl)⟩ (fun H locs hpo hG hS hq9 => ?_)
              have hf1066 := hf1066.call hq9 (tk_w.no ht_a0 (by decide))
              obtain ⟨v1070, h_v1070, e_v1070⟩ := tk_inc v3 1 (by decide) (by omega) (by omega)
              refine lv_iinc (v := v1070) (lv' := [(1, .int v1070), (2, .int v1060), (0, .ref a0)]) hx hb dX6_readTerm_88 hl (k := 1) rfl e_v1070 (by decide) rfl (fun ls hl => ?_)
              refine lv_goto (tgt := 6) hx hb dX6_readTerm_91 (by decide) ?_
              exact ih_l994 v1070 _ _ (by omega) (by omega) (by omega) hG hS hf1066 _ (lv_sub hl [0, 2] rfl)
            refine lv_if_eq (tgt := 54) hx hb dX6_readTerm_46 (by decide) (fun c9 => ?_) (fun c9 => ?_)
            · have hc1050 : v1044.toInt = 0 := (fi_eq rfl (show (0 : Int32).toInt = 0 by decide)).mp c9
              refine lv_aload_n hx hb dX6_readTerm_54 rfl (lv_at hl 1 rfl) ?_
              refine lv_bipush (v := 47) hx hb dX6_readTerm_55 (by decide) ?_
              have hk_47 : (47 : Int32).toInt = 47 := by decide
              refine tk_Vi (As := [.int 47]) (rest := []) (ci := 6) ⟨hx, hb, hml, hown, hts⟩ hK hG hZ hS (k_X6_isSign l D cy ld t a0 47 ht_a0) trivial ⟨callB_of 1 hts (wl_in mw_590) rfl rfl rfl (htl _ mw_36) (htl _ mw_587) hd_yX6_isSign ⟨(Nat.le_of_ble_eq_true rfl), (Nat.le_of_ble_eq_true rfl)⟩, htl _ mw_588, htl _ mw_589⟩ ht_a0 (by decide) tk_no rfl (tk_w.pick [] rfl) rfl hl.1 rfl (Nat.le_of_ble_eq_true rfl) dX6_readTerm_57 ⟨(Nat.le_of_ble_eq_true rfl), (Nat.le_of_ble_eq_true rfl)⟩ (fun v1071 H locs hpo hG hS hq9 => ?_)
              have hf2 := hf2.call hq9 tk_w.nil
              obtain ⟨hpo1073, hpo1074, hpo1075, hpo1076⟩ := hpo
              refine lv_if_eq (tgt := 68) hx hb dX6_readTerm_60 (by decide) (fun c9 => ?_) (fun c9 => ?_)
              · have hc1077 : v1071.toInt = 0 := (fi_eq rfl (show (0 : Int32).toInt = 0 by decide)).mp c9
                refine lv_bipush (v := 10) hx hb dX6_readTerm_68 (by decide) ?_
                have hk_10 : (10 : Int32).toInt = 10 := by decide
                exact hj1062 10 _ _ (by omega) (by omega) hG hS hf2 _ (lv_sub hl [0, 1] rfl)
              · have hc1077 : ¬ (v1071.toInt = 0) := fun h9 => c9 ((fi_eq rfl (show (0 : Int32).toInt = 0 by decide)).mpr h9)
                refine lv_bipush (v := 9) hx hb dX6_readTerm_63 (by decide) ?_
                refine lv_goto (tgt := 70) hx hb dX6_readTerm_65 (by decide) ?_
                have hk_9 : (9 : Int32).toInt = 9 := by decide
                exact hj1062 9 _ _ (by omega) (by omega) hG hS hf2 _ (lv_sub hl [0, 1] rfl)
            · have hc1050 : ¬ (v1044.toInt = 0) := fun h9 => c9 ((fi_eq rfl (show (0 : Int32).toInt = 0 by decide)).mpr h9)
              refine lv_bipush (v := 8) hx hb dX6_readTerm_49 (by decide) ?_
              refine lv_goto (tgt := 70) hx hb dX6_readTerm_51 (by decide) ?_
              have hk_8 : (8 : Int32).toInt = 8 := by decide
              exact hj1062 8 _ _ (by omega) (by omega) hG hS hf2 _ (lv_sub hl [0, 1] rfl)
          · have hc1043 : v1037.toInt = 0 := (fi_eq rfl (show (0 : Int32).toInt = 0 by decide)).mp c9
            refine lv_aload_n hx hb dX6_readTerm_31 rfl (lv_at hl 1 rfl) ?_
            refine lv_bipush (v := 37) hx hb dX6_readTerm_32 (by decide) ?_
            have hk_37 : (37 : Int32).toInt = 37 := by decide
            refine tk_Vi (As := [.int 37]) (rest := []) (ci := 6) ⟨hx, hb, hml, hown, hts⟩ hK hG hZ hS (k_X6_isSign l D cy ld t a0 37 ht_a0) trivial ⟨callB_of 1 hts (wl_in mw_590) rfl rfl rfl (htl _ mw_36) (htl _ mw_587) hd_yX6_isSign ⟨(Nat.le_of_ble_eq_true rfl), (Nat.le_of_ble_eq_true rfl)⟩, htl _ mw_588, htl _ mw_589⟩ ht_a0 (by decide) tk_no rfl (tk_w.pick [] rfl) rfl hl.1 rfl (Nat.le_of_ble_eq_true rfl) dX6_readTerm_34 ⟨(Nat.le_of_ble_eq_true rfl), (Nat.le_of_ble_eq_true rfl)⟩ (fun v1078 H locs hpo hG hS hq9 => ?_)
            have hf2 := hf2.call hq9 tk_w.nil
            obtain ⟨hpo1080, hpo1081, hpo1082, hpo1083⟩ := hpo
            refine lv_if_eq (tgt := 94) hx hb dX6_readTerm_37 (by decide) (fun c9 => ?_) (fun c9 => ?_)
            · have hc1084 : v1078.toInt = 0 := (fi_eq rfl (show (0 : Int32).toInt = 0 by decide)).mp c9
              exact tk_vret hx hb hr hlocks (show tk_f D H a0 6 9 (.int 0) from hf2) hG hS dX6_readTerm_94
            · have hc1084 : ¬ (v1078.toInt = 0) := fun h9 => c9 ((fi_eq rfl (show (0 : Int32).toInt = 0 by decide)).mpr h9)
              refine lv_aload_n hx hb dX6_readTerm_40 rfl (lv_at hl 1 rfl) ?_
              refine lv_bipush (v := 42) hx hb dX6_readTerm_41 (by decide) ?_
              have hk_42 : (42 : Int32).toInt = 42 := by decide
              refine tk_Vi (As := [.int 42]) (rest := []) (ci := 6) ⟨hx, hb, hml, hown, hts⟩ hK hG hZ hS (k_X6_isSign l D cy ld t a0 42 ht_a0) trivial ⟨callB_of 1 hts (wl_in mw_590) rfl rfl rfl (htl _ mw_36) (htl _ mw_587) hd_yX6_isSign ⟨(Nat.le_of_ble_eq_true rfl), (Nat.le_of_ble_eq_true rfl)⟩, htl _ mw_588, htl _ mw_589⟩ ht_a0 (by decide) tk_no rfl (tk_w.pick [] rfl) rfl hl.1 rfl (Nat.le_of_ble_eq_true rfl) dX6_readTerm_43 ⟨(Nat.le_of_ble_eq_true rfl), (Nat.le_of_ble_eq_true rfl)⟩ (fun v1085 H locs hpo hG hS hq9 => ?_)
              have hf2 := hf2.call hq9 tk_w.nil
              obtain ⟨hpo1087, hpo1088, hpo1089, hpo1090⟩ := hpo
              have hj1103 : ∀ (v1101 : Int32) (H : Heap) (locs : List Loc), 8 ≤ v1101.toInt → v1101.toInt ≤ 10 → tk_G D cy ld t [] H → va_S (tk_w t [(7, 0, 0), (20, 0, 0), (8, 12, 12)]) s.heap H locs → tk_f D H a0 6 9 (.int 0) → ∀ ls : Array Slot, lv_has ls 3 [(1, .int v3), (0, .ref a0)] → W p l e ({ frames := 34, cells := 0, slots := 0, locals := 2310 }) s m args below meth c H locs 0 0 (MQ below (tv D cy ld t [] (fun H => tk_f D H a0 6 9 (.int 0)) (tk_w t [(7, 0, 0), (20, 0, 0), (8, 12, 12)])) args s 0 0 (tk_w t [(7, 0, 0), (20, 0, 0), (8, 12, 12)])) (F0 m 70 ls [.int v1101]) := by
                intro v1101 H locs hq0_j1103 hq1_j1103 hG hS hf2 ls hl
                refine lv_istore_n (lv' := [(2, .int v1101), (1, .int v3), (0, .ref a0)]) hx hb dX6_readTerm_70 rfl hl (by decide) rfl (fun ls hl => ?_)
                refine lv_aload_n hx hb dX6_readTerm_71 rfl (lv_at hl 2 rfl) ?_
                have hk_0 : (0 : Int32).toInt = 0 := by decide
                refine tk_Vv (As := []) (rest := []) (ci := 6) ⟨hx, hb, hml, hown, hts⟩ hK hG hZ hS (k_X6_step l D cy ld t a0 0 ht_a0 (by omega) (by omega)) hf2 ⟨callB_of 0 hts (wl_in mw_494) rfl rfl rfl (htl _ mw_36) (htl _ mw_491) hd_yX6_step ⟨(Nat.le_of_ble_eq_true rfl), (Nat.le_of_ble_eq_true rfl)⟩, htl _ mw_492, htl _ mw_493⟩ ht_a0 (by decide) tk_no rfl (tk_w.pick [0] rfl) rfl hl.1 rfl (Nat.le_of_ble_eq_true rfl) dX6_readTerm_72 ⟨(Nat.le_of_ble_eq_true rfl), (Nat.le_of_ble_eq_true rfl)⟩ (fun H locs hpo hG hS hq9 => ?_)
                have hf1105 := hpo
                refine lv_aload_n hx hb dX6_readTerm_75 rfl (lv_at hl 2 rfl) ?_
                refine tk_Vv (As := []) (rest := []) (ci := 6) ⟨hx, hb, hml, hown, hts⟩ hK hG hZ hS (k_X6_readPart_0 l D cy ld t a0 ht_a0) hf1105 ⟨callB_of 0 hts (wl_in mw_595) rfl rfl rfl (htl _ mw_36) (htl _ mw_616) hd_yX6_readPart ⟨(Nat.le_of_ble_eq_true rfl), (Nat.le_of_ble_eq_true rfl)⟩, htl _ mw_617, htl _ mw_618⟩ ht_a0 (by decide) tk_no rfl (tk_w.pick [0, 1, 2] rfl) rfl hl.1 rfl (Nat.le_of_ble_eq_true rfl) dX6_readTerm_76 ⟨(Nat.le_of_ble_eq_true rfl), (Nat.le_of_ble_eq_true rfl)⟩ (fun H locs hpo hG hS hq9 => ?_)
                have hf1107 := hpo
                refine lv_aload_n hx hb dX6_readTerm_79 rfl (lv_at hl 2 rfl) ?_
                refine tk_get (ci := 6) (C := RX6) (T := TX6) (N := 11) (sp := (6, 8, 512, 12)) hx hb htl inX6 hown hK hG ht_a0 (by decide) tk_no rfl 0 (by decide) (htl _ mw_132) (fun _ h9 => h9) rfl dX6_readTerm_80 (fun v9 hf1108 hV9 => ?_)
                obtain ⟨b1109, rfl, ht_b1109⟩ := hV9
                have ht_b1109 : t b1109 = (8, 512, 12) := ht_b1109
                refine lv_iload_n hx hb dX6_readTerm_83 rfl (lv_at hl 0 rfl) ?_
                refine lv_iconst (v := 0) hx hb dX6_readTerm_84 (by decide) ?_
                have hk_0 : (0 : Int32).toInt = 0 := by decide
                refine tk_Vv (As := [.int v1101, .int 0]) (rest := []) (ci := 7) ⟨hx, hb, hml, hown, hts⟩ hK hG hZ hS (k_X7_put l D cy ld t b1109 v1101 0 ht_b1109) trivial ⟨callB_of 2 hts (wl_in mw_594) rfl rfl rfl (htl _ mw_131) (htl _ mw_591) hd_yX7_put ⟨(Nat.le_of_ble_eq_true rfl), (Nat.le_of_ble_eq_true rfl)⟩, htl _ mw_592, htl _ mw_593⟩ ht_b1109 (by decide) tk_no rfl (tk_w.pick [1, 2] rfl) rfl hl.1 rfl (Nat.le_of_ble_eq_true rfl) dX6_readTerm_85 ⟨(Nat.le_of_ble_eq_true rfl), (Nat.le_of_ble_eq_true rfl)⟩ (fun H locs hpo hG hS hq9 => ?_)
                have hf1107 := hf1107.call hq9 (tk_w.no ht_a0 (by decide))
                obtain ⟨v1111, h_v1111, e_v1111⟩ := tk_inc v3 1 (by decide) (by omega) (by omega)
                refine lv_iinc (v := v1111) (lv' := [(1, .int v1111), (2, .int v1101), (0, .ref a0)]) hx hb dX6_readTerm_88 hl (k := 1) rfl e_v1111 (by decide) rfl (fun ls hl => ?_)
                refine lv_goto (tgt := 6) hx hb dX6_readTerm_91 (by decide) ?_
                exact ih_l994 v1111 _ _ (by omega) (by omega) (by omega) hG hS hf1107 _ (lv_sub hl [0, 2] rfl)
              refine lv_if_eq (tgt := 54) hx hb dX6_readTerm_46 (by decide) (fun c9 => ?_) (fun c9 => ?_)
              · have hc1091 : v1085.toInt = 0 := (fi_eq rfl (show (0 : Int32).toInt = 0 by decide)).mp c9
                refine lv_aload_n hx hb dX6_readTerm_54 rfl (lv_at hl 1 rfl) ?_
                refine lv_bipush (v := 47) hx hb dX6_readTerm_55 (by decide) ?_
                have hk_47 : (47 : Int32).toInt = 47 := by decide
                refine tk_Vi (As := [.int 47]) (rest := []) (ci := 6) ⟨hx, hb, hml, hown, hts⟩ hK hG hZ hS (k_X6_isSign l D cy ld t a0 47 ht_a0) trivial ⟨callB_of 1 hts (wl_in mw_590) rfl rfl rfl (htl _ mw_36) (htl _ mw_587) hd_yX6_isSign ⟨(Nat.le_of_ble_eq_true rfl), (Nat.le_of_ble_eq_true rfl)⟩, htl _ mw_588, htl _ mw_589⟩ ht_a0 (by decide) tk_no rfl (tk_w.pick [] rfl) rfl hl.1 rfl (Nat.le_of_ble_eq_true rfl) dX6_readTerm_57 ⟨(Nat.le_of_ble_eq_true rfl), (Nat.le_of_ble_eq_true rfl)⟩ (fun v1112 H locs hpo hG hS hq9 => ?_)
                have hf2 := hf2.call hq9 tk_w.nil
                obtain ⟨hpo1114, hpo1115, hpo1116, hpo1117⟩ := hpo
                refine lv_if_eq (tgt := 68) hx hb dX6_readTerm_60 (by decide) (fun c9 => ?_) (fun c9 => ?_)
                · have hc1118 : v1112.toInt = 0 := (fi_eq rfl (show (0 : Int32).toInt = 0 by decide)).mp c9
                  refine lv_bipush (v := 10) hx hb dX6_readTerm_68 (by decide) ?_
                  have hk_10 : (10 : Int32).toInt = 10 := by decide
                  exact hj1103 10 _ _ (by omega) (by omega) hG hS hf2 _ (lv_sub hl [0, 1] rfl)
                · have hc1118 : ¬ (v1112.toInt = 0) := fun h9 => c9 ((fi_eq rfl (show (0 : Int32).toInt = 0 by decide)).mpr h9)
                  refine lv_bipush (v := 9) hx hb dX6_readTerm_63 (by decide) ?_
                  refine lv_goto (tgt := 70) hx hb dX6_readTerm_65 (by decide) ?_
                  have hk_9 : (9 : Int32).toInt = 9 := by decide
                  exact hj1103 9 _ _ (by omega) (by omega) hG hS hf2 _ (lv_sub hl [0, 1] rfl)
              · have hc1091 : ¬ (v1085.toInt = 0) := fun h9 => c9 ((fi_eq rfl (show (0 : Int32).toInt = 0 by decide)).mpr h9)
                refine lv_bipush (v := 8) hx hb dX6_readTerm_49 (by decide) ?_
                refine lv_goto (tgt := 70) hx hb dX6_readTerm_51 (by decide) ?_
                have hk_8 : (8 : Int32).toInt = 8 := by decide
                exact hj1103 8 _ _ (by omega) (by omega) hG hS hf2 _ (lv_sub hl [0, 1] rfl)
  have hk_0 : (0 : Int32).toInt = 0 := by decide
  exact hl994 401 0 _ _ (by omega) (by omega) (by omega) hG hS hf2 _ (lv_sub hl [0, 1] rfl)
set_option maxHeartbeats 4000000 in
set_option maxRecDepth 100000 in
theorem k_X6_readSum_0 (l : Launch) (D : va_G) (cy : Nat → ClassId) (ld : Nat → Nat) (t : tk_T) (a0 : Nat) (ht_a0 : t a0 = (7, 0, 0)) : Met l yX6_readSum (wl yX6_readSum cX6_readSum 3 none) ({ frames := 35, cells := 0, slots := 0, locals := 2380 }) (tp D cy ld t [] [.ref a0] (fun H => tk_f D H a0 6 9 (.int 0))) (tv D cy ld t [] (fun H => tk_f D H a0 6 9 (.int 0)) (tk_w t [(7, 0, 0), (20, 0, 0), (8, 12, 12)])) 0 0 (tk_w t [(7, 0, 0), (20, 0, 0), (8, 12, 12)]) := by
  refine tk_met (y := yX6_readSum) (cc := cX6_readSum) (maxL := 3) (ret := none) (av := [.ref a0]) _ _ (by decide) (Nat.le_of_ble_eq_true rfl) ?_
  intro p e s m args below meth c hx hb hr hml hts htl hown hlocks hK H locs hH hG hS hB hZ ls hl
  have hown : s.vm.findClass RX6 = some m.cls := hown
  have hl : lv_has ls 3 [(0, .ref a0)] := hl
  have hg_0 := hB
  refine lv_aload_n hx hb dX6_readSum_0 rfl (lv_at hl 0 rfl) ?_
  refine tk_Vv (As := []) (rest := []) (ci := 6) ⟨hx, hb, hml, hown, hts⟩ hK hG hZ hS (k_X6_readTerm_0 l D cy ld t a0 ht_a0) hg_0 ⟨callB_of 0 hts (wl_in mw_615) rfl rfl rfl (htl _ mw_36) (htl _ mw_584) hd_yX6_readTerm ⟨(Nat.le_of_ble_eq_true rfl), (Nat.le_of_ble_eq_true rfl)⟩, htl _ mw_585, htl _ mw_586⟩ ht_a0 (by decide) tk_no rfl (tk_w.pick [0, 1, 2] rfl) rfl hl.1 rfl (Nat.le_of_ble_eq_true rfl) dX6_readSum_1 ⟨(Nat.le_of_ble_eq_true rfl), (Nat.le_of_ble_eq_true rfl)⟩ (fun H locs hpo hG hS hq9 => ?_)
  have hf2 := hpo
  refine lv_iconst (v := 0) hx hb dX6_readSum_4 (by decide) ?_
  refine lv_istore_n (lv' := [(1, .int 0), (0, .ref a0)]) hx hb dX6_readSum_5 rfl hl (by decide) rfl (fun ls hl => ?_)
  have hl410 : ∀ (N_l410 : Nat) (v3 : Int32) (H : Heap) (locs : List Loc), 0 ≤ v3.toInt → v3.toInt ≤ 400 → (-1) * v3.toInt + 400 < (N_l410 : Int) → tk_G D cy ld t [] H → va_S (tk_w t [(7, 0, 0), (20, 0, 0), (8, 12, 12)]) s.heap H locs → tk_f D H a0 6 9 (.int 0) → ∀ ls : Array Slot, lv_has ls 3 [(1, .int v3), (0, .ref a0)] → W p l e ({ frames := 35, cells := 0, slots := 0, locals := 2380 }) s m args below meth c H locs 0 0 (MQ below (tv D cy ld t [] (fun H => tk_f D H a0 6 9 (.int 0)) (tk_w t [(7, 0, 0), (20, 0, 0), (8, 12, 12)])) args s 0 0 (tk_w t [(7, 0, 0), (20, 0, 0), (8, 12, 12)])) (F0 m 6 ls []) := by
    intro N_l410
    induction N_l410 with
    | zero => intro v3 H locs hq0_l410 hq1_l410 hm_l410 hG hS hf2 ls hl; exfalso; omega
    | succ N_l410 ih_l410 =>
      intro v3 H locs hq0_l410 hq1_l410 hm_l410 hG hS hf2 ls hl
      refine lv_iload_n hx hb dX6_readSum_6 rfl (lv_at hl 0 rfl) ?_
      refine lv_sipush (v := 400) hx hb dX6_readSum_7 (by decide) ?_
      refine lv_icmp_ge (tgt := 71) hx hb dX6_readSum_10 (by decide) (fun c9 => ?_) (fun c9 => ?_)
      · have hc411 : 400 ≤ v3.toInt := (fi_le (show (400 : Int32).toInt = 400 by decide) rfl).mp c9
        exact tk_vret hx hb hr hlocks (show tk_f D H a0 6 9 (.int 0) from hf2) hG hS dX6_readSum_71
      · have hc411 : ¬ (400 ≤ v3.toInt) := fun h9 => c9 ((fi_le (show (400 : Int32).toInt = 400 by decide) rfl).mpr h9)
        refine lv_aload_n hx hb dX6_readSum_13 rfl (lv_at hl 1 rfl) ?_
        refine lv_bipush (v := 43) hx hb dX6_readSum_14 (by decide) ?_
        have hk_43 : (43 : Int32).toInt = 43 := by decide
        refine tk_Vi (As := [.int 43]) (rest := []) (ci := 6) ⟨hx, hb, hml, hown, hts⟩ hK hG hZ hS (k_X6_isSign l D cy ld t a0 43 ht_a0) trivial ⟨callB_of 1 hts (wl_in mw_590) rfl rfl rfl (htl _ mw_36) (htl _ mw_587) hd_yX6_isSign ⟨(Nat.le_of_ble_eq_true rfl), (Nat.le_of_ble_eq_true rfl)⟩, htl _ mw_588, htl _ mw_589⟩ ht_a0 (by decide) tk_no rfl (tk_w.pick [] rfl) rfl hl.1 rfl (Nat.le_of_ble_eq_true rfl) dX6_readSum_16 ⟨(Nat.le_of_ble_eq_true rfl), (Nat.le_of_ble_eq_true rfl)⟩ (fun v412 H locs hpo hG hS hq9 => ?_)
        have hf2 := hf2.call hq9 tk_w.nil
        obtain ⟨hpo414, hpo415, hpo416, hpo417⟩ := hpo
        refine lv_if_ne (tgt := 31) hx hb dX6_readSum_19 (by decide) (fun c9 => ?_) (fun c9 => ?_)
        · have hc418 : ¬ (v412.toInt = 0) := fun h9 => c9 ((fi_eq rfl (show (0 : Int32).toInt = 0 by decide)).mpr h9)
          refine lv_aload_n hx hb dX6_readSum_31 rfl (lv_at hl 1 rfl) ?_
          refine lv_bipush (v := 43) hx hb dX6_readSum_32 (by decide) ?_
          have hk_43 : (43 : Int32).toInt = 43 := by decide
          refine tk_Vi (As := [.int 43]) (rest := []) (ci := 6) ⟨hx, hb, hml, hown, hts⟩ hK hG hZ hS (k_X6_isSign l D cy ld t a0 43 ht_a0) trivial ⟨callB_of 1 hts (wl_in mw_590) rfl rfl rfl (htl _ mw_36) (htl _ mw_587) hd_yX6_isSign ⟨(Nat.le_of_ble_eq_true rfl), (Nat.le_of_ble_eq_true rfl)⟩, htl _ mw_588, htl _ mw_589⟩ ht_a0 (by decide) tk_no rfl (tk_w.pick [] rfl) rfl hl.1 rfl (Nat.le_of_ble_eq_true rfl) dX6_readSum_34 ⟨(Nat.le_of_ble_eq_true rfl), (Nat.le_of_ble_eq_true rfl)⟩ (fun v419 H locs hpo hG hS hq9 => ?_)
          have hf2 := hf2.call hq9 tk_w.nil
          obtain ⟨hpo421, hpo422, hpo423, hpo424⟩ := hpo
          have hj428 : ∀ (v427 : Int32), 6 ≤ v427.toInt → v427.toInt ≤ 7 → ∀ ls : Array Slot, lv_has ls 3 [(1, .int v3), (0, .ref a0)] → W p l e ({ frames := 35, cells := 0, slots := 0, locals := 2380 }) s m args below meth c H locs 0 0 (MQ below (tv D cy ld t [] (fun H => tk_f D H a0 6 9 (.int 0)) (tk_w t [(7, 0, 0), (20, 0, 0), (8, 12, 12)])) args s 0 0 (tk_w t [(7, 0, 0), (20, 0, 0), (8, 12, 12)])) (F0 m 47 ls [.int v427]) := by
            intro v427 hq0_j428 hq1_j428 ls hl
            refine lv_istore_n (lv' := [(2, .int v427), (1, .int v3), (0, .ref a0)]) hx hb dX6_readSum_47 rfl hl (by decide) rfl (fun ls hl => ?_)
            refine lv_aload_n hx hb dX6_readSum_48 rfl (lv_at hl 2 rfl) ?_
            have hk_0 : (0 : Int32).toInt = 0 := by decide
            refine tk_Vv (As := []) (rest := []) (ci := 6) ⟨hx, hb, hml, hown, hts⟩ hK hG hZ hS (k_X6_step l D cy ld t a0 0 ht_a0 (by omega) (by omega)) hf2 ⟨callB_of 0 hts (wl_in mw_494) rfl rfl rfl (htl _ mw_36) (htl _ mw_491) hd_yX6_step ⟨(Nat.le_of_ble_eq_true rfl), (Nat.le_of_ble_eq_true rfl)⟩, htl _ mw_492, htl _ mw_493⟩ ht_a0 (by decide) tk_no rfl (tk_w.pick [0] rfl) rfl hl.1 rfl (Nat.le_of_ble_eq_true rfl) dX6_readSum_49 ⟨(Nat.le_of_ble_eq_true rfl), (Nat.le_of_ble_eq_true rfl)⟩ (fun H locs hpo hG hS hq9 => ?_)
            have hf430 := hpo
            refine lv_aload_n hx hb dX6_readSum_52 rfl (lv_at hl 2 rfl) ?_
            refine tk_Vv (As := []) (rest := []) (ci := 6) ⟨hx, hb, hml, hown, hts⟩ hK hG hZ hS (k_X6_readTerm_0 l D cy ld t a0 ht_a0) hf430 ⟨callB_of 0 hts (wl_in mw_615) rfl rfl rfl (htl _ mw_36) (htl _ mw_584) hd_yX6_readTerm ⟨(Nat.le_of_ble_eq_true rfl), (Nat.le_of_ble_eq_true rfl)⟩, htl _ mw_585, htl _ mw_586⟩ ht_a0 (by decide) tk_no rfl (tk_w.pick [0, 1, 2] rfl) rfl hl.1 rfl (Nat.le_of_ble_eq_true rfl) dX6_readSum_53 ⟨(Nat.le_of_ble_eq_true rfl), (Nat.le_of_ble_eq_true rfl)⟩ (fun H locs hpo hG hS hq9 => ?_)
            have hf432 := hpo
            refine lv_aload_n hx hb dX6_readSum_56 rfl (lv_at hl 2 rfl) ?_
            refine tk_get (ci := 6) (C := RX6) (T := TX6) (N := 11) (sp := (6, 8, 512, 12)) hx hb htl inX6 hown hK hG ht_a0 (by decide) tk_no rfl 0 (by decide) (htl _ mw_132) (fun _ h9 => h9) rfl dX6_readSum_57 (fun v9 hf433 hV9 => ?_)
            obtain ⟨b434, rfl, ht_b434⟩ := hV9
            have ht_b434 : t b434 = (8, 512, 12) := ht_b434
            refine lv_iload_n hx hb dX6_readSum_60 rfl (lv_at hl 0 rfl) ?_
            refine lv_iconst (v := 0) hx hb dX6_readSum_61 (by decide) ?_
            have hk_0 : (0 : Int32).toInt = 0 := by decide
            refine tk_Vv (As := [.int v427, .int 0]) (rest := []) (ci := 7) ⟨hx, hb, hml, hown, hts⟩ hK hG hZ hS (k_X7_put l D cy ld t b434 v427 0 ht_b434) trivial ⟨callB_of 2 hts (wl_in mw_594) rfl rfl rfl (htl _ mw_131) (htl _ mw_591) hd_yX7_put ⟨(Nat.le_of_ble_eq_true rfl), (Nat.le_of_ble_eq_true rfl)⟩, htl _ mw_592, htl _ mw_593⟩ ht_b434 (by decide) tk_no rfl (tk_w.pick [1, 2] rfl) rfl hl.1 rfl (Nat.le_of_ble_eq_true rfl) dX6_readSum_62 ⟨(Nat.le_of_ble_eq_true rfl), (Nat.le_of_ble_eq_true rfl)⟩ (fun H locs hpo hG hS hq9 => ?_)
            have hf432 := hf432.call hq9 (tk_w.no ht_a0 (by decide))
            obtain ⟨v436, h_v436, e_v436⟩ := tk_inc v3 1 (by decide) (by omega) (by omega)
            refine lv_iinc (v := v436) (lv' := [(1, .int v436), (2, .int v427), (0, .ref a0)]) hx hb dX6_readSum_65 hl (k := 1) rfl e_v436 (by decide) rfl (fun ls hl => ?_)
            refine lv_goto (tgt := 6) hx hb dX6_readSum_68 (by decide) ?_
            exact ih_l410 v436 _ _ (by omega) (by omega) (by omega) hG hS hf432 _ (lv_sub hl [0, 2] rfl)
          refine lv_if_eq (tgt := 45) hx hb dX6_readSum_37 (by decide) (fun c9 => ?_) (fun c9 => ?_)
          · have hc425 : v419.toInt = 0 := (fi_eq rfl (show (0 : Int32).toInt = 0 by decide)).mp c9
            refine lv_bipush (v := 7) hx hb dX6_readSum_45 (by decide) ?_
            have hk_7 : (7 : Int32).toInt = 7 := by decide
            exact hj428 7 (by omega) (by omega) _ (lv_sub hl [0, 1] rfl)
          · have hc425 : ¬ (v419.toInt = 0) := fun h9 => c9 ((fi_eq rfl (show (0 : Int32).toInt = 0 by decide)).mpr h9)
            refine lv_bipush (v := 6) hx hb dX6_readSum_40 (by decide) ?_
            refine lv_goto (tgt := 47) hx hb dX6_readSum_42 (by decide) ?_
            have hk_6 : (6 : Int32).toInt = 6 := by decide
            exact hj428 6 (by omega) (by omega) _ (lv_sub hl [0, 1] rfl)
        · have hc418 : v412.toInt = 0 := (fi_eq rfl (show (0 : Int32).toInt = 0 by decide)).mp c9
          refine lv_aload_n hx hb dX6_readSum_22 rfl (lv_at hl 1 rfl) ?_
          refine lv_bipush (v := 45) hx hb dX6_readSum_23 (by decide) ?_
          have hk_45 : (45 : Int32).toInt = 45 := by decide
          refine tk_Vi (As := [.int 45]) (rest := []) (ci := 6) ⟨hx, hb, hml, hown, hts⟩ hK hG hZ hS (k_X6_isSign l D cy ld t a0 45 ht_a0) trivial ⟨callB_of 1 hts (wl_in mw_590) rfl rfl rfl (htl _ mw_36) (htl _ mw_587) hd_yX6_isSign ⟨(Nat.le_of_ble_eq_true rfl), (Nat.le_of_ble_eq_true rfl)⟩, htl _ mw_588, htl _ mw_589⟩ ht_a0 (by decide) tk_no rfl (tk_w.pick [] rfl) rfl hl.1 rfl (Nat.le_of_ble_eq_true rfl) dX6_readSum_25 ⟨(Nat.le_of_ble_eq_true rfl), (Nat.le_of_ble_eq_true rfl)⟩ (fun v437 H locs hpo hG hS hq9 => ?_)
          have hf2 := hf2.call hq9 tk_w.nil
          obtain ⟨hpo439, hpo440, hpo441, hpo442⟩ := hpo
          refine lv_if_eq (tgt := 71) hx hb dX6_readSum_28 (by decide) (fun c9 => ?_) (fun c9 => ?_)
          · have hc443 : v437.toInt = 0 := (fi_eq rfl (show (0 : Int32).toInt = 0 by decide)).mp c9
            exact tk_vret hx hb hr hlocks (show tk_f D H a0 6 9 (.int 0) from hf2) hG hS dX6_readSum_71
          · have hc443 : ¬ (v437.toInt = 0) := fun h9 => c9 ((fi_eq rfl (show (0 : Int32).toInt = 0 by decide)).mpr h9)
            refine lv_aload_n hx hb dX6_readSum_31 rfl (lv_at hl 1 rfl) ?_
            refine lv_bipush (v := 43) hx hb dX6_readSum_32 (by decide) ?_
            have hk_43 : (43 : Int32).toInt = 43 := by decide
            refine tk_Vi (As := [.int 43]) (rest := []) (ci := 6) ⟨hx, hb, hml, hown, hts⟩ hK hG hZ hS (k_X6_isSign l D cy ld t a0 43 ht_a0) trivial ⟨callB_of 1 hts (wl_in mw_590) rfl rfl rfl (htl _ mw_36) (htl _ mw_587) hd_yX6_isSign ⟨(Nat.le_of_ble_eq_true rfl), (Nat.le_of_ble_eq_true rfl)⟩, htl _ mw_588, htl _ mw_589⟩ ht_a0 (by decide) tk_no rfl (tk_w.pick [] rfl) rfl hl.1 rfl (Nat.le_of_ble_eq_true rfl) dX6_readSum_34 ⟨(Nat.le_of_ble_eq_true rfl), (Nat.le_of_ble_eq_true rfl)⟩ (fun v444 H locs hpo hG hS hq9 => ?_)
            have hf2 := hf2.call hq9 tk_w.nil
            obtain ⟨hpo446, hpo447, hpo448, hpo449⟩ := hpo
            have hj453 : ∀ (v452 : Int32), 6 ≤ v452.toInt → v452.toInt ≤ 7 → ∀ ls : Array Slot, lv_has ls 3 [(1, .int v3), (0, .ref a0)] → W p l e ({ frames := 35, cells := 0, slots := 0, locals := 2380 }) s m args below meth c H locs 0 0 (MQ below (tv D cy ld t [] (fun H => tk_f D H a0 6 9 (.int 0)) (tk_w t [(7, 0, 0), (20, 0, 0), (8, 12, 12)])) args s 0 0 (tk_w t [(7, 0, 0), (20, 0, 0), (8, 12, 12)])) (F0 m 47 ls [.int v452]) := by
              intro v452 hq0_j453 hq1_j453 ls hl
              refine lv_istore_n (lv' := [(2, .int v452), (1, .int v3), (0, .ref a0)]) hx hb dX6_readSum_47 rfl hl (by decide) rfl (fun ls hl => ?_)
              refine lv_aload_n hx hb dX6_readSum_48 rfl (lv_at hl 2 rfl) ?_
              have hk_0 : (0 : Int32).toInt = 0 := by decide
              refine tk_Vv (As := []) (rest := []) (ci := 6) ⟨hx, hb, hml, hown, hts⟩ hK hG hZ hS (k_X6_step l D cy ld t a0 0 ht_a0 (by omega) (by omega)) hf2 ⟨callB_of 0 hts (wl_in mw_494) rfl rfl rfl (htl _ mw_36) (htl _ mw_491) hd_yX6_step ⟨(Nat.le_of_ble_eq_true rfl), (Nat.le_of_ble_eq_true rfl)⟩, htl _ mw_492, htl _ mw_493⟩ ht_a0 (by decide) tk_no rfl (tk_w.pick [0] rfl) rfl hl.1 rfl (Nat.le_of_ble_eq_true rfl) dX6_readSum_49 ⟨(Nat.le_of_ble_eq_true rfl), (Nat.le_of_ble_eq_true rfl)⟩ (fun H locs hpo hG hS hq9 => ?_)
              have hf455 := hpo
              refine lv_aload_n hx hb dX6_readSum_52 rfl (lv_at hl 2 rfl) ?_
              refine tk_Vv (As := []) (rest := []) (ci := 6) ⟨hx, hb, hml, hown, hts⟩ hK hG hZ hS (k_X6_readTerm_0 l D cy ld t a0 ht_a0) hf455 ⟨callB_of 0 hts (wl_in mw_615) rfl rfl rfl (htl _ mw_36) (htl _ mw_584) hd_yX6_readTerm ⟨(Nat.le_of_ble_eq_true rfl), (Nat.le_of_ble_eq_true rfl)⟩, htl _ mw_585, htl _ mw_586⟩ ht_a0 (by decide) tk_no rfl (tk_w.pick [0, 1, 2] rfl) rfl hl.1 rfl (Nat.le_of_ble_eq_true rfl) dX6_readSum_53 ⟨(Nat.le_of_ble_eq_true rfl), (Nat.le_of_ble_eq_true rfl)⟩ (fun H locs hpo hG hS hq9 => ?_)
              have hf457 := hpo
              refine lv_aload_n hx hb dX6_readSum_56 rfl (lv_at hl 2 rfl) ?_
              refine tk_get (ci := 6) (C := RX6) (T := TX6) (N := 11) (sp := (6, 8, 512, 12)) hx hb htl inX6 hown hK hG ht_a0 (by decide) tk_no rfl 0 (by decide) (htl _ mw_132) (fun _ h9 => h9) rfl dX6_readSum_57 (fun v9 hf458 hV9 => ?_)
              obtain ⟨b459, rfl, ht_b459⟩ := hV9
              have ht_b459 : t b459 = (8, 512, 12) := ht_b459
              refine lv_iload_n hx hb dX6_readSum_60 rfl (lv_at hl 0 rfl) ?_
              refine lv_iconst (v := 0) hx hb dX6_readSum_61 (by decide) ?_
              have hk_0 : (0 : Int32).toInt = 0 := by decide
              refine tk_Vv (As := [.int v452, .int 0]) (rest := []) (ci := 7) ⟨hx, hb, hml, hown, hts⟩ hK hG hZ hS (k_X7_put l D cy ld t b459 v452 0 ht_b459) trivial ⟨callB_of 2 hts (wl_in mw_594) rfl rfl rfl (htl _ mw_131) (htl _ mw_591) hd_yX7_put ⟨(Nat.le_of_ble_eq_true rfl), (Nat.le_of_ble_eq_true rfl)⟩, htl _ mw_592, htl _ mw_593⟩ ht_b459 (by decide) tk_no rfl (tk_w.pick [1, 2] rfl) rfl hl.1 rfl (Nat.le_of_ble_eq_true rfl) dX6_readSum_62 ⟨(Nat.le_of_ble_eq_true rfl), (Nat.le_of_ble_eq_true rfl)⟩ (fun H locs hpo hG hS hq9 => ?_)
              have hf457 := hf457.call hq9 (tk_w.no ht_a0 (by decide))
              obtain ⟨v461, h_v461, e_v461⟩ := tk_inc v3 1 (by decide) (by omega) (by omega)
              refine lv_iinc (v := v461) (lv' := [(1, .int v461), (2, .int v452), (0, .ref a0)]) hx hb dX6_readSum_65 hl (k := 1) rfl e_v461 (by decide) rfl (fun ls hl => ?_)
              refine lv_goto (tgt := 6) hx hb dX6_readSum_68 (by decide) ?_
              exact ih_l410 v461 _ _ (by omega) (by omega) (by omega) hG hS hf457 _ (lv_sub hl [0, 2] rfl)
            refine lv_if_eq (tgt := 45) hx hb dX6_readSum_37 (by decide) (fun c9 => ?_) (fun c9 => ?_)
            · have hc450 : v444.toInt = 0 := (fi_eq rfl (show (0 : Int32).toInt = 0 by decide)).mp c9
              refine lv_bipush (v := 7) hx hb dX6_readSum_45 (by decide) ?_
              have hk_7 : (7 : Int32).toInt = 7 := by decide
              exact hj453 7 (by omega) (by omega) _ (lv_sub hl [0, 1] rfl)
            · have hc450 : ¬ (v444.toInt = 0) := fun h9 => c9 ((fi_eq rfl (show (0 : Int32).toInt = 0 by decide)).mpr h9)
              refine lv_bipush (v := 6) hx hb dX6_readSum_40 (by decide) ?_
              refine lv_goto (tgt := 47) hx hb dX6_readSum_42 (by decide) ?_
              have hk_6 : (6 : Int32).toInt = 6 := by decide
              exact hj453 6 (by omega) (by omega) _ (lv_sub hl [0, 1] rfl)
  have hk_0 : (0 : Int32).toInt = 0 := by decide
  exact hl410 401 0 _ _ (by omega) (by omega) (by omega) hG hS hf2 _ (lv_sub hl [0, 1] rfl)
theorem dX6_readPlain_0 : decode cX6_readPlain 0 = .ok (.iconst 0, 1) := by decide +kernel
theorem dX6_readPlain_1 : decode cX6_readPlain 1 = .ok (.istore_n 1, 1) := by decide +kernel
theorem dX6_readPlain_2 : decode cX6_readPlain 2 = .ok (.iconst 0, 1) := by decide +kernel
theorem dX6_readPlain_3 : decode cX6_readPlain 3 = .ok (.istore_n 2, 1) := by decide +kernel
theorem dX6_readPlain_4 : decode cX6_readPlain 4 = .ok (.iload_n 2, 1) := by decide +kernel
theorem dX6_readPlain_5 : decode cX6_readPlain 5 = .ok (.sipush 400, 3) := by decide +kernel
theorem dX6_readPlain_40 : decode cX6_readPlain 40 = .ok (.aload_n 0, 1) := by decide +kernel
theorem dX6_readPlain_41 : decode cX6_readPlain 41 = .ok (.bipush 40, 2) := by decide +kernel
theorem dX6_readPlain_43 : decode cX6_readPlain 43 = .ok (.invokevirtual 83, 3) := by decide +kernel
theorem dX6_readPlain_46 : decode cX6_readPlain 46 = .ok (.ifCond .eq 33, 3) := by decide +kernel
theorem dX6_readPlain_79 : decode cX6_readPlain 79 = .ok (.aload_n 0, 1) := by decide +kernel
theorem dX6_readPlain_80 : decode cX6_readPlain 80 = .ok (.invokevirtual 154, 3) := by decide +kernel
theorem dX6_readPlain_83 : decode cX6_readPlain 83 = .ok (.aload_n 0, 1) := by decide +kernel
theorem dX6_readPlain_84 : decode cX6_readPlain 84 = .ok (.bipush 60, 2) := by decide +kernel
theorem dX6_readPlain_86 : decode cX6_readPlain 86 = .ok (.invokevirtual 83, 3) := by decide +kernel
theorem dX6_readPlain_113 : decode cX6_readPlain 113 = .ok (.istore_n 2, 1) := by decide +kernel
theorem dX6_readPlain_114 : decode cX6_readPlain 114 = .ok (.iload_n 2, 1) := by decide +kernel
theorem dX6_readPlain_115 : decode cX6_readPlain 115 = .ok (.bipush 13, 2) := by decide +kernel
theorem dX6_readPlain_117 : decode cX6_readPlain 117 = .ok (.if_icmp .ne 17, 3) := by decide +kernel
theorem dX6_readPlain_134 : decode cX6_readPlain 134 = .ok (.aload_n 0, 1) := by decide +kernel
theorem dX6_readPlain_135 : decode cX6_readPlain 135 = .ok (.invokevirtual 53, 3) := by decide +kernel
theorem dX6_readPlain_138 : decode cX6_readPlain 138 = .ok (.aload_n 0, 1) := by decide +kernel
theorem dX6_readPlain_139 : decode cX6_readPlain 139 = .ok (.invokevirtual 154, 3) := by decide +kernel
theorem dX6_readPlain_142 : decode cX6_readPlain 142 = .ok (.aload_n 0, 1) := by decide +kernel
theorem dX6_readPlain_143 : decode cX6_readPlain 143 = .ok (.getfield 16, 3) := by decide +kernel
theorem dX6_readPlain_146 : decode cX6_readPlain 146 = .ok (.iload_n 2, 1) := by decide +kernel
theorem dX6_readPlain_147 : decode cX6_readPlain 147 = .ok (.iconst 0, 1) := by decide +kernel
theorem dX6_readPlain_148 : decode cX6_readPlain 148 = .ok (.invokevirtual 140, 3) := by decide +kernel
theorem dX6_readPlain_151 : decode cX6_readPlain 151 = .ok (.iload_n 1, 1) := by decide +kernel
theorem dX6_readPlain_152 : decode cX6_readPlain 152 = .ok (.ifCond .eq 12, 3) := by decide +kernel
theorem dX6_readPlain_164 : decode cX6_readPlain 164 = .ok (.return_, 1) := by decide +kernel
theorem dX6_readPlain_155 : decode cX6_readPlain 155 = .ok (.aload_n 0, 1) := by decide +kernel
theorem dX6_readPlain_156 : decode cX6_readPlain 156 = .ok (.getfield 16, 3) := by decide +kernel
theorem dX6_readPlain_159 : decode cX6_readPlain 159 = .ok (.iconst 3, 1) := by decide +kernel
theorem dX6_readPlain_160 : decode cX6_readPlain 160 = .ok (.iconst 0, 1) := by decide +kernel
theorem dX6_readPlain_161 : decode cX6_readPlain 161 = .ok (.invokevirtual 140, 3) := by decide +kernel
theorem dX6_readPlain_120 : decode cX6_readPlain 120 = .ok (.aload_n 0, 1) := by decide +kernel
theorem dX6_readPlain_121 : decode cX6_readPlain 121 = .ok (.bipush 61, 2) := by decide +kernel
theorem dX6_readPlain_123 : decode cX6_readPlain 123 = .ok (.invokevirtual 83, 3) := by decide +kernel
theorem dX6_readPlain_126 : decode cX6_readPlain 126 = .ok (.ifCond .ne 8, 3) := by decide +kernel
theorem dX6_readPlain_129 : decode cX6_readPlain 129 = .ok (.aload_n 0, 1) := by decide +kernel
theorem dX6_readPlain_130 : decode cX6_readPlain 130 = .ok (.invokevirtual 60, 3) := by decide +kernel
theorem dX6_readPlain_133 : decode cX6_readPlain 133 = .ok (.return_, 1) := by decide +kernel
theorem dX6_readPlain_89 : decode cX6_readPlain 89 = .ok (.ifCond .eq 8, 3) := by decide +kernel
theorem dX6_readPlain_97 : decode cX6_readPlain 97 = .ok (.aload_n 0, 1) := by decide +kernel
theorem dX6_readPlain_98 : decode cX6_readPlain 98 = .ok (.bipush 62, 2) := by decide +kernel
theorem dX6_readPlain_100 : decode cX6_readPlain 100 = .ok (.invokevirtual 83, 3) := by decide +kernel
theorem dX6_readPlain_103 : decode cX6_readPlain 103 = .ok (.ifCond .eq 8, 3) := by decide +kernel
theorem dX6_readPlain_111 : decode cX6_readPlain 111 = .ok (.bipush 13, 2) := by decide +kernel
theorem dX6_readPlain_106 : decode cX6_readPlain 106 = .ok (.bipush 12, 2) := by decide +kernel
theorem dX6_readPlain_108 : decode cX6_readPlain 108 = .ok (.goto 5, 3) := by decide +kernel
theorem dX6_readPlain_92 : decode cX6_readPlain 92 = .ok (.bipush 11, 2) := by decide +kernel
theorem dX6_readPlain_94 : decode cX6_readPlain 94 = .ok (.goto 19, 3) := by decide +kernel
theorem dX6_readPlain_49 : decode cX6_readPlain 49 = .ok (.aload_n 0, 1) := by decide +kernel
theorem dX6_readPlain_50 : decode cX6_readPlain 50 = .ok (.invokevirtual 175, 3) := by decide +kernel
theorem dX6_readPlain_53 : decode cX6_readPlain 53 = .ok (.ifCond .eq 98, 3) := by decide +kernel
theorem dX6_readPlain_8 : decode cX6_readPlain 8 = .ok (.if_icmp .ge 32, 3) := by decide +kernel
theorem dX6_readPlain_11 : decode cX6_readPlain 11 = .ok (.aload_n 0, 1) := by decide +kernel
theorem dX6_readPlain_12 : decode cX6_readPlain 12 = .ok (.ldc 173, 2) := by decide +kernel
theorem dX6_readPlain_14 : decode cX6_readPlain 14 = .ok (.invokevirtual 104, 3) := by decide +kernel
theorem dX6_readPlain_17 : decode cX6_readPlain 17 = .ok (.ifCond .eq 23, 3) := by decide +kernel
theorem dX6_readPlain_20 : decode cX6_readPlain 20 = .ok (.iload_n 1, 1) := by decide +kernel
theorem dX6_readPlain_29 : decode cX6_readPlain 29 = .ok (.istore_n 1, 1) := by decide +kernel
theorem dX6_readPlain_30 : decode cX6_readPlain 30 = .ok (.aload_n 0, 1) := by decide +kernel
theorem dX6_readPlain_31 : decode cX6_readPlain 31 = .ok (.invokevirtual 53, 3) := by decide +kernel
theorem dX6_readPlain_34 : decode cX6_readPlain 34 = .ok (.iinc 2 1, 3) := by decide +kernel
theorem dX6_readPlain_37 : decode cX6_readPlain 37 = .ok (.goto (-33), 3) := by decide +kernel
theorem dX6_readPlain_21 : decode cX6_readPlain 21 = .ok (.ifCond .ne 7, 3) := by decide +kernel
theorem dX6_readPlain_28 : decode cX6_readPlain 28 = .ok (.iconst 0, 1) := by decide +kernel
theorem dX6_readPlain_24 : decode cX6_readPlain 24 = .ok (.iconst 1, 1) := by decide +kernel
theorem dX6_readPlain_25 : decode cX6_readPlain 25 = .ok (.goto 4, 3) := by decide +kernel
set_option maxHeartbeats 4000000 in
set_option maxRecDepth 100000 in
theorem k_X6_readPlain_8 (l : Launch) (D : va_G) (cy : Nat → ClassId) (ld : Nat → Nat) (t : tk_T) (a0 : Nat) (ht_a0 : t a0 = (7, 0, 0)) : Met l yX6_readPlain (wl yX6_readPlain cX6_readPlain 3 none) ({ frames := 12, cells := 0, slots := 0, locals := 770 }) (tp D cy ld t [] [.ref a0] (fun H => tk_f D H a0 6 9 (.int 8))) (tv D cy ld t [] (fun H => tk_f D H a0 6 9 (.int 8)) (tk_w t [(7, 0, 0), (20, 0, 0), (8, 12, 12)])) 0 0 (tk_w t [(7, 0, 0), (20, 0, 0), (8, 12, 12)]) := by
  refine tk_met (y := yX6_readPlain) (cc := cX6_readPlain) (maxL := 3) (ret := none) (av := [.ref a0]) _ _ (by decide) (Nat.le_of_ble_eq_true rfl) ?_
  intro p e s m args below meth c hx hb hr hml hts htl hown hlocks hK H locs hH hG hS hB hZ ls hl
  have hown : s.vm.findClass RX6 = some m.cls := hown
  have hl : lv_has ls 3 [(0, .ref a0)] := hl
  have hg_0 := hB
  refine lv_iconst (v := 0) hx hb dX6_readPlain_0 (by decide) ?_
  refine lv_istore_n (lv' := [(1, .int 0), (0, .ref a0)]) hx hb dX6_readPlain_1 rfl hl (by decide) rfl (fun ls hl => ?_)
  refine lv_iconst (v := 0) hx hb dX6_readPlain_2 (by decide) ?_
  refine lv_istore_n (lv' := [(2, .int 0), (1, .int 0), (0, .ref a0)]) hx hb dX6_readPlain_3 rfl hl (by decide) rfl (fun ls hl => ?_)
  have hl921 : ∀ (N_l921 : Nat) (v1 : Int32) (v2 : Int32) (H : Heap) (locs : List Loc), 0 ≤ v2.toInt → v2.toInt ≤ 1 → 0 ≤ v1.toInt + (-1) * v2.toInt → v1.toInt ≤ 400 → (-1) * v1.toInt + 400 < (N_l921 : Int) → tk_G D cy ld t [] H → va_S (tk_w t [(7, 0, 0), (20, 0, 0), (8, 12, 12)]) s.heap H locs → tk_f D H a0 6 9 (.int 8) → ∀ ls : Array Slot, lv_has ls 3 [(2, .int v1), (1, .int v2), (0, .ref a0)] → W p l e ({ frames := 12, cells := 0, slots := 0, locals := 770 }) s m args below meth c H locs 0 0 (MQ below (tv D cy ld t [] (fun H => tk_f D H a0 6 9 (.int 8)) (tk_w t [(7, 0, 0), (20, 0, 0), (8, 12, 12)])) args s 0 0 (tk_w t [(7, 0, 0), (20, 0, 0), (8, 12, 12)])) (F0 m 4 ls []) := by
    intro N_l921
    induction N_l921 with
    | zero => intro v1 v2 H locs hq0_l921 hq1_l921 hq2_l921 hq3_l921 hm_l921 hG hS hg_0 ls hl; exfalso; omega
    | succ N_l921 ih_l921 =>
      intro v1 v2 H locs hq0_l921 hq1_l921 hq2_l921 hq3_l921 hm_l921 hG hS hg_0 ls hl
      refine lv_iload_n hx hb dX6_readPlain_4 rfl (lv_at hl 0 rfl) ?_
      refine lv_sipush (v := 400) hx hb dX6_readPlain_5 (by decide) ?_
      have hj939 : ∀ (H : Heap) (locs : List Loc), tk_G D cy ld t [] H → va_S (tk_w t [(7, 0, 0), (20, 0, 0), (8, 12, 12)]) s.heap H locs → tk_f D H a0 6 9 (.int 8) → ∀ ls : Array Slot, lv_has ls 3 [(1, .int v2), (0, .ref a0)] → W p l e ({ frames := 12, cells := 0, slots := 0, locals := 770 }) s m args below meth c H locs 0 0 (MQ below (tv D cy ld t [] (fun H => tk_f D H a0 6 9 (.int 8)) (tk_w t [(7, 0, 0), (20, 0, 0), (8, 12, 12)])) args s 0 0 (tk_w t [(7, 0, 0), (20, 0, 0), (8, 12, 12)])) (F0 m 40 ls []) := by
        intro H locs hG hS hg_0 ls hl
        refine lv_aload_n hx hb dX6_readPlain_40 rfl (lv_at hl 1 rfl) ?_
        refine lv_bipush (v := 40) hx hb dX6_readPlain_41 (by decide) ?_
        have hk_40 : (40 : Int32).toInt = 40 := by decide
        refine tk_Vi (As := [.int 40]) (rest := []) (ci := 6) ⟨hx, hb, hml, hown, hts⟩ hK hG hZ hS (k_X6_isSign l D cy ld t a0 40 ht_a0) trivial ⟨callB_of 1 hts (wl_in mw_590) rfl rfl rfl (htl _ mw_36) (htl _ mw_587) hd_yX6_isSign ⟨(Nat.le_of_ble_eq_true rfl), (Nat.le_of_ble_eq_true rfl)⟩, htl _ mw_588, htl _ mw_589⟩ ht_a0 (by decide) tk_no rfl (tk_w.pick [] rfl) rfl hl.1 rfl (Nat.le_of_ble_eq_true rfl) dX6_readPlain_43 ⟨(Nat.le_of_ble_eq_true rfl), (Nat.le_of_ble_eq_true rfl)⟩ (fun v940 H locs hpo hG hS hq9 => ?_)
        have hg_0 := hg_0.call hq9 tk_w.nil
        obtain ⟨hpo942, hpo943, hpo944, hpo945⟩ := hpo
        refine lv_if_eq (tgt := 79) hx hb dX6_readPlain_46 (by decide) (fun c9 => ?_) (fun c9 => ?_)
        · have hc946 : v940.toInt = 0 := (fi_eq rfl (show (0 : Int32).toInt = 0 by decide)).mp c9
          refine lv_aload_n hx hb dX6_readPlain_79 rfl (lv_at hl 1 rfl) ?_
          refine tk_Vv (As := []) (rest := []) (ci := 6) ⟨hx, hb, hml, hown, hts⟩ hK hG hZ hS (k_X6_readSum_8 l D cy ld t a0 ht_a0) hg_0 ⟨callB_of 0 hts (wl_in mw_583) rfl rfl rfl (htl _ mw_36) (htl _ mw_580) hd_yX6_readSum ⟨(Nat.le_of_ble_eq_true rfl), (Nat.le_of_ble_eq_true rfl)⟩, htl _ mw_581, htl _ mw_582⟩ ht_a0 (by decide) tk_no rfl (tk_w.pick [0, 1, 2] rfl) rfl hl.1 rfl (Nat.le_of_ble_eq_true rfl) dX6_readPlain_80 ⟨(Nat.le_of_ble_eq_true rfl), (Nat.le_of_ble_eq_true rfl)⟩ (fun H locs hpo hG hS hq9 => ?_)
          have hf948 := hpo
          refine lv_aload_n hx hb dX6_readPlain_83 rfl (lv_at hl 1 rfl) ?_
          refine lv_bipush (v := 60) hx hb dX6_readPlain_84 (by decide) ?_
          have hk_60 : (60 : Int32).toInt = 60 := by decide
          refine tk_Vi (As := [.int 60]) (rest := []) (ci := 6) ⟨hx, hb, hml, hown, hts⟩ hK hG hZ hS (k_X6_isSign l D cy ld t a0 60 ht_a0) trivial ⟨callB_of 1 hts (wl_in mw_590) rfl rfl rfl (htl _ mw_36) (htl _ mw_587) hd_yX6_isSign ⟨(Nat.le_of_ble_eq_true rfl), (Nat.le_of_ble_eq_true rfl)⟩, htl _ mw_588, htl _ mw_589⟩ ht_a0 (by decide) tk_no rfl (tk_w.pick [] rfl) rfl hl.1 rfl (Nat.le_of_ble_eq_true rfl) dX6_readPlain_86 ⟨(Nat.le_of_ble_eq_true rfl), (Nat.le_of_ble_eq_true rfl)⟩ (fun v949 H locs hpo hG hS hq9 => ?_)
          have hf948 := hf948.call hq9 tk_w.nil
          obtain ⟨hpo951, hpo952, hpo953, hpo954⟩ := hpo
          have hj967 : ∀ (v965 : Int32) (H : Heap) (locs : List Loc), 11 ≤ v965.toInt → v965.toInt ≤ 13 → tk_G D cy ld t [] H → va_S (tk_w t [(7, 0, 0), (20, 0, 0), (8, 12, 12)]) s.heap H locs → tk_f D H a0 6 9 (.int 8) → ∀ ls : Array Slot, lv_has ls 3 [(1, .int v2), (0, .ref a0)] → W p l e ({ frames := 12, cells := 0, slots := 0, locals := 770 }) s m args below meth c H locs 0 0 (MQ below (tv D cy ld t [] (fun H => tk_f D H a0 6 9 (.int 8)) (tk_w t [(7, 0, 0), (20, 0, 0), (8, 12, 12)])) args s 0 0 (tk_w t [(7, 0, 0), (20, 0, 0), (8, 12, 12)])) (F0 m 113 ls [.int v965]) := by
            intro v965 H locs hq0_j967 hq1_j967 hG hS hf948 ls hl
            refine lv_istore_n (lv' := [(2, .int v965), (1, .int v2), (0, .ref a0)]) hx hb dX6_readPlain_113 rfl hl (by decide) rfl (fun ls hl => ?_)
            refine lv_iload_n hx hb dX6_readPlain_114 rfl (lv_at hl 0 rfl) ?_
            refine lv_bipush (v := 13) hx hb dX6_readPlain_115 (by decide) ?_
            refine lv_icmp_ne (tgt := 134) hx hb dX6_readPlain_117 (by decide) (fun c9 => ?_) (fun c9 => ?_)
            · have hc968 : ¬ (v965.toInt = 13) := fun h9 => c9 ((fi_eq rfl (show (13 : Int32).toInt = 13 by decide)).mpr h9)
              refine lv_aload_n hx hb dX6_readPlain_134 rfl (lv_at hl 2 rfl) ?_
              have hk_8 : (8 : Int32).toInt = 8 := by decide
              refine tk_Vv (As := []) (rest := []) (ci := 6) ⟨hx, hb, hml, hown, hts⟩ hK hG hZ hS (k_X6_step l D cy ld t a0 8 ht_a0 (by omega) (by omega)) hf948 ⟨callB_of 0 hts (wl_in mw_494) rfl rfl rfl (htl _ mw_36) (htl _ mw_491) hd_yX6_step ⟨(Nat.le_of_ble_eq_true rfl), (Nat.le_of_ble_eq_true rfl)⟩, htl _ mw_492, htl _ mw_493⟩ ht_a0 (by decide) tk_no rfl (tk_w.pick [0] rfl) rfl hl.1 rfl (Nat.le_of_ble_eq_true rfl) dX6_readPlain_135 ⟨(Nat.le_of_ble_eq_true rfl), (Nat.le_of_ble_eq_true rfl)⟩ (fun H locs hpo hG hS hq9 => ?_)
              have hf970 := hpo
              refine lv_aload_n hx hb dX6_readPlain_138 rfl (lv_at hl 2 rfl) ?_
              refine tk_Vv (As := []) (rest := []) (ci := 6) ⟨hx, hb, hml, hown, hts⟩ hK hG hZ hS (k_X6_readSum_8 l D cy ld t a0 ht_a0) hf970 ⟨callB_of 0 hts (wl_in mw_583) rfl rfl rfl (htl _ mw_36) (htl _ mw_580) hd_yX6_readSum ⟨(Nat.le_of_ble_eq_true rfl), (Nat.le_of_ble_eq_true rfl)⟩, htl _ mw_581, htl _ mw_582⟩ ht_a0 (by decide) tk_no rfl (tk_w.pick [0, 1, 2] rfl) rfl hl.1 rfl (Nat.le_of_ble_eq_true rfl) dX6_readPlain_139 ⟨(Nat.le_of_ble_eq_true rfl), (Nat.le_of_ble_eq_true rfl)⟩ (fun H locs hpo hG hS hq9 => ?_)
              have hf972 := hpo
              refine lv_aload_n hx hb dX6_readPlain_142 rfl (lv_at hl 2 rfl) ?_
              refine tk_get (ci := 6) (C := RX6) (T := TX6) (N := 11) (sp := (6, 8, 512, 12)) hx hb htl inX6 hown hK hG ht_a0 (by decide) tk_no rfl 0 (by decide) (htl _ mw_132) (fun _ h9 => h9) rfl dX6_readPlain_143 (fun v9 hf973 hV9 => ?_)
              obtain ⟨b974, rfl, ht_b974⟩ := hV9
              have ht_b974 : t b974 = (8, 512, 12) := ht_b974
              refine lv_iload_n hx hb dX6_readPlain_146 rfl (lv_at hl 0 rfl) ?_
              refine lv_iconst (v := 0) hx hb dX6_readPlain_147 (by decide) ?_
              have hk_0 : (0 : Int32).toInt = 0 := by decide
              refine tk_Vv (As := [.int v965, .int 0]) (rest := []) (ci := 7) ⟨hx, hb, hml, hown, hts⟩ hK hG hZ hS (k_X7_put l D cy ld t b974 v965 0 ht_b974) trivial ⟨callB_of 2 hts (wl_in mw_594) rfl rfl rfl (htl _ mw_131) (htl _ mw_591) hd_yX7_put ⟨(Nat.le_of_ble_eq_true rfl), (Nat.le_of_ble_eq_true rfl)⟩, htl _ mw_592, htl _ mw_593⟩ ht_b974 (by decide) tk_no rfl (tk_w.pick [1, 2] rfl) rfl hl.1 rfl (Nat.le_of_ble_eq_true rfl) dX6_readPlain_148 ⟨(Nat.le_of_ble_eq_true rfl), (Nat.le_of_ble_eq_true rfl)⟩ (fun H locs hpo hG hS hq9 => ?_)
              have hf972 := hf972.call hq9 (tk_w.no ht_a0 (by decide))
              refine lv_iload_n hx hb dX6_readPlain_151 rfl (lv_at hl 1 rfl) ?_
              refine lv_if_eq (tgt := 164) hx hb dX6_readPlain_152 (by decide) (fun c9 => ?_) (fun c9 => ?_)
              · have hc976 : v2.toInt = 0 := (fi_eq rfl (show (0 : Int32).toInt = 0 by decide)).mp c9
                exact tk_vret hx hb hr hlocks (show tk_f D H a0 6 9 (.int 8) from hf972) hG hS dX6_readPlain_164
              · have hc976 : ¬ (v2.toInt = 0) := fun h9 => c9 ((fi_eq rfl (show (0 : Int32).toInt = 0 by decide)).mpr h9)
                refine lv_aload_n hx hb dX6_readPlain_155 rfl (lv_at hl 2 rfl) ?_
                refine tk_get (ci := 6) (C := RX6) (T := TX6) (N := 11) (sp := (6, 8, 512, 12)) hx hb htl inX6 hown hK hG ht_a0 (by decide) tk_no rfl 0 (by decide) (htl _ mw_132) (fun _ h9 => h9) rfl dX6_readPlain_156 (fun v9 hf977 hV9 => ?_)
                obtain ⟨b978, rfl, ht_b978⟩ := hV9
                have ht_b978 : t b978 = (8, 512, 12) := ht_b978
                refine lv_iconst (v := 3) hx hb dX6_readPlain_159 (by decide) ?_
                refine lv_iconst (v := 0) hx hb dX6_readPlain_160 (by decide) ?_
                have hk_3 : (3 : Int32).toInt = 3 := by decide
                have hk_0 : (0 : Int32).toInt = 0 := by decide
                refine tk_Vv (As := [.int 3, .int 0]) (rest := []) (ci := 7) ⟨hx, hb, hml, hown, hts⟩ hK hG hZ hS (k_X7_put l D cy ld t b978 3 0 ht_b978) trivial ⟨callB_of 2 hts (wl_in mw_594) rfl rfl rfl (htl _ mw_131) (htl _ mw_591) hd_yX7_put ⟨(Nat.le_of_ble_eq_true rfl), (Nat.le_of_ble_eq_true rfl)⟩, htl _ mw_592, htl _ mw_593⟩ ht_b978 (by decide) tk_no rfl (tk_w.pick [1, 2] rfl) rfl hl.1 rfl (Nat.le_of_ble_eq_true rfl) dX6_readPlain_161 ⟨(Nat.le_of_ble_eq_true rfl), (Nat.le_of_ble_eq_true rfl)⟩ (fun H locs hpo hG hS hq9 => ?_)
                have hf972 := hf972.call hq9 (tk_w.no ht_a0 (by decide))
                exact tk_vret hx hb hr hlocks (show tk_f D H a0 6 9 (.int 8) from hf972) hG hS dX6_readPlain_164
            · have hc968 : v965.toInt = 13 := (fi_eq rfl (show (13 : Int32).toInt = 13 by decide)).mp c9
              refine lv_aload_n hx hb dX6_readPlain_120 rfl (lv_at hl 2 rfl) ?_
              refine lv_bipush (v := 61) hx hb dX6_readPlain_121 (by decide) ?_
              have hk_61 : (61 : Int32).toInt = 61 := by decide
              refine tk_Vi (As := [.int 61]) (rest := []) (ci := 6) ⟨hx, hb, hml, hown, hts⟩ hK hG hZ hS (k_X6_isSign l D cy ld t a0 61 ht_a0) trivial ⟨callB_of 1 hts (wl_in mw_590) rfl rfl rfl (htl _ mw_36) (htl _ mw_587) hd_yX6_isSign ⟨(Nat.le_of_ble_eq_true rfl), (Nat.le_of_ble_eq_true rfl)⟩, htl _ mw_588, htl _ mw_589⟩ ht_a0 (by decide) tk_no rfl (tk_w.pick [] rfl) rfl hl.1 rfl (Nat.le_of_ble_eq_true rfl) dX6_readPlain_123 ⟨(Nat.le_of_ble_eq_true rfl), (Nat.le_of_ble_eq_true rfl)⟩ (fun v980 H locs hpo hG hS hq9 => ?_)
              have hf948 := hf948.call hq9 tk_w.nil
              obtain ⟨hpo982, hpo983, hpo984, hpo985⟩ := hpo
              refine lv_if_ne (tgt := 134) hx hb dX6_readPlain_126 (by decide) (fun c9 => ?_) (fun c9 => ?_)
              · have hc986 : ¬ (v980.toInt = 0) := fun h9 => c9 ((fi_eq rfl (show (0 : Int32).toInt = 0 by decide)).mpr h9)
                refine lv_aload_n hx hb dX6_readPlain_134 rfl (lv_at hl 2 rfl) ?_
                have hk_8 : (8 : Int32).toInt = 8 := by decide
                refine tk_Vv (As := []) (rest := []) (ci := 6) ⟨hx, hb, hml, hown, hts⟩ hK hG hZ hS (k_X6_step l D cy ld t a0 8 ht_a0 (by omega) (by omega)) hf948 ⟨callB_of 0 hts (wl_in mw_494) rfl rfl rfl (htl _ mw_36) (htl _ mw_491) hd_yX6_step ⟨(Nat.le_of_ble_eq_true rfl), (Nat.le_of_ble_eq_true rfl)⟩, htl _ mw_492, htl _ mw_493⟩ ht_a0 (by decide) tk_no rfl (tk_w.pick [0] rfl) rfl hl.1 rfl (Nat.le_of_ble_eq_true rfl) dX6_readPlain_135 ⟨(Nat.le_of_ble_eq_true rfl), (Nat.le_of_ble_eq_true rfl)⟩ (fun H locs hpo hG hS hq9 => ?_)
                have hf988 := hpo
                refine lv_aload_n hx hb dX6_readPlain_138 rfl (lv_at hl 2 rfl) ?_
                refine tk_Vv (As := []) (rest := []) (ci := 6) ⟨hx, hb, hml, hown, hts⟩ hK hG hZ hS (k_X6_readSum_8 l D cy ld t a0 ht_a0) hf988 ⟨callB_of 0 hts (wl_in mw_583) rfl rfl rfl (htl _ mw_36) (htl _ mw_580) hd_yX6_readSum ⟨(Nat.le_of_ble_eq_true rfl), (Nat.le_of_ble_eq_true rfl)⟩, htl _ mw_581, htl _ mw_582⟩ ht_a0 (by decide) tk_no rfl (tk_w.pick [0, 1, 2] rfl) rfl hl.1 rfl (Nat.le_of_ble_eq_true rfl) dX6_readPlain_139 ⟨(Nat.le_of_ble_eq_true rfl), (Nat.le_of_ble_eq_true rfl)⟩ (fun H locs hpo hG hS hq9 => ?_)
                have hf990 := hpo
                refine lv_aload_n hx hb dX6_readPlain_142 rfl (lv_at hl 2 rfl) ?_
                refine tk_get (ci := 6) (C := RX6) (T := TX6) (N := 11) (sp := (6, 8, 512, 12)) hx hb htl inX6 hown hK hG ht_a0 (by decide) tk_no rfl 0 (by decide) (htl _ mw_132) (fun _ h9 => h9) rfl dX6_readPlain_143 (fun v9 hf991 hV9 => ?_)
                obtain ⟨b992, rfl, ht_b992⟩ := hV9
                have ht_b992 : t b992 = (8, 512, 12) := ht_b992
                refine lv_iload_n hx hb dX6_readPlain_146 rfl (lv_at hl 0 rfl) ?_
                refine lv_iconst (v := 0) hx hb dX6_readPlain_147 (by decide) ?_
                have hk_0 : (0 : Int32).toInt = 0 := by decide
                refine tk_Vv (As := [.int v965, .int 0]) (rest := []) (ci := 7) ⟨hx, hb, hml, hown, hts⟩ hK hG hZ hS (k_X7_put l D cy ld t b992 v965 0 ht_b992) trivial ⟨callB_of 2 hts (wl_in mw_594) rfl rfl rfl (htl _ mw_131) (htl _ mw_591) hd_yX7_put ⟨(Nat.le_of_ble_eq_true rfl), (Nat.le_of_ble_eq_true rfl)⟩, htl _ mw_592, htl _ mw_593⟩ ht_b992 (by decide) tk_no rfl (tk_w.pick [1, 2] rfl) rfl hl.1 rfl (Nat.le_of_ble_eq_true rfl) dX6_readPlain_148 ⟨(Nat.le_of_ble_eq_true rfl), (Nat.le_of_ble_eq_true rfl)⟩ (fun H locs hpo hG hS hq9 => ?_)
                have hf990 := hf990.call hq9 (tk_w.no ht_a0 (by decide))
                refine lv_iload_n hx hb dX6_readPlain_151 rfl (lv_at hl 1 rfl) ?_
                refine lv_if_eq (tgt := 164) hx hb dX6_readPlain_152 (by decide) (fun c9 => ?_) (fun c9 => ?_)
                · have hc994 : v2.toInt = 0 := (fi_eq rfl (show (0 : Int32).toInt = 0 by decide)).mp c9
                  exact tk_vret hx hb hr hlocks (show tk_f D H a0 6 9 (.int 8) from hf990) hG hS dX6_readPlain_164
                · have hc994 : ¬ (v2.toInt = 0) := fun h9 => c9 ((fi_eq rfl (show (0 : Int32).toInt = 0 by decide)).mpr h9)
                  refine lv_aload_n hx hb dX6_readPlain_155 rfl (lv_at hl 2 rfl) ?_
                  refine tk_get (ci := 6) (C := RX6) (T := TX6) (N := 11) (sp := (6, 8, 512, 12)) hx hb htl inX6 hown hK hG ht_a0 (by decide) tk_no rfl 0 (by decide) (htl _ mw_132) (fun _ h9 => h9) rfl dX6_readPlain_156 (fun v9 hf995 hV9 => ?_)
                  obtain ⟨b996, rfl, ht_b996⟩ := hV9
                  have ht_b996 : t b996 = (8, 512, 12) := ht_b996
                  refine lv_iconst (v := 3) hx hb dX6_readPlain_159 (by decide) ?_
                  refine lv_iconst (v := 0) hx hb dX6_readPlain_160 (by decide) ?_
                  have hk_3 : (3 : Int32).toInt = 3 := by decide
                  have hk_0 : (0 : Int32).toInt = 0 := by decide
                  refine tk_Vv (As := [.int 3, .int 0]) (rest := []) (ci := 7) ⟨hx, hb, hml, hown, hts⟩ hK hG hZ hS (k_X7_put l D cy ld t b996 3 0 ht_b996) trivial ⟨callB_of 2 hts (wl_in mw_594) rfl rfl rfl (htl _ mw_131) (htl _ mw_591) hd_yX7_put ⟨(Nat.le_of_ble_eq_true rfl), (Nat.le_of_ble_eq_true rfl)⟩, htl _ mw_592, htl _ mw_593⟩ ht_b996 (by decide) tk_no rfl (tk_w.pick [1, 2] rfl) rfl hl.1 rfl (Nat.le_of_ble_eq_true rfl) dX6_readPlain_161 ⟨(Nat.le_of_ble_eq_true rfl), (Nat.le_of_ble_eq_true rfl)⟩ (fun H locs hpo hG hS hq9 => ?_)
                  have hf990 := hf990.call hq9 (tk_w.no ht_a0 (by decide))
                  exact tk_vret hx hb hr hlocks (show tk_f D H a0 6 9 (.int 8) from hf990) hG hS dX6_readPlain_164
              · have hc986 : v980.toInt = 0 := (fi_eq rfl (show (0 : Int32).toInt = 0 by decide)).mp c9
                refine lv_aload_n hx hb dX6_readPlain_129 rfl (lv_at hl 2 rfl) ?_
                have hk_8 : (8 : Int32).toInt = 8 := by decide
                refine tk_Vv (As := []) (rest := []) (ci := 6) ⟨hx, hb, hml, hown, hts⟩ hK hG hZ hS (k_X6_fail l D cy ld t a0 8 ht_a0 (by omega) (by omega)) hf948 ⟨callB_of 0 hts (wl_in mw_507) rfl rfl rfl (htl _ mw_36) (htl _ mw_504) hd_yX6_fail ⟨(Nat.le_of_ble_eq_true rfl), (Nat.le_of_ble_eq_true rfl)⟩, htl _ mw_505, htl _ mw_506⟩ ht_a0 (by decide) tk_no rfl (tk_w.pick [0] rfl) rfl hl.1 rfl (Nat.le_of_ble_eq_true rfl) dX6_readPlain_130 ⟨(Nat.le_of_ble_eq_true rfl), (Nat.le_of_ble_eq_true rfl)⟩ (fun H locs hpo hG hS hq9 => ?_)
                have hf999 := hpo
                exact tk_vret hx hb hr hlocks (show tk_f D H a0 6 9 (.int 8) from hf999) hG hS dX6_readPlain_133
          refine lv_if_eq (tgt := 97) hx hb dX6_readPlain_89 (by decide) (fun c9 => ?_) (fun c9 => ?_)
          · have hc955 : v949.toInt = 0 := (fi_eq rfl (show (0 : Int32).toInt = 0 by decide)).mp c9
            refine lv_aload_n hx hb dX6_readPlain_97 rfl (lv_at hl 1 rfl) ?_
            refine lv_bipush (v := 62) hx hb dX6_readPlain_98 (by decide) ?_
            have hk_62 : (62 : Int32).toInt = 62 := by decide
            refine tk_Vi (As := [.int 62]) (rest := []) (ci := 6) ⟨hx, hb, hml, hown, hts⟩ hK hG hZ hS (k_X6_isSign l D cy ld t a0 62 ht_a0) trivial ⟨callB_of 1 hts (wl_in mw_590) rfl rfl rfl (htl _ mw_36) (htl _ mw_587) hd_yX6_isSign ⟨(Nat.le_of_ble_eq_true rfl), (Nat.le_of_ble_eq_true rfl)⟩, htl _ mw_588, htl _ mw_589⟩ ht_a0 (by decide) tk_no rfl (tk_w.pick [] rfl) rfl hl.1 rfl (Nat.le_of_ble_eq_true rfl) dX6_readPlain_100 ⟨(Nat.le_of_ble_eq_true rfl), (Nat.le_of_ble_eq_true rfl)⟩ (fun v1000 H locs hpo hG hS hq9 => ?_)
            have hf948 := hf948.call hq9 tk_w.nil
            obtain ⟨hpo1002, hpo1003, hpo1004, hpo1005⟩ := hpo
            refine lv_if_eq (tgt := 111) hx hb dX6_readPlain_103 (by decide) (fun c9 => ?_) (fun c9 => ?_)
            · have hc1006 : v1000.toInt = 0 := (fi_eq rfl (show (0 : Int32).toInt = 0 by decide)).mp c9
              refine lv_bipush (v := 13) hx hb dX6_readPlain_111 (by decide) ?_
              have hk_13 : (13 : Int32).toInt = 13 := by decide
              exact hj967 13 _ _ (by omega) (by omega) hG hS hf948 _ (lv_sub hl [0, 1] rfl)
            · have hc1006 : ¬ (v1000.toInt = 0) := fun h9 => c9 ((fi_eq rfl (show (0 : Int32).toInt = 0 by decide)).mpr h9)
              refine lv_bipush (v := 12) hx hb dX6_readPlain_106 (by decide) ?_
              refine lv_goto (tgt := 113) hx hb dX6_readPlain_108 (by decide) ?_
              have hk_12 : (12 : Int32).toInt = 12 := by decide
              exact hj967 12 _ _ (by omega) (by omega) hG hS hf948 _ (lv_sub hl [0, 1] rfl)
          · have hc955 : ¬ (v949.toInt = 0) := fun h9 => c9 ((fi_eq rfl (show (0 : Int32).toInt = 0 by decide)).mpr h9)
            refine lv_bipush (v := 11) hx hb dX6_readPlain_92 (by decide) ?_
            refine lv_goto (tgt := 113) hx hb dX6_readPlain_94 (by decide) ?_
            have hk_11 : (11 : Int32).toInt = 11 := by decide
            exact hj967 11 _ _ (by omega) (by omega) hG hS hf948 _ (lv_sub hl [0, 1] rfl)
        · have hc946 : ¬ (v940.toInt = 0) := fun h9 => c9 ((fi_eq rfl (show (0 : Int32).toInt = 0 by decide)).mpr h9)
          refine lv_aload_n hx hb dX6_readPlain_49 rfl (lv_at hl 1 rfl) ?_
          refine tk_Vi (As := []) (rest := []) (ci := 6) ⟨hx, hb, hml, hown, hts⟩ hK hG hZ hS (k_X6_goDeeper_8 l D cy ld t a0 ht_a0) hg_0 ⟨callB_of 0 hts (wl_in mw_599) rfl rfl rfl (htl _ mw_36) (htl _ mw_596) hd_yX6_goDeeper ⟨(Nat.le_of_ble_eq_true rfl), (Nat.le_of_ble_eq_true rfl)⟩, htl _ mw_597, htl _ mw_598⟩ ht_a0 (by decide) tk_no rfl (tk_w.pick [0] rfl) rfl hl.1 rfl (Nat.le_of_ble_eq_true rfl) dX6_readPlain_50 ⟨(Nat.le_of_ble_eq_true rfl), (Nat.le_of_ble_eq_true rfl)⟩ (fun v1007 H locs hpo hG hS hq9 => ?_)
          obtain ⟨hpo1009, hpo1010, hpo1011, hf1012⟩ := hpo
          obtain rfl : v1007 = 0 := (fi_eq (show v1007.toInt = 0 by omega) (by decide)).mpr rfl
          refine lv_if_eq (tgt := 151) hx hb dX6_readPlain_53 (by decide) (fun _ => ?_) (fun c9 => absurd (by decide) c9)
          refine lv_iload_n hx hb dX6_readPlain_151 rfl (lv_at hl 0 rfl) ?_
          refine lv_if_eq (tgt := 164) hx hb dX6_readPlain_152 (by decide) (fun c9 => ?_) (fun c9 => ?_)
          · have hc1013 : v2.toInt = 0 := (fi_eq rfl (show (0 : Int32).toInt = 0 by decide)).mp c9
            exact tk_vret hx hb hr hlocks (show tk_f D H a0 6 9 (.int 8) from hf1012) hG hS dX6_readPlain_164
          · have hc1013 : ¬ (v2.toInt = 0) := fun h9 => c9 ((fi_eq rfl (show (0 : Int32).toInt = 0 by decide)).mpr h9)
            refine lv_aload_n hx hb dX6_readPlain_155 rfl (lv_at hl 1 rfl) ?_
            refine tk_get (ci := 6) (C := RX6) (T := TX6) (N := 11) (sp := (6, 8, 512, 12)) hx hb htl inX6 hown hK hG ht_a0 (by decide) tk_no rfl 0 (by decide) (htl _ mw_132) (fun _ h9 => h9) rfl dX6_readPlain_156 (fun v9 hf1014 hV9 => ?_)
            obtain ⟨b1015, rfl, ht_b1015⟩ := hV9
            have ht_b1015 : t b1015 = (8, 512, 12) := ht_b1015
            refine lv_iconst (v := 3) hx hb dX6_readPlain_159 (by decide) ?_
            refine lv_iconst (v := 0) hx hb dX6_readPlain_160 (by decide) ?_
            have hk_3 : (3 : Int32).toInt = 3 := by decide
            have hk_0 : (0 : Int32).toInt = 0 := by decide
            refine tk_Vv (As := [.int 3, .int 0]) (rest := []) (ci := 7) ⟨hx, hb, hml, hown, hts⟩ hK hG hZ hS (k_X7_put l D cy ld t b1015 3 0 ht_b1015) trivial ⟨callB_of 2 hts (wl_in mw_594) rfl rfl rfl (htl _ mw_131) (htl _ mw_591) hd_yX7_put ⟨(Nat.le_of_ble_eq_true rfl), (Nat.le_of_ble_eq_true rfl)⟩, htl _ mw_592, htl _ mw_593⟩ ht_b1015 (by decide) tk_no rfl (tk_w.pick [1, 2] rfl) rfl hl.1 rfl (Nat.le_of_ble_eq_true rfl) dX6_readPlain_161 ⟨(Nat.le_of_ble_eq_true rfl), (Nat.le_of_ble_eq_true rfl)⟩ (fun H locs hpo hG hS hq9 => ?_)
            have hf1012 := hf1012.call hq9 (tk_w.no ht_a0 (by decide))
            exact tk_vret hx hb hr hlocks (show tk_f D H a0 6 9 (.int 8) from hf1012) hG hS dX6_readPlain_164
      refine lv_icmp_ge (tgt := 40) hx hb dX6_readPlain_8 (by decide) (fun c9 => ?_) (fun c9 => ?_)
      · have hc922 : 400 ≤ v1.toInt := (fi_le (show (400 : Int32).toInt = 400 by decide) rfl).mp c9
        exact hj939 _ _ hG hS hg_0 _ (lv_sub hl [1, 2] rfl)
      · have hc922 : ¬ (400 ≤ v1.toInt) := fun h9 => c9 ((fi_le (show (400 : Int32).toInt = 400 by decide) rfl).mpr h9)
        refine lv_aload_n hx hb dX6_readPlain_11 rfl (lv_at hl 2 rfl) ?_
        refine va_ldcS hx hb hown hK.2.2.2.2.2.2.2.2.2.2.2.2.1 dX6_readPlain_12 ?_
        refine tk_Vi (As := [.ref (ld 8)]) (rest := []) (ci := 6) ⟨hx, hb, hml, hown, hts⟩ hK hG hZ hS (k_X6_isWord_8 l D cy ld t a0 ht_a0) trivial ⟨callB_of 1 hts (wl_in mw_626) rfl rfl rfl (htl _ mw_36) (htl _ mw_623) hd_yX6_isWord ⟨(Nat.le_of_ble_eq_true rfl), (Nat.le_of_ble_eq_true rfl)⟩, htl _ mw_624, htl _ mw_625⟩ ht_a0 (by decide) tk_no rfl (tk_w.pick [] rfl) rfl hl.1 rfl (Nat.le_of_ble_eq_true rfl) dX6_readPlain_14 ⟨(Nat.le_of_ble_eq_true rfl), (Nat.le_of_ble_eq_true rfl)⟩ (fun v1017 H locs hpo hG hS hq9 => ?_)
        have hg_0 := hg_0.call hq9 tk_w.nil
        obtain ⟨hpo1019, hpo1020, hpo1021, hpo1022⟩ := hpo
        refine lv_if_eq (tgt := 40) hx hb dX6_readPlain_17 (by decide) (fun c9 => ?_) (fun c9 => ?_)
        · have hc1023 : v1017.toInt = 0 := (fi_eq rfl (show (0 : Int32).toInt = 0 by decide)).mp c9
          exact hj939 _ _ hG hS hg_0 _ (lv_sub hl [1, 2] rfl)
        · have hc1023 : ¬ (v1017.toInt = 0) := fun h9 => c9 ((fi_eq rfl (show (0 : Int32).toInt = 0 by decide)).mpr h9)
          refine lv_iload_n hx hb dX6_readPlain_20 rfl (lv_at hl 1 rfl) ?_
          have hj1027 : ∀ (v1026 : Int32), 0 ≤ v1026.toInt → v1026.toInt ≤ 1 → ∀ ls : Array Slot, lv_has ls 3 [(2, .int v1), (0, .ref a0)] → W p l e ({ frames := 12, cells := 0, slots := 0, locals := 770 }) s m args below meth c H locs 0 0 (MQ below (tv D cy ld t [] (fun H => tk_f D H a0 6 9 (.int 8)) (tk_w t [(7, 0, 0), (20, 0, 0), (8, 12, 12)])) args s 0 0 (tk_w t [(7, 0, 0), (20, 0, 0), (8, 12, 12)])) (F0 m 29 ls [.int v1026]) := by
            intro v1026 hq0_j1027 hq1_j1027 ls hl
            refine lv_istore_n (lv' := [(1, .int v1026), (2, .int v1), (0, .ref a0)]) hx hb dX6_readPlain_29 rfl hl (by decide) rfl (fun ls hl => ?_)
            refine lv_aload_n hx hb dX6_readPlain_30 rfl (lv_at hl 2 rfl) ?_
            have hk_8 : (8 : Int32).toInt = 8 := by decide
            refine tk_Vv (As := []) (rest := []) (ci := 6) ⟨hx, hb, hml, hown, hts⟩ hK hG hZ hS (k_X6_step l D cy ld t a0 8 ht_a0 (by omega) (by omega)) hg_0 ⟨callB_of 0 hts (wl_in mw_494) rfl rfl rfl (htl _ mw_36) (htl _ mw_491) hd_yX6_step ⟨(Nat.le_of_ble_eq_true rfl), (Nat.le_of_ble_eq_true rfl)⟩, htl _ mw_492, htl _ mw_493⟩ ht_a0 (by decide) tk_no rfl (tk_w.pick [0] rfl) rfl hl.1 rfl (Nat.le_of_ble_eq_true rfl) dX6_readPlain_31 ⟨(Nat.le_of_ble_eq_true rfl), (Nat.le_of_ble_eq_true rfl)⟩ (fun H locs hpo hG hS hq9 => ?_)
            have hf1029 := hpo
            obtain ⟨v1030, h_v1030, e_v1030⟩ := tk_inc v1 1 (by decide) (by omega) (by omega)
            refine lv_iinc (v := v1030) (lv' := [(2, .int v1030), (1, .int v1026), (0, .ref a0)]) hx hb dX6_readPlain_34 hl (k := 1) rfl e_v1030 (by decide) rfl (fun ls hl => ?_)
            refine lv_goto (tgt := 4) hx hb dX6_readPlain_37 (by decide) ?_
            exact ih_l921 v1030 v1026 _ _ (by omega) (by omega) (by omega) (by omega) (by omega) hG hS hf1029 _ (lv_sub hl [0, 1, 2] rfl)
          refine lv_if_ne (tgt := 28) hx hb dX6_readPlain_21 (by decide) (fun c9 => ?_) (fun c9 => ?_)
          · have hc1024 : ¬ (v2.toInt = 0) := fun h9 => c9 ((fi_eq rfl (show (0 : Int32).toInt = 0 by decide)).mpr h9)
            refine lv_iconst (v := 0) hx hb dX6_readPlain_28 (by decide) ?_
            have hk_0 : (0 : Int32).toInt = 0 := by decide
            exact hj1027 0 (by omega) (by omega) _ (lv_sub hl [0, 2] rfl)
          · have hc1024 : v2.toInt = 0 := (fi_eq rfl (show (0 : Int32).toInt = 0 by decide)).mp c9
            refine lv_iconst (v := 1) hx hb dX6_readPlain_24 (by decide) ?_
            refine lv_goto (tgt := 29) hx hb dX6_readPlain_25 (by decide) ?_
            have hk_1 : (1 : Int32).toInt = 1 := by decide
            exact hj1027 1 (by omega) (by omega) _ (lv_sub hl [0, 2] rfl)
  have hk_0 : (0 : Int32).toInt = 0 := by decide
  have hk_0 : (0 : Int32).toInt = 0 := by decide
  exact hl921 401 0 0 _ _ (by omega) (by omega) (by omega) (by omega) (by omega) hG hS hg_0 _ (lv_sub hl [0, 1, 2] rfl)
theorem dX6_readBoth_0 : decode cX6_readBoth 0 = .ok (.aload_n 0, 1) := by decide +kernel
theorem dX6_readBoth_1 : decode cX6_readBoth 1 = .ok (.invokevirtual 165, 3) := by decide +kernel
theorem dX6_readBoth_4 : decode cX6_readBoth 4 = .ok (.iconst 0, 1) := by decide +kernel
theorem dX6_readBoth_5 : decode cX6_readBoth 5 = .ok (.istore_n 1, 1) := by decide +kernel
theorem dX6_readBoth_6 : decode cX6_readBoth 6 = .ok (.iload_n 1, 1) := by decide +kernel
theorem dX6_readBoth_7 : decode cX6_readBoth 7 = .ok (.sipush 400, 3) := by decide +kernel
theorem dX6_readBoth_10 : decode cX6_readBoth 10 = .ok (.if_icmp .ge 48, 3) := by decide +kernel
theorem dX6_readBoth_58 : decode cX6_readBoth 58 = .ok (.return_, 1) := by decide +kernel
theorem dX6_readBoth_13 : decode cX6_readBoth 13 = .ok (.aload_n 0, 1) := by decide +kernel
theorem dX6_readBoth_14 : decode cX6_readBoth 14 = .ok (.ldc 168, 2) := by decide +kernel
theorem dX6_readBoth_16 : decode cX6_readBoth 16 = .ok (.invokevirtual 104, 3) := by decide +kernel
theorem dX6_readBoth_19 : decode cX6_readBoth 19 = .ok (.ifCond .eq 39, 3) := by decide +kernel
theorem dX6_readBoth_22 : decode cX6_readBoth 22 = .ok (.aload_n 0, 1) := by decide +kernel
theorem dX6_readBoth_23 : decode cX6_readBoth 23 = .ok (.getfield 16, 3) := by decide +kernel
theorem dX6_readBoth_26 : decode cX6_readBoth 26 = .ok (.getfield 136, 3) := by decide +kernel
theorem dX6_readBoth_29 : decode cX6_readBoth 29 = .ok (.istore_n 2, 1) := by decide +kernel
theorem dX6_readBoth_30 : decode cX6_readBoth 30 = .ok (.aload_n 0, 1) := by decide +kernel
theorem dX6_readBoth_31 : decode cX6_readBoth 31 = .ok (.getfield 16, 3) := by decide +kernel
theorem dX6_readBoth_34 : decode cX6_readBoth 34 = .ok (.iconst 4, 1) := by decide +kernel
theorem dX6_readBoth_35 : decode cX6_readBoth 35 = .ok (.iconst 0, 1) := by decide +kernel
theorem dX6_readBoth_36 : decode cX6_readBoth 36 = .ok (.invokevirtual 140, 3) := by decide +kernel
theorem dX6_readBoth_39 : decode cX6_readBoth 39 = .ok (.aload_n 0, 1) := by decide +kernel
theorem dX6_readBoth_40 : decode cX6_readBoth 40 = .ok (.invokevirtual 53, 3) := by decide +kernel
theorem dX6_readBoth_43 : decode cX6_readBoth 43 = .ok (.aload_n 0, 1) := by decide +kernel
theorem dX6_readBoth_44 : decode cX6_readBoth 44 = .ok (.invokevirtual 165, 3) := by decide +kernel
theorem dX6_readBoth_47 : decode cX6_readBoth 47 = .ok (.aload_n 0, 1) := by decide +kernel
theorem dX6_readBoth_48 : decode cX6_readBoth 48 = .ok (.iload_n 2, 1) := by decide +kernel
theorem dX6_readBoth_49 : decode cX6_readBoth 49 = .ok (.invokevirtual 162, 3) := by decide +kernel
theorem dX6_readBoth_52 : decode cX6_readBoth 52 = .ok (.iinc 1 1, 3) := by decide +kernel
theorem dX6_readBoth_55 : decode cX6_readBoth 55 = .ok (.goto (-49), 3) := by decide +kernel
set_option maxHeartbeats 4000000 in
set_option maxRecDepth 100000 in
theorem k_X6_readBoth_8 (l : Launch) (D : va_G) (cy : Nat → ClassId) (ld : Nat → Nat) (t : tk_T) (a0 : Nat) (ht_a0 : t a0 = (7, 0, 0)) : Met l yX6_readBoth (wl yX6_readBoth cX6_readBoth 3 none) ({ frames := 13, cells := 0, slots := 0, locals := 840 }) (tp D cy ld t [] [.ref a0] (fun H => tk_f D H a0 6 9 (.int 8))) (tv D cy ld t [] (fun H => tk_f D H a0 6 9 (.int 8)) (tk_w t [(7, 0, 0), (20, 0, 0), (8, 12, 12)])) 0 0 (tk_w t [(7, 0, 0), (20, 0, 0), (8, 12, 12)]) := by
  refine tk_met (y := yX6_readBoth) (cc := cX6_readBoth) (maxL := 3) (ret := none) (av := [.ref a0]) _ _ (by decide) (Nat.le_of_ble_eq_true rfl) ?_
  intro p e s m args below meth c hx hb hr hml hts htl hown hlocks hK H locs hH hG hS hB hZ ls hl
  have hown : s.vm.findClass RX6 = some m.cls := hown
  have hl : lv_has ls 3 [(0, .ref a0)] := hl
  have hg_0 := hB
  refine lv_aload_n hx hb dX6_readBoth_0 rfl (lv_at hl 0 rfl) ?_
  refine tk_Vv (As := []) (rest := []) (ci := 6) ⟨hx, hb, hml, hown, hts⟩ hK hG hZ hS (k_X6_readPlain_8 l D cy ld t a0 ht_a0) hg_0 ⟨callB_of 0 hts (wl_in mw_648) rfl rfl rfl (htl _ mw_36) (htl _ mw_645) hd_yX6_readPlain ⟨(Nat.le_of_ble_eq_true rfl), (Nat.le_of_ble_eq_true rfl)⟩, htl _ mw_646, htl _ mw_647⟩ ht_a0 (by decide) tk_no rfl (tk_w.pick [0, 1, 2] rfl) rfl hl.1 rfl (Nat.le_of_ble_eq_true rfl) dX6_readBoth_1 ⟨(Nat.le_of_ble_eq_true rfl), (Nat.le_of_ble_eq_true rfl)⟩ (fun H locs hpo hG hS hq9 => ?_)
  have hf2 := hpo
  refine lv_iconst (v := 0) hx hb dX6_readBoth_4 (by decide) ?_
  refine lv_istore_n (lv' := [(1, .int 0), (0, .ref a0)]) hx hb dX6_readBoth_5 rfl hl (by decide) rfl (fun ls hl => ?_)
  have hl170 : ∀ (N_l170 : Nat) (v3 : Int32) (H : Heap) (locs : List Loc), 0 ≤ v3.toInt → v3.toInt ≤ 400 → (-1) * v3.toInt + 400 < (N_l170 : Int) → tk_G D cy ld t [] H → va_S (tk_w t [(7, 0, 0), (20, 0, 0), (8, 12, 12)]) s.heap H locs → tk_f D H a0 6 9 (.int 8) → ∀ ls : Array Slot, lv_has ls 3 [(1, .int v3), (0, .ref a0)] → W p l e ({ frames := 13, cells := 0, slots := 0, locals := 840 }) s m args below meth c H locs 0 0 (MQ below (tv D cy ld t [] (fun H => tk_f D H a0 6 9 (.int 8)) (tk_w t [(7, 0, 0), (20, 0, 0), (8, 12, 12)])) args s 0 0 (tk_w t [(7, 0, 0), (20, 0, 0), (8, 12, 12)])) (F0 m 6 ls []) := by
    intro N_l170
    induction N_l170 with
    | zero => intro v3 H locs hq0_l170 hq1_l170 hm_l170 hG hS hf2 ls hl; exfalso; omega
    | succ N_l170 ih_l170 =>
      intro v3 H locs hq0_l170 hq1_l170 hm_l170 hG hS hf2 ls hl
      refine lv_iload_n hx hb dX6_readBoth_6 rfl (lv_at hl 0 rfl) ?_
      refine lv_sipush (v := 400) hx hb dX6_readBoth_7 (by decide) ?_
      refine lv_icmp_ge (tgt := 58) hx hb dX6_readBoth_10 (by decide) (fun c9 => ?_) (fun c9 => ?_)
      · have hc171 : 400 ≤ v3.toInt := (fi_le (show (400 : Int32).toInt = 400 by decide) rfl).mp c9
        exact tk_vret hx hb hr hlocks (show tk_f D H a0 6 9 (.int 8) from hf2) hG hS dX6_readBoth_58
      · have hc171 : ¬ (400 ≤ v3.toInt) := fun h9 => c9 ((fi_le (show (400 : Int32).toInt = 400 by decide) rfl).mpr h9)
        refine lv_aload_n hx hb dX6_readBoth_13 rfl (lv_at hl 1 rfl) ?_
        refine va_ldcS hx hb hown hK.2.2.2.2.2.2.2.2.2.2.2.2.2.1 dX6_readBoth_14 ?_
        refine tk_Vi (As := [.ref (ld 9)]) (rest := []) (ci := 6) ⟨hx, hb, hml, hown, hts⟩ hK hG hZ hS (k_X6_isWord_9 l D cy ld t a0 ht_a0) trivial ⟨callB_of 1 hts (wl_in mw_626) rfl rfl rfl (htl _ mw_36) (htl _ mw_623) hd_yX6_isWord ⟨(Nat.le_of_ble_eq_true rfl), (Nat.le_of_ble_eq_true rfl)⟩, htl _ mw_624, htl _ mw_625⟩ ht_a0 (by decide) tk_no rfl (tk_w.pick [] rfl) rfl hl.1 rfl (Nat.le_of_ble_eq_true rfl) dX6_readBoth_16 ⟨(Nat.le_of_ble_eq_true rfl), (Nat.le_of_ble_eq_true rfl)⟩ (fun v172 H locs hpo hG hS hq9 => ?_)
        have hf2 := hf2.call hq9 tk_w.nil
        obtain ⟨hpo174, hpo175, hpo176, hpo177⟩ := hpo
        refine lv_if_eq (tgt := 58) hx hb dX6_readBoth_19 (by decide) (fun c9 => ?_) (fun c9 => ?_)
        · have hc178 : v172.toInt = 0 := (fi_eq rfl (show (0 : Int32).toInt = 0 by decide)).mp c9
          exact tk_vret hx hb hr hlocks (show tk_f D H a0 6 9 (.int 8) from hf2) hG hS dX6_readBoth_58
        · have hc178 : ¬ (v172.toInt = 0) := fun h9 => c9 ((fi_eq rfl (show (0 : Int32).toInt = 0 by decide)).mpr h9)
          refine lv_aload_n hx hb dX6_readBoth_22 rfl (lv_at hl 1 rfl) ?_
          refine tk_get (ci := 6) (C := RX6) (T := TX6) (N := 11) (sp := (6, 8, 512, 12)) hx hb htl inX6 hown hK hG ht_a0 (by decide) tk_no rfl 0 (by decide) (htl _ mw_132) (fun _ h9 => h9) rfl dX6_readBoth_23 (fun v9 hf179 hV9 => ?_)
          obtain ⟨b180, rfl, ht_b180⟩ := hV9
          have ht_b180 : t b180 = (8, 512, 12) := ht_b180
          refine tk_get (ci := 7) (C := RX7) (T := TX7) (N := 10) (sp := (4, 0, 0, 0)) hx hb htl inX7 hown hK hG ht_b180 (by decide) tk_no rfl 6 (by decide) (htl _ mw_513) (fun _ h9 => h9) rfl dX6_readBoth_26 (fun v9 hf181 hV9 => ?_)
          obtain ⟨v182, rfl, (ha_v182 : 0 ≤ v182.toInt), (hb_v182 : v182.toInt ≤ 512)⟩ := hV9
          refine lv_istore_n (lv' := [(2, .int v182), (1, .int v3), (0, .ref a0)]) hx hb dX6_readBoth_29 rfl hl (by decide) rfl (fun ls hl => ?_)
          refine lv_aload_n hx hb dX6_readBoth_30 rfl (lv_at hl 2 rfl) ?_
          refine tk_get (ci := 6) (C := RX6) (T := TX6) (N := 11) (sp := (6, 8, 512, 12)) hx hb htl inX6 hown hK hG ht_a0 (by decide) tk_no rfl 0 (by decide) (htl _ mw_132) (fun _ h9 => h9) rfl dX6_readBoth_31 (fun v9 hf183 hV9 => ?_)
          obtain ⟨b184, rfl, ht_b184⟩ := hV9
          have ht_b184 : t b184 = (8, 512, 12) := ht_b184
          refine lv_iconst (v := 4) hx hb dX6_readBoth_34 (by decide) ?_
          refine lv_iconst (v := 0) hx hb dX6_readBoth_35 (by decide) ?_
          have hk_4 : (4 : Int32).toInt = 4 := by decide
          have hk_0 : (0 : Int32).toInt = 0 := by decide
          refine tk_Vv (As := [.int 4, .int 0]) (rest := []) (ci := 7) ⟨hx, hb, hml, hown, hts⟩ hK hG hZ hS (k_X7_put l D cy ld t b184 4 0 ht_b184) trivial ⟨callB_of 2 hts (wl_in mw_594) rfl rfl rfl (htl _ mw_131) (htl _ mw_591) hd_yX7_put ⟨(Nat.le_of_ble_eq_true rfl), (Nat.le_of_ble_eq_true rfl)⟩, htl _ mw_592, htl _ mw_593⟩ ht_b184 (by decide) tk_no rfl (tk_w.pick [1, 2] rfl) rfl hl.1 rfl (Nat.le_of_ble_eq_true rfl) dX6_readBoth_36 ⟨(Nat.le_of_ble_eq_true rfl), (Nat.le_of_ble_eq_true rfl)⟩ (fun H locs hpo hG hS hq9 => ?_)
          have hf2 := hf2.call hq9 (tk_w.no ht_a0 (by decide))
          refine lv_aload_n hx hb dX6_readBoth_39 rfl (lv_at hl 2 rfl) ?_
          have hk_8 : (8 : Int32).toInt = 8 := by decide
          refine tk_Vv (As := []) (rest := []) (ci := 6) ⟨hx, hb, hml, hown, hts⟩ hK hG hZ hS (k_X6_step l D cy ld t a0 8 ht_a0 (by omega) (by omega)) hf2 ⟨callB_of 0 hts (wl_in mw_494) rfl rfl rfl (htl _ mw_36) (htl _ mw_491) hd_yX6_step ⟨(Nat.le_of_ble_eq_true rfl), (Nat.le_of_ble_eq_true rfl)⟩, htl _ mw_492, htl _ mw_493⟩ ht_a0 (by decide) tk_no rfl (tk_w.pick [0] rfl) rfl hl.1 rfl (Nat.le_of_ble_eq_true rfl) dX6_readBoth_40 ⟨(Nat.le_of_ble_eq_true rfl), (Nat.le_of_ble_eq_true rfl)⟩ (fun H locs hpo hG hS hq9 => ?_)
          have hf187 := hpo
          refine lv_aload_n hx hb dX6_readBoth_43 rfl (lv_at hl 2 rfl) ?_
          refine tk_Vv (As := []) (rest := []) (ci := 6) ⟨hx, hb, hml, hown, hts⟩ hK hG hZ hS (k_X6_readPlain_8 l D cy ld t a0 ht_a0) hf187 ⟨callB_of 0 hts (wl_in mw_648) rfl rfl rfl (htl _ mw_36) (htl _ mw_645) hd_yX6_readPlain ⟨(Nat.le_of_ble_eq_true rfl), (Nat.le_of_ble_eq_true rfl)⟩, htl _ mw_646, htl _ mw_647⟩ ht_a0 (by decide) tk_no rfl (tk_w.pick [0, 1, 2] rfl) rfl hl.1 rfl (Nat.le_of_ble_eq_true rfl) dX6_readBoth_44 ⟨(Nat.le_of_ble_eq_true rfl), (Nat.le_of_ble_eq_true rfl)⟩ (fun H locs hpo hG hS hq9 => ?_)
          have hf189 := hpo
          refine lv_aload_n hx hb dX6_readBoth_47 rfl (lv_at hl 2 rfl) ?_
          refine lv_iload_n hx hb dX6_readBoth_48 rfl (lv_at hl 0 rfl) ?_
          refine tk_Vv (As := [.int v182]) (rest := []) (ci := 6) ⟨hx, hb, hml, hown, hts⟩ hK hG hZ hS (k_X6_landHere l D cy ld t a0 v182 ht_a0 (by omega) (by omega)) trivial ⟨callB_of 1 hts (wl_in mw_642) rfl rfl rfl (htl _ mw_36) (htl _ mw_639) hd_yX6_landHere ⟨(Nat.le_of_ble_eq_true rfl), (Nat.le_of_ble_eq_true rfl)⟩, htl _ mw_640, htl _ mw_641⟩ ht_a0 (by decide) tk_no rfl (tk_w.pick [1] rfl) rfl hl.1 rfl (Nat.le_of_ble_eq_true rfl) dX6_readBoth_49 ⟨(Nat.le_of_ble_eq_true rfl), (Nat.le_of_ble_eq_true rfl)⟩ (fun H locs hpo hG hS hq9 => ?_)
          have hf189 := hf189.call hq9 (tk_w.no ht_a0 (by decide))
          obtain ⟨v191, h_v191, e_v191⟩ := tk_inc v3 1 (by decide) (by omega) (by omega)
          refine lv_iinc (v := v191) (lv' := [(1, .int v191), (2, .int v182), (0, .ref a0)]) hx hb dX6_readBoth_52 hl (k := 1) rfl e_v191 (by decide) rfl (fun ls hl => ?_)
          refine lv_goto (tgt := 6) hx hb dX6_readBoth_55 (by decide) ?_
          exact ih_l170 v191 _ _ (by omega) (by omega) (by omega) hG hS hf189 _ (lv_sub hl [0, 2] rfl)
  have hk_0 : (0 : Int32).toInt = 0 := by decide
  exact hl170 401 0 _ _ (by omega) (by omega) (by omega) hG hS hf2 _ (lv_sub hl [0, 1] rfl)
theorem dX6_readTest_0 : decode cX6_readTest 0 = .ok (.aload_n 0, 1) := by decide +kernel
theorem dX6_readTest_1 : decode cX6_readTest 1 = .ok (.invokevirtual 157, 3) := by decide +kernel
theorem dX6_readTest_4 : decode cX6_readTest 4 = .ok (.iconst 0, 1) := by decide +kernel
theorem dX6_readTest_5 : decode cX6_readTest 5 = .ok (.istore_n 1, 1) := by decide +kernel
theorem dX6_readTest_6 : decode cX6_readTest 6 = .ok (.iload_n 1, 1) := by decide +kernel
theorem dX6_readTest_7 : decode cX6_readTest 7 = .ok (.sipush 400, 3) := by decide +kernel
theorem dX6_readTest_10 : decode cX6_readTest 10 = .ok (.if_icmp .ge 48, 3) := by decide +kernel
theorem dX6_readTest_58 : decode cX6_readTest 58 = .ok (.return_, 1) := by decide +kernel
theorem dX6_readTest_13 : decode cX6_readTest 13 = .ok (.aload_n 0, 1) := by decide +kernel
theorem dX6_readTest_14 : decode cX6_readTest 14 = .ok (.ldc 160, 2) := by decide +kernel
theorem dX6_readTest_16 : decode cX6_readTest 16 = .ok (.invokevirtual 104, 3) := by decide +kernel
theorem dX6_readTest_19 : decode cX6_readTest 19 = .ok (.ifCond .eq 39, 3) := by decide +kernel
theorem dX6_readTest_22 : decode cX6_readTest 22 = .ok (.aload_n 0, 1) := by decide +kernel
theorem dX6_readTest_23 : decode cX6_readTest 23 = .ok (.getfield 16, 3) := by decide +kernel
theorem dX6_readTest_26 : decode cX6_readTest 26 = .ok (.getfield 136, 3) := by decide +kernel
theorem dX6_readTest_29 : decode cX6_readTest 29 = .ok (.istore_n 2, 1) := by decide +kernel
theorem dX6_readTest_30 : decode cX6_readTest 30 = .ok (.aload_n 0, 1) := by decide +kernel
theorem dX6_readTest_31 : decode cX6_readTest 31 = .ok (.getfield 16, 3) := by decide +kernel
theorem dX6_readTest_34 : decode cX6_readTest 34 = .ok (.iconst 5, 1) := by decide +kernel
theorem dX6_readTest_35 : decode cX6_readTest 35 = .ok (.iconst 0, 1) := by decide +kernel
theorem dX6_readTest_36 : decode cX6_readTest 36 = .ok (.invokevirtual 140, 3) := by decide +kernel
theorem dX6_readTest_39 : decode cX6_readTest 39 = .ok (.aload_n 0, 1) := by decide +kernel
theorem dX6_readTest_40 : decode cX6_readTest 40 = .ok (.invokevirtual 53, 3) := by decide +kernel
theorem dX6_readTest_43 : decode cX6_readTest 43 = .ok (.aload_n 0, 1) := by decide +kernel
theorem dX6_readTest_44 : decode cX6_readTest 44 = .ok (.invokevirtual 157, 3) := by decide +kernel
theorem dX6_readTest_47 : decode cX6_readTest 47 = .ok (.aload_n 0, 1) := by decide +kernel
theorem dX6_readTest_48 : decode cX6_readTest 48 = .ok (.iload_n 2, 1) := by decide +kernel
theorem dX6_readTest_49 : decode cX6_readTest 49 = .ok (.invokevirtual 162, 3) := by decide +kernel
theorem dX6_readTest_52 : decode cX6_readTest 52 = .ok (.iinc 1 1, 3) := by decide +kernel
theorem dX6_readTest_55 : decode cX6_readTest 55 = .ok (.goto (-49), 3) := by decide +kernel
set_option maxHeartbeats 4000000 in
set_option maxRecDepth 100000 in
theorem k_X6_readTest_8 (l : Launch) (D : va_G) (cy : Nat → ClassId) (ld : Nat → Nat) (t : tk_T) (a0 : Nat) (ht_a0 : t a0 = (7, 0, 0)) : Met l yX6_readTest (wl yX6_readTest cX6_readTest 3 none) ({ frames := 14, cells := 0, slots := 0, locals := 910 }) (tp D cy ld t [] [.ref a0] (fun H => tk_f D H a0 6 9 (.int 8))) (tv D cy ld t [] (fun H => tk_f D H a0 6 9 (.int 8)) (tk_w t [(7, 0, 0), (20, 0, 0), (8, 12, 12)])) 0 0 (tk_w t [(7, 0, 0), (20, 0, 0), (8, 12, 12)]) := by
  refine tk_met (y := yX6_readTest) (cc := cX6_readTest) (maxL := 3) (ret := none) (av := [.ref a0]) _ _ (by decide) (Nat.le_of_ble_eq_true rfl) ?_
  intro p e s m args below meth c hx hb hr hml hts htl hown hlocks hK H locs hH hG hS hB hZ ls hl
  have hown : s.vm.findClass RX6 = some m.cls := hown
  have hl : lv_has ls 3 [(0, .ref a0)] := hl
  have hg_0 := hB
  refine lv_aload_n hx hb dX6_readTest_0 rfl (lv_at hl 0 rfl) ?_
  refine tk_Vv (As := []) (rest := []) (ci := 6) ⟨hx, hb, hml, hown, hts⟩ hK hG hZ hS (k_X6_readBoth_8 l D cy ld t a0 ht_a0) hg_0 ⟨callB_of 0 hts (wl_in mw_644) rfl rfl rfl (htl _ mw_36) (htl _ mw_636) hd_yX6_readBoth ⟨(Nat.le_of_ble_eq_true rfl), (Nat.le_of_ble_eq_true rfl)⟩, htl _ mw_637, htl _ mw_638⟩ ht_a0 (by decide) tk_no rfl (tk_w.pick [0, 1, 2] rfl) rfl hl.1 rfl (Nat.le_of_ble_eq_true rfl) dX6_readTest_1 ⟨(Nat.le_of_ble_eq_true rfl), (Nat.le_of_ble_eq_true rfl)⟩ (fun H locs hpo hG hS hq9 => ?_)
  have hf2 := hpo
  refine lv_iconst (v := 0) hx hb dX6_readTest_4 (by decide) ?_
  refine lv_istore_n (lv' := [(1, .int 0), (0, .ref a0)]) hx hb dX6_readTest_5 rfl hl (by decide) rfl (fun ls hl => ?_)
  have hl170 : ∀ (N_l170 : Nat) (v3 : Int32) (H : Heap) (locs : List Loc), 0 ≤ v3.toInt → v3.toInt ≤ 400 → (-1) * v3.toInt + 400 < (N_l170 : Int) → tk_G D cy ld t [] H → va_S (tk_w t [(7, 0, 0), (20, 0, 0), (8, 12, 12)]) s.heap H locs → tk_f D H a0 6 9 (.int 8) → ∀ ls : Array Slot, lv_has ls 3 [(1, .int v3), (0, .ref a0)] → W p l e ({ frames := 14, cells := 0, slots := 0, locals := 910 }) s m args below meth c H locs 0 0 (MQ below (tv D cy ld t [] (fun H => tk_f D H a0 6 9 (.int 8)) (tk_w t [(7, 0, 0), (20, 0, 0), (8, 12, 12)])) args s 0 0 (tk_w t [(7, 0, 0), (20, 0, 0), (8, 12, 12)])) (F0 m 6 ls []) := by
    intro N_l170
    induction N_l170 with
    | zero => intro v3 H locs hq0_l170 hq1_l170 hm_l170 hG hS hf2 ls hl; exfalso; omega
    | succ N_l170 ih_l170 =>
      intro v3 H locs hq0_l170 hq1_l170 hm_l170 hG hS hf2 ls hl
      refine lv_iload_n hx hb dX6_readTest_6 rfl (lv_at hl 0 rfl) ?_
      refine lv_sipush (v := 400) hx hb dX6_readTest_7 (by decide) ?_
      refine lv_icmp_ge (tgt := 58) hx hb dX6_readTest_10 (by decide) (fun c9 => ?_) (fun c9 => ?_)
      · have hc171 : 400 ≤ v3.toInt := (fi_le (show (400 : Int32).toInt = 400 by decide) rfl).mp c9
        exact tk_vret hx hb hr hlocks (show tk_f D H a0 6 9 (.int 8) from hf2) hG hS dX6_readTest_58
      · have hc171 : ¬ (400 ≤ v3.toInt) := fun h9 => c9 ((fi_le (show (400 : Int32).toInt = 400 by decide) rfl).mpr h9)
        refine lv_aload_n hx hb dX6_readTest_13 rfl (lv_at hl 1 rfl) ?_
        refine va_ldcS hx hb hown hK.2.2.2.2.2.2.2.2.2.2.2.2.2.2 dX6_readTest_14 ?_
        refine tk_Vi (As := [.ref (ld 10)]) (rest := []) (ci := 6) ⟨hx, hb, hml, hown, hts⟩ hK hG hZ hS (k_X6_isWord_10 l D cy ld t a0 ht_a0) trivial ⟨callB_of 1 hts (wl_in mw_626) rfl rfl rfl (htl _ mw_36) (htl _ mw_623) hd_yX6_isWord ⟨(Nat.le_of_ble_eq_true rfl), (Nat.le_of_ble_eq_true rfl)⟩, htl _ mw_624, htl _ mw_625⟩ ht_a0 (by decide) tk_no rfl (tk_w.pick [] rfl) rfl hl.1 rfl (Nat.le_of_ble_eq_true rfl) dX6_readTest_16 ⟨(Nat.le_of_ble_eq_true rfl), (Nat.le_of_ble_eq_true rfl)⟩ (fun v172 H locs hpo hG hS hq9 => ?_)
        have hf2 := hf2.call hq9 tk_w.nil
        obtain ⟨hpo174, hpo175, hpo176, hpo177⟩ := hpo
        refine lv_if_eq (tgt := 58) hx hb dX6_readTest_19 (by decide) (fun c9 => ?_) (fun c9 => ?_)
        · have hc178 : v172.toInt = 0 := (fi_eq rfl (show (0 : Int32).toInt = 0 by decide)).mp c9
          exact tk_vret hx hb hr hlocks (show tk_f D H a0 6 9 (.int 8) from hf2) hG hS dX6_readTest_58
        · have hc178 : ¬ (v172.toInt = 0) := fun h9 => c9 ((fi_eq rfl (show (0 : Int32).toInt = 0 by decide)).mpr h9)
          refine lv_aload_n hx hb dX6_readTest_22 rfl (lv_at hl 1 rfl) ?_
          refine tk_get (ci := 6) (C := RX6) (T := TX6) (N := 11) (sp := (6, 8, 512, 12)) hx hb htl inX6 hown hK hG ht_a0 (by decide) tk_no rfl 0 (by decide) (htl _ mw_132) (fun _ h9 => h9) rfl dX6_readTest_23 (fun v9 hf179 hV9 => ?_)
          obtain ⟨b180, rfl, ht_b180⟩ := hV9
          have ht_b180 : t b180 = (8, 512, 12) := ht_b180
          refine tk_get (ci := 7) (C := RX7) (T := TX7) (N := 10) (sp := (4, 0, 0, 0)) hx hb htl inX7 hown hK hG ht_b180 (by decide) tk_no rfl 6 (by decide) (htl _ mw_513) (fun _ h9 => h9) rfl dX6_readTest_26 (fun v9 hf181 hV9 => ?_)
          obtain ⟨v182, rfl, (ha_v182 : 0 ≤ v182.toInt), (hb_v182 : v182.toInt ≤ 512)⟩ := hV9
          refine lv_istore_n (lv' := [(2, .int v182), (1, .int v3), (0, .ref a0)]) hx hb dX6_readTest_29 rfl hl (by decide) rfl (fun ls hl => ?_)
          refine lv_aload_n hx hb dX6_readTest_30 rfl (lv_at hl 2 rfl) ?_
          refine tk_get (ci := 6) (C := RX6) (T := TX6) (N := 11) (sp := (6, 8, 512, 12)) hx hb htl inX6 hown hK hG ht_a0 (by decide) tk_no rfl 0 (by decide) (htl _ mw_132) (fun _ h9 => h9) rfl dX6_readTest_31 (fun v9 hf183 hV9 => ?_)
          obtain ⟨b184, rfl, ht_b184⟩ := hV9
          have ht_b184 : t b184 = (8, 512, 12) := ht_b184
          refine lv_iconst (v := 5) hx hb dX6_readTest_34 (by decide) ?_
          refine lv_iconst (v := 0) hx hb dX6_readTest_35 (by decide) ?_
          have hk_5 : (5 : Int32).toInt = 5 := by decide
          have hk_0 : (0 : Int32).toInt = 0 := by decide
          refine tk_Vv (As := [.int 5, .int 0]) (rest := []) (ci := 7) ⟨hx, hb, hml, hown, hts⟩ hK hG hZ hS (k_X7_put l D cy ld t b184 5 0 ht_b184) trivial ⟨callB_of 2 hts (wl_in mw_594) rfl rfl rfl (htl _ mw_131) (htl _ mw_591) hd_yX7_put ⟨(Nat.le_of_ble_eq_true rfl), (Nat.le_of_ble_eq_true rfl)⟩, htl _ mw_592, htl _ mw_593⟩ ht_b184 (by decide) tk_no rfl (tk_w.pick [1, 2] rfl) rfl hl.1 rfl (Nat.le_of_ble_eq_true rfl) dX6_readTest_36 ⟨(Nat.le_of_ble_eq_true rfl), (Nat.le_of_ble_eq_true rfl)⟩ (fun H locs hpo hG hS hq9 => ?_)
          have hf2 := hf2.call hq9 (tk_w.no ht_a0 (by decide))
          refine lv_aload_n hx hb dX6_readTest_39 rfl (lv_at hl 2 rfl) ?_
          have hk_8 : (8 : Int32).toInt = 8 := by decide
          refine tk_Vv (As := []) (rest := []) (ci := 6) ⟨hx, hb, hml, hown, hts⟩ hK hG hZ hS (k_X6_step l D cy ld t a0 8 ht_a0 (by omega) (by omega)) hf2 ⟨callB_of 0 hts (wl_in mw_494) rfl rfl rfl (htl _ mw_36) (htl _ mw_491) hd_yX6_step ⟨(Nat.le_of_ble_eq_true rfl), (Nat.le_of_ble_eq_true rfl)⟩, htl _ mw_492, htl _ mw_493⟩ ht_a0 (by decide) tk_no rfl (tk_w.pick [0] rfl) rfl hl.1 rfl (Nat.le_of_ble_eq_true rfl) dX6_readTest_40 ⟨(Nat.le_of_ble_eq_true rfl), (Nat.le_of_ble_eq_true rfl)⟩ (fun H locs hpo hG hS hq9 => ?_)
          have hf187 := hpo
          refine lv_aload_n hx hb dX6_readTest_43 rfl (lv_at hl 2 rfl) ?_
          refine tk_Vv (As := []) (rest := []) (ci := 6) ⟨hx, hb, hml, hown, hts⟩ hK hG hZ hS (k_X6_readBoth_8 l D cy ld t a0 ht_a0) hf187 ⟨callB_of 0 hts (wl_in mw_644) rfl rfl rfl (htl _ mw_36) (htl _ mw_636) hd_yX6_readBoth ⟨(Nat.le_of_ble_eq_true rfl), (Nat.le_of_ble_eq_true rfl)⟩, htl _ mw_637, htl _ mw_638⟩ ht_a0 (by decide) tk_no rfl (tk_w.pick [0, 1, 2] rfl) rfl hl.1 rfl (Nat.le_of_ble_eq_true rfl) dX6_readTest_44 ⟨(Nat.le_of_ble_eq_true rfl), (Nat.le_of_ble_eq_true rfl)⟩ (fun H locs hpo hG hS hq9 => ?_)
          have hf189 := hpo
          refine lv_aload_n hx hb dX6_readTest_47 rfl (lv_at hl 2 rfl) ?_
          refine lv_iload_n hx hb dX6_readTest_48 rfl (lv_at hl 0 rfl) ?_
          refine tk_Vv (As := [.int v182]) (rest := []) (ci := 6) ⟨hx, hb, hml, hown, hts⟩ hK hG hZ hS (k_X6_landHere l D cy ld t a0 v182 ht_a0 (by omega) (by omega)) trivial ⟨callB_of 1 hts (wl_in mw_642) rfl rfl rfl (htl _ mw_36) (htl _ mw_639) hd_yX6_landHere ⟨(Nat.le_of_ble_eq_true rfl), (Nat.le_of_ble_eq_true rfl)⟩, htl _ mw_640, htl _ mw_641⟩ ht_a0 (by decide) tk_no rfl (tk_w.pick [1] rfl) rfl hl.1 rfl (Nat.le_of_ble_eq_true rfl) dX6_readTest_49 ⟨(Nat.le_of_ble_eq_true rfl), (Nat.le_of_ble_eq_true rfl)⟩ (fun H locs hpo hG hS hq9 => ?_)
          have hf189 := hf189.call hq9 (tk_w.no ht_a0 (by decide))
          obtain ⟨v191, h_v191, e_v191⟩ := tk_inc v3 1 (by decide) (by omega) (by omega)
          refine lv_iinc (v := v191) (lv' := [(1, .int v191), (2, .int v182), (0, .ref a0)]) hx hb dX6_readTest_52 hl (k := 1) rfl e_v191 (by decide) rfl (fun ls hl => ?_)
          refine lv_goto (tgt := 6) hx hb dX6_readTest_55 (by decide) ?_
          exact ih_l170 v191 _ _ (by omega) (by omega) (by omega) hG hS hf189 _ (lv_sub hl [0, 2] rfl)
  have hk_0 : (0 : Int32).toInt = 0 := by decide
  exact hl170 401 0 _ _ (by omega) (by omega) (by omega) hG hS hf2 _ (lv_sub hl [0, 1] rfl)
theorem dX6_readPlain_56 : decode cX6_readPlain 56 = .ok (.aload_n 0, 1) := by decide +kernel
theorem dX6_readPlain_57 : decode cX6_readPlain 57 = .ok (.invokevirtual 137, 3) := by decide +kernel
theorem dX6_readPlain_60 : decode cX6_readPlain 60 = .ok (.aload_n 0, 1) := by decide +kernel
theorem dX6_readPlain_61 : decode cX6_readPlain 61 = .ok (.bipush 41, 2) := by decide +kernel
theorem dX6_readPlain_63 : decode cX6_readPlain 63 = .ok (.invokevirtual 70, 3) := by decide +kernel
theorem dX6_readPlain_66 : decode cX6_readPlain 66 = .ok (.aload_n 0, 1) := by decide +kernel
theorem dX6_readPlain_67 : decode cX6_readPlain 67 = .ok (.dup, 1) := by decide +kernel
theorem dX6_readPlain_68 : decode cX6_readPlain 68 = .ok (.getfield 47, 3) := by decide +kernel
theorem dX6_readPlain_71 : decode cX6_readPlain 71 = .ok (.iconst 1, 1) := by decide +kernel
theorem dX6_readPlain_72 : decode cX6_readPlain 72 = .ok (.isub, 1) := by decide +kernel
theorem dX6_readPlain_73 : decode cX6_readPlain 73 = .ok (.putfield 47, 3) := by decide +kernel
theorem dX6_readPlain_76 : decode cX6_readPlain 76 = .ok (.goto 75, 3) := by decide +kernel
set_option maxHeartbeats 4000000 in
set_option maxRecDepth 100000 in
theorem k_X6_readPlain_7 (l : Launch) (D : va_G) (cy : Nat → ClassId) (ld : Nat → Nat) (t : tk_T) (a0 : Nat) (ht_a0 : t a0 = (7, 0, 0)) : Met l yX6_readPlain (wl yX6_readPlain cX6_readPlain 3 none) ({ frames := 15, cells := 0, slots := 0, locals := 980 }) (tp D cy ld t [] [.ref a0] (fun H => tk_f D H a0 6 9 (.int 7))) (tv D cy ld t [] (fun H => tk_f D H a0 6 9 (.int 7)) (tk_w t [(7, 0, 0), (20, 0, 0), (8, 12, 12)])) 0 0 (tk_w t [(7, 0, 0), (20, 0, 0), (8, 12, 12)]) := by
  refine tk_met (y := yX6_readPlain) (cc := cX6_readPlain) (maxL := 3) (ret := none) (av := [.ref a0]) _ _ (by decide) (Nat.le_of_ble_eq_true rfl) ?_
  intro p e s m args below meth c hx hb hr hml hts htl hown hlocks hK H locs hH hG hS hB hZ ls hl
  have hown : s.vm.findClass RX6 = some m.cls := hown
  have hl : lv_has ls 3 [(0, .ref a0)] := hl
  have hg_0 := hB
  refine lv_iconst (v := 0) hx hb dX6_readPlain_0 (by decide) ?_
  refine lv_istore_n (lv' := [(1, .int 0), (0, .ref a0)]) hx hb dX6_readPlain_1 rfl hl (by decide) rfl (fun ls hl => ?_)
  refine lv_iconst (v := 0) hx hb dX6_readPlain_2 (by decide) ?_
  refine lv_istore_n (lv' := [(2, .int 0), (1, .int 0), (0, .ref a0)]) hx hb dX6_readPlain_3 rfl hl (by decide) rfl (fun ls hl => ?_)
  have hl975 : ∀ (N_l975 : Nat) (v1 : Int32) (v2 : Int32) (H : Heap) (locs : List Loc), 0 ≤ v2.toInt → v2.toInt ≤ 1 → 0 ≤ v1.toInt + (-1) * v2.toInt → v1.toInt ≤ 400 → (-1) * v1.toInt + 400 < (N_l975 : Int) → tk_G D cy ld t [] H → va_S (tk_w t [(7, 0, 0), (20, 0, 0), (8, 12, 12)]) s.heap H locs → tk_f D H a0 6 9 (.int 7) → ∀ ls : Array Slot, lv_has ls 3 [(2, .int v1), (1, .int v2), (0, .ref a0)] → W p l e ({ frames := 15, cells := 0, slots := 0, locals := 980 }) s m args below meth c H locs 0 0 (MQ below (tv D cy ld t [] (fun H => tk_f D H a0 6 9 (.int 7)) (tk_w t [(7, 0, 0), (20, 0, 0), (8, 12, 12)])) args s 0 0 (tk_w t [(7, 0, 0), (20, 0, 0), (8, 12, 12)])) (F0 m 4 ls []) := by
    intro N_l975
    induction N_l975 with
    | zero => intro v1 v2 H locs hq0_l975 hq1_l975 hq2_l975 hq3_l975 hm_l975 hG hS hg_0 ls hl; exfalso; omega
    | succ N_l975 ih_l975 =>
      intro v1 v2 H locs hq0_l975 hq1_l975 hq2_l975 hq3_l975 hm_l975 hG hS hg_0 ls hl
      refine lv_iload_n hx hb dX6_readPlain_4 rfl (lv_at hl 0 rfl) ?_
      refine lv_sipush (v := 400) hx hb dX6_readPlain_5 (by decide) ?_
      have hj993 : ∀ (H : Heap) (locs : List Loc), tk_G D cy ld t [] H → va_S (tk_w t [(7, 0, 0), (20, 0, 0), (8, 12, 12)]) s.heap H locs → tk_f D H a0 6 9 (.int 7) → ∀ ls : Array Slot, lv_has ls 3 [(1, .int v2), (0, .ref a0)] → W p l e ({ frames := 15, cells := 0, slots := 0, locals := 980 }) s m args below meth c H locs 0 0 (MQ below (tv D cy ld t [] (fun H => tk_f D H a0 6 9 (.int 7)) (tk_w t [(7, 0, 0), (20, 0, 0), (8, 12, 12)])) args s 0 0 (tk_w t [(7, 0, 0), (20, 0, 0), (8, 12, 12)])) (F0 m 40 ls []) := by
        intro H locs hG hS hg_0 ls hl
        refine lv_aload_n hx hb dX6_readPlain_40 rfl (lv_at hl 1 rfl) ?_
        refine lv_bipush (v := 40) hx hb dX6_readPlain_41 (by decide) ?_
        have hk_40 : (40 : Int32).toInt = 40 := by decide
        refine tk_Vi (As := [.int 40]) (rest := []) (ci := 6) ⟨hx, hb, hml, hown, hts⟩ hK hG hZ hS (k_X6_isSign l D cy ld t a0 40 ht_a0) trivial ⟨callB_of 1 hts (wl_in mw_590) rfl rfl rfl (htl _ mw_36) (htl _ mw_587) hd_yX6_isSign ⟨(Nat.le_of_ble_eq_true rfl), (Nat.le_of_ble_eq_true rfl)⟩, htl _ mw_588, htl _ mw_589⟩ ht_a0 (by decide) tk_no rfl (tk_w.pick [] rfl) rfl hl.1 rfl (Nat.le_of_ble_eq_true rfl) dX6_readPlain_43 ⟨(Nat.le_of_ble_eq_true rfl), (Nat.le_of_ble_eq_true rfl)⟩ (fun v994 H locs hpo hG hS hq9 => ?_)
        have hg_0 := hg_0.call hq9 tk_w.nil
        obtain ⟨hpo996, hpo997, hpo998, hpo999⟩ := hpo
        refine lv_if_eq (tgt := 79) hx hb dX6_readPlain_46 (by decide) (fun c9 => ?_) (fun c9 => ?_)
        · have hc1000 : v994.toInt = 0 := (fi_eq rfl (show (0 : Int32).toInt = 0 by decide)).mp c9
          refine lv_aload_n hx hb dX6_readPlain_79 rfl (lv_at hl 1 rfl) ?_
          refine tk_Vv (As := []) (rest := []) (ci := 6) ⟨hx, hb, hml, hown, hts⟩ hK hG hZ hS (k_X6_readSum_7 l D cy ld t a0 ht_a0) hg_0 ⟨callB_of 0 hts (wl_in mw_583) rfl rfl rfl (htl _ mw_36) (htl _ mw_580) hd_yX6_readSum ⟨(Nat.le_of_ble_eq_true rfl), (Nat.le_of_ble_eq_true rfl)⟩, htl _ mw_581, htl _ mw_582⟩ ht_a0 (by decide) tk_no rfl (tk_w.pick [0, 1, 2] rfl) rfl hl.1 rfl (Nat.le_of_ble_eq_true rfl) dX6_readPlain_80 ⟨(Nat.le_of_ble_eq_true rfl), (Nat.le_of_ble_eq_true rfl)⟩ (fun H locs hpo hG hS hq9 => ?_)
          have hf1002 := hpo
          refine lv_aload_n hx hb dX6_readPlain_83 rfl (lv_at hl 1 rfl) ?_
          refine lv_bipush (v := 60) hx hb dX6_readPlain_84 (by decide) ?_
          have hk_60 : (60 : Int32).toInt = 60 := by decide
          refine tk_Vi (As := [.int 60]) (rest := []) (ci := 6) ⟨hx, hb, hml, hown, hts⟩ hK hG hZ hS (k_X6_isSign l D cy ld t a0 60 ht_a0) trivial ⟨callB_of 1 hts (wl_in mw_590) rfl rfl rfl (htl _ mw_36) (htl _ mw_587) hd_yX6_isSign ⟨(Nat.le_of_ble_eq_true rfl), (Nat.le_of_ble_eq_true rfl)⟩, htl _ mw_588, htl _ mw_589⟩ ht_a0 (by decide) tk_no rfl (tk_w.pick [] rfl) rfl hl.1 rfl (Nat.le_of_ble_eq_true rfl) dX6_readPlain_86 ⟨(Nat.le_of_ble_eq_true rfl), (Nat.le_of_ble_eq_true rfl)⟩ (fun v1003 H locs hpo hG hS hq9 => ?_)
          have hf1002 := hf1002.call hq9 tk_w.nil
          obtain ⟨hpo1005, hpo1006, hpo1007, hpo1008⟩ := hpo
          have hj1021 : ∀ (v1019 : Int32) (H : Heap) (locs : List Loc), 11 ≤ v1019.toInt → v1019.toInt ≤ 13 → tk_G D cy ld t [] H → va_S (tk_w t [(7, 0, 0), (20, 0, 0), (8, 12, 12)]) s.heap H locs → tk_f D H a0 6 9 (.int 7) → ∀ ls : Array Slot, lv_has ls 3 [(1, .int v2), (0, .ref a0)] → W p l e ({ frames := 15, cells := 0, slots := 0, locals := 980 }) s m args below meth c H locs 0 0 (MQ below (tv D cy ld t [] (fun H => tk_f D H a0 6 9 (.int 7)) (tk_w t [(7, 0, 0), (20, 0, 0), (8, 12, 12)])) args s 0 0 (tk_w t [(7, 0, 0), (20, 0, 0), (8, 12, 12)])) (F0 m 113 ls [.int v1019]) := by
            intro v1019 H locs hq0_j1021 hq1_j1021 hG hS hf1002 ls hl
            refine lv_istore_n (lv' := [(2, .int v1019), (1, .int v2), (0, .ref a0)]) hx hb dX6_readPlain_113 rfl hl (by decide) rfl (fun ls hl => ?_)
            refine lv_iload_n hx hb dX6_readPlain_114 rfl (lv_at hl 0 rfl) ?_
            refine lv_bipush (v := 13) hx hb dX6_readPlain_115 (by decide) ?_
            refine lv_icmp_ne (tgt := 134) hx hb dX6_readPlain_117 (by decide) (fun c9 => ?_) (fun c9 => ?_)
            · have hc1022 : ¬ (v1019.toInt = 13) := fun h9 => c9 ((fi_eq rfl (show (13 : Int32).toInt = 13 by decide)).mpr h9)
              refine lv_aload_n hx hb dX6_readPlain_134 rfl (lv_at hl 2 rfl) ?_
              have hk_7 : (7 : Int32).toInt = 7 := by decide
              refine tk_Vv (As := []) (rest := []) (ci := 6) ⟨hx, hb, hml, hown, hts⟩ hK hG hZ hS (k_X6_step l D cy ld t a0 7 ht_a0 (by omega) (by omega)) hf1002 ⟨callB_of 0 hts (wl_in mw_494) rfl rfl rfl (htl _ mw_36) (htl _ mw_491) hd_yX6_step ⟨(Nat.le_of_ble_eq_true rfl), (Nat.le_of_ble_eq_true rfl)⟩, htl _ mw_492, htl _ mw_493⟩ ht_a0 (by decide) tk_no rfl (tk_w.pick [0] rfl) rfl hl.1 rfl (Nat.le_of_ble_eq_true rfl) dX6_readPlain_135 ⟨(Nat.le_of_ble_eq_true rfl), (Nat.le_of_ble_eq_true rfl)⟩ (fun H locs hpo hG hS hq9 => ?_)
              have hf1024 := hpo
              refine lv_aload_n hx hb dX6_readPlain_138 rfl (lv_at hl 2 rfl) ?_
              refine tk_Vv (As := []) (rest := []) (ci := 6) ⟨hx, hb, hml, hown, hts⟩ hK hG hZ hS (k_X6_readSum_7 l D cy ld t a0 ht_a0) hf1024 ⟨callB_of 0 hts (wl_in mw_583) rfl rfl rfl (htl _ mw_36) (htl _ mw_580) hd_yX6_readSum ⟨(Nat.le_of_ble_eq_true rfl), (Nat.le_of_ble_eq_true rfl)⟩, htl _ mw_581, htl _ mw_582⟩ ht_a0 (by decide) tk_no rfl (tk_w.pick [0, 1, 2] rfl) rfl hl.1 rfl (Nat.le_of_ble_eq_true rfl) dX6_readPlain_139 ⟨(Nat.le_of_ble_eq_true rfl), (Nat.le_of_ble_eq_true rfl)⟩ (fun H locs hpo hG hS hq9 => ?_)
              have hf1026 := hpo
              refine lv_aload_n hx hb dX6_readPlain_142 rfl (lv_at hl 2 rfl) ?_
              refine tk_get (ci := 6) (C := RX6) (T := TX6) (N := 11) (sp := (6, 8, 512, 12)) hx hb htl inX6 hown hK hG ht_a0 (by decide) tk_no rfl 0 (by decide) (htl _ mw_132) (fun _ h9 => h9) rfl dX6_readPlain_143 (fun v9 hf1027 hV9 => ?_)
              obtain ⟨b1028, rfl, ht_b1028⟩ := hV9
              have ht_b1028 : t b1028 = (8, 512, 12) := ht_b1028
              refine lv_iload_n hx hb dX6_readPlain_146 rfl (lv_at hl 0 rfl) ?_
              refine lv_iconst (v := 0) hx hb dX6_readPlain_147 (by decide) ?_
              have hk_0 : (0 : Int32).toInt = 0 := by decide
              refine tk_Vv (As := [.int v1019, .int 0]) (rest := []) (ci := 7) ⟨hx, hb, hml, hown, hts⟩ hK hG hZ hS (k_X7_put l D cy ld t b1028 v1019 0 ht_b1028) trivial ⟨callB_of 2 hts (wl_in mw_594) rfl rfl rfl (htl _ mw_131) (htl _ mw_591) hd_yX7_put ⟨(Nat.le_of_ble_eq_true rfl), (Nat.le_of_ble_eq_true rfl)⟩, htl _ mw_592, htl _ mw_593⟩ ht_b1028 (by decide) tk_no rfl (tk_w.pick [1, 2] rfl) rfl hl.1 rfl (Nat.le_of_ble_eq_true rfl) dX6_readPlain_148 ⟨(Nat.le_of_ble_eq_true rfl), (Nat.le_of_ble_eq_true rfl)⟩ (fun H locs hpo hG hS hq9 => ?_)
              have hf1026 := hf1026.call hq9 (tk_w.no ht_a0 (by decide))
              refine lv_iload_n hx hb dX6_readPlain_151 rfl (lv_at hl 1 rfl) ?_
              refine lv_if_eq (tgt := 164) hx hb dX6_readPlain_152 (by decide) (fun c9 => ?_) (fun c9 => ?_)
              · have hc1030 : v2.toInt = 0 := (fi_eq rfl (show (0 : Int32).toInt = 0 by decide)).mp c9
                exact tk_vret hx hb hr hlocks (show tk_f D H a0 6 9 (.int 7) from hf1026) hG hS dX6_readPlain_164
              · have hc1030 : ¬ (v2.toInt = 0) := fun h9 => c9 ((fi_eq rfl (show (0 : Int32).toInt = 0 by decide)).mpr h9)
                refine lv_aload_n hx hb dX6_readPlain_155 rfl (lv_at hl 2 rfl) ?_
                refine tk_get (ci := 6) (C := RX6) (T := TX6) (N := 11) (sp := (6, 8, 512, 12)) hx hb htl inX6 hown hK hG ht_a0 (by decide) tk_no rfl 0 (by decide) (htl _ mw_132) (fun _ h9 => h9) rfl dX6_readPlain_156 (fun v9 hf1031 hV9 => ?_)
                obtain ⟨b1032, rfl, ht_b1032⟩ := hV9
                have ht_b1032 : t b1032 = (8, 512, 12) := ht_b1032
                refine lv_iconst (v := 3) hx hb dX6_readPlain_159 (by decide) ?_
                refine lv_iconst (v := 0) hx hb dX6_readPlain_160 (by decide) ?_
                have hk_3 : (3 : Int32).toInt = 3 := by decide
                have hk_0 : (0 : Int32).toInt = 0 := by decide
                refine tk_Vv (As := [.int 3, .int 0]) (rest := []) (ci := 7) ⟨hx, hb, hml, hown, hts⟩ hK hG hZ hS (k_X7_put l D cy ld t b1032 3 0 ht_b1032) trivial ⟨callB_of 2 hts (wl_in mw_594) rfl rfl rfl (htl _ mw_131) (htl _ mw_591) hd_yX7_put ⟨(Nat.le_of_ble_eq_true rfl), (Nat.le_of_ble_eq_true rfl)⟩, htl _ mw_592, htl _ mw_593⟩ ht_b1032 (by decide) tk_no rfl (tk_w.pick [1, 2] rfl) rfl hl.1 rfl (Nat.le_of_ble_eq_true rfl) dX6_readPlain_161 ⟨(Nat.le_of_ble_eq_true rfl), (Nat.le_of_ble_eq_true rfl)⟩ (fun H locs hpo hG hS hq9 => ?_)
                have hf1026 := hf1026.call hq9 (tk_w.no ht_a0 (by decide))
                exact tk_vret hx hb hr hlocks (show tk_f D H a0 6 9 (.int 7) from hf1026) hG hS dX6_readPlain_164
            · have hc1022 : v1019.toInt = 13 := (fi_eq rfl (show (13 : Int32).toInt = 13 by decide)).mp c9
              refine lv_aload_n hx hb dX6_readPlain_120 rfl (lv_at hl 2 rfl) ?_
              refine lv_bipush (v := 61) hx hb dX6_readPlain_121 (by decide) ?_
              have hk_61 : (61 : Int32).toInt = 61 := by decide
              refine tk_Vi (As := [.int 61]) (rest := []) (ci := 6) ⟨hx, hb, hml, hown, hts⟩ hK hG hZ hS (k_X6_isSign l D cy ld t a0 61 ht_a0) trivial ⟨callB_of 1 hts (wl_in mw_590) rfl rfl rfl (htl _ mw_36) (htl _ mw_587) hd_yX6_isSign ⟨(Nat.le_of_ble_eq_true rfl), (Nat.le_of_ble_eq_true rfl)⟩, htl _ mw_588, htl _ mw_589⟩ ht_a0 (by decide) tk_no rfl (tk_w.pick [] rfl) rfl hl.1 rfl (Nat.le_of_ble_eq_true rfl) dX6_readPlain_123 ⟨(Nat.le_of_ble_eq_true rfl), (Nat.le_of_ble_eq_true rfl)⟩ (fun v1034 H locs hpo hG hS hq9 => ?_)
              have hf1002 := hf1002.call hq9 tk_w.nil
              obtain ⟨hpo1036, hpo1037, hpo1038, hpo1039⟩ := hpo
              refine lv_if_ne (tgt := 134) hx hb dX6_readPlain_126 (by decide) (fun c9 => ?_) (fun c9 => ?_)
              · have hc1040 : ¬ (v1034.toInt = 0) := fun h9 => c9 ((fi_eq rfl (show (0 : Int32).toInt = 0 by decide)).mpr h9)
                refine lv_aload_n hx hb dX6_readPlain_134 rfl (lv_at hl 2 rfl) ?_
                have hk_7 : (7 : Int32).toInt = 7 := by decide
                refine tk_Vv (As := []) (rest := []) (ci := 6) ⟨hx, hb, hml, hown, hts⟩ hK hG hZ hS (k_X6_step l D cy ld t a0 7 ht_a0 (by omega) (by omega)) hf1002 ⟨callB_of 0 hts (wl_in mw_494) rfl rfl rfl (htl _ mw_36) (htl _ mw_491) hd_yX6_step ⟨(Nat.le_of_ble_eq_true rfl), (Nat.le_of_ble_eq_true rfl)⟩, htl _ mw_492, htl _ mw_493⟩ ht_a0 (by decide) tk_no rfl (tk_w.pick [0] rfl) rfl hl.1 rfl (Nat.le_of_ble_eq_true rfl) dX6_readPlain_135 ⟨(Nat.le_of_ble_eq_true rfl), (Nat.le_of_ble_eq_true rfl)⟩ (fun H locs hpo hG hS hq9 => ?_)
                have hf1042 := hpo
                refine lv_aload_n hx hb dX6_readPlain_138 rfl (lv_at hl 2 rfl) ?_
                refine tk_Vv (As := []) (rest := []) (ci := 6) ⟨hx, hb, hml, hown, hts⟩ hK hG hZ hS (k_X6_readSum_7 l D cy ld t a0 ht_a0) hf1042 ⟨callB_of 0 hts (wl_in mw_583) rfl rfl rfl (htl _ mw_36) (htl _ mw_580) hd_yX6_readSum ⟨(Nat.le_of_ble_eq_true rfl), (Nat.le_of_ble_eq_true rfl)⟩, htl _ mw_581, htl _ mw_582⟩ ht_a0 (by decide) tk_no rfl (tk_w.pick [0, 1, 2] rfl) rfl hl.1 rfl (Nat.le_of_ble_eq_true rfl) dX6_readPlain_139 ⟨(Nat.le_of_ble_eq_true rfl), (Nat.le_of_ble_eq_true rfl)⟩ (fun H locs hpo hG hS hq9 => ?_)
                have hf1044 := hpo
                refine lv_aload_n hx hb dX6_readPlain_142 rfl (lv_at hl 2 rfl) ?_
                refine tk_get (ci := 6) (C := RX6) (T := TX6) (N := 11) (sp := (6, 8, 512, 12)) hx hb htl inX6 hown hK hG ht_a0 (by decide) tk_no rfl 0 (by decide) (htl _ mw_132) (fun _ h9 => h9) rfl dX6_readPlain_143 (fun v9 hf1045 hV9 => ?_)
                obtain ⟨b1046, rfl, ht_b1046⟩ := hV9
                have ht_b1046 : t b1046 = (8, 512, 12) := ht_b1046
                refine lv_iload_n hx hb dX6_readPlain_146 rfl (lv_at hl 0 rfl) ?_
                refine lv_iconst (v := 0) hx hb dX6_readPlain_147 (by decide) ?_
                have hk_0 : (0 : Int32).toInt = 0 := by decide
                refine tk_Vv (As := [.int v1019, .int 0]) (rest := []) (ci := 7) ⟨hx, hb, hml, hown, hts⟩ hK hG hZ hS (k_X7_put l D cy ld t b1046 v1019 0 ht_b1046) trivial ⟨callB_of 2 hts (wl_in mw_594) rfl rfl rfl (htl _ mw_131) (htl _ mw_591) hd_yX7_put ⟨(Nat.le_of_ble_eq_true rfl), (Nat.le_of_ble_eq_true rfl)⟩, htl _ mw_592, htl _ mw_593⟩ ht_b1046 (by decide) tk_no rfl (tk_w.pick [1, 2] rfl) rfl hl.1 rfl (Nat.le_of_ble_eq_true rfl) dX6_readPlain_148 ⟨(Nat.le_of_ble_eq_true rfl), (Nat.le_of_ble_eq_true rfl)⟩ (fun H locs hpo hG hS hq9 => ?_)
                have hf1044 := hf1044.call hq9 (tk_w.no ht_a0 (by decide))
                refine lv_iload_n hx hb dX6_readPlain_151 rfl (lv_at hl 1 rfl) ?_
                refine lv_if_eq (tgt := 164) hx hb dX6_readPlain_152 (by decide) (fun c9 => ?_) (fun c9 => ?_)
                · have hc1048 : v2.toInt = 0 := (fi_eq rfl (show (0 : Int32).toInt = 0 by decide)).mp c9
                  exact tk_vret hx hb hr hlocks (show tk_f D H a0 6 9 (.int 7) from hf1044) hG hS dX6_readPlain_164
                · have hc1048 : ¬ (v2.toInt = 0) := fun h9 => c9 ((fi_eq rfl (show (0 : Int32).toInt = 0 by decide)).mpr h9)
                  refine lv_aload_n hx hb dX6_readPlain_155 rfl (lv_at hl 2 rfl) ?_
                  refine tk_get (ci := 6) (C := RX6) (T := TX6) (N := 11) (sp := (6, 8, 512, 12)) hx hb htl inX6 hown hK hG ht_a0 (by decide) tk_no rfl 0 (by decide) (htl _ mw_132) (fun _ h9 => h9) rfl dX6_readPlain_156 (fun v9 hf1049 hV9 => ?_)
                  obtain ⟨b1050, rfl, ht_b1050⟩ := hV9
                  have ht_b1050 : t b1050 = (8, 512, 12) := ht_b1050
                  refine lv_iconst (v := 3) hx hb dX6_readPlain_159 (by decide) ?_
                  refine lv_iconst (v := 0) hx hb dX6_readPlain_160 (by decide) ?_
                  have hk_3 : (3 : Int32).toInt = 3 := by decide
                  have hk_0 : (0 : Int32).toInt = 0 := by decide
                  refine tk_Vv (As := [.int 3, .int 0]) (rest := []) (ci := 7) ⟨hx, hb, hml, hown, hts⟩ hK hG hZ hS (k_X7_put l D cy ld t b1050 3 0 ht_b1050) trivial ⟨callB_of 2 hts (wl_in mw_594) rfl rfl rfl (htl _ mw_131) (htl _ mw_591) hd_yX7_put ⟨(Nat.le_of_ble_eq_true rfl), (Nat.le_of_ble_eq_true rfl)⟩, htl _ mw_592, htl _ mw_593⟩ ht_b1050 (by decide) tk_no rfl (tk_w.pick [1, 2] rfl) rfl hl.1 rfl (Nat.le_of_ble_eq_true rfl) dX6_readPlain_161 ⟨(Nat.le_of_ble_eq_true rfl), (Nat.le_of_ble_eq_true rfl)⟩ (fun H locs hpo hG hS hq9 => ?_)
                  have hf1044 := hf1044.call hq9 (tk_w.no ht_a0 (by decide))
                  exact tk_vret hx hb hr hlocks (show tk_f D H a0 6 9 (.int 7) from hf1044) hG hS dX6_readPlain_164
              · have hc1040 : v1034.toInt = 0 := (fi_eq rfl (show (0 : Int32).toInt = 0 by decide)).mp c9
                refine lv_aload_n hx hb dX6_readPlain_129 rfl (lv_at hl 2 rfl) ?_
                have hk_7 : (7 : Int32).toInt = 7 := by decide
                refine tk_Vv (As := []) (rest := []) (ci := 6) ⟨hx, hb, hml, hown, hts⟩ hK hG hZ hS (k_X6_fail l D cy ld t a0 7 ht_a0 (by omega) (by omega)) hf1002 ⟨callB_of 0 hts (wl_in mw_507) rfl rfl rfl (htl _ mw_36) (htl _ mw_504) hd_yX6_fail ⟨(Nat.le_of_ble_eq_true rfl), (Nat.le_of_ble_eq_true rfl)⟩, htl _ mw_505, htl _ mw_506⟩ ht_a0 (by decide) tk_no rfl (tk_w.pick [0] rfl) rfl hl.1 rfl (Nat.le_of_ble_eq_true rfl) dX6_readPlain_130 ⟨(Nat.le_of_ble_eq_true rfl), (Nat.le_of_ble_eq_true rfl)⟩ (fun H locs hpo hG hS hq9 => ?_)
                have hf1053 := hpo
                exact tk_vret hx hb hr hlocks (show tk_f D H a0 6 9 (.int 7) from hf1053) hG hS dX6_readPlain_133
          refine lv_if_eq (tgt := 97) hx hb dX6_readPlain_89 (by decide) (fun c9 => ?_) (fun c9 => ?_)
          · have hc1009 : v1003.toInt = 0 := (fi_eq rfl (show (0 : Int32).toInt = 0 by decide)).mp c9
            refine lv_aload_n hx hb dX6_readPlain_97 rfl (lv_at hl 1 rfl) ?_
            refine lv_bipush (v := 62) hx hb dX6_readPlain_98 (by decide) ?_
            have hk_62 : (62 : Int32).toInt = 62 := by decide
            refine tk_Vi (As := [.int 62]) (rest := []) (ci := 6) ⟨hx, hb, hml, hown, hts⟩ hK hG hZ hS (k_X6_isSign l D cy ld t a0 62 ht_a0) trivial ⟨callB_of 1 hts (wl_in mw_590) rfl rfl rfl (htl _ mw_36) (htl _ mw_587) hd_yX6_isSign ⟨(Nat.le_of_ble_eq_true rfl), (Nat.le_of_ble_eq_true rfl)⟩, htl _ mw_588, htl _ mw_589⟩ ht_a0 (by decide) tk_no rfl (tk_w.pick [] rfl) rfl hl.1 rfl (Nat.le_of_ble_eq_true rfl) dX6_readPlain_100 ⟨(Nat.le_of_ble_eq_true rfl), (Nat.le_of_ble_eq_true rfl)⟩ (fun v1054 H locs hpo hG hS hq9 => ?_)
            have hf1002 := hf1002.call hq9 tk_w.nil
            obtain ⟨hpo1056, hpo1057, hpo1058, hpo1059⟩ := hpo
            refine lv_if_eq (tgt := 111) hx hb dX6_readPlain_103 (by decide) (fun c9 => ?_) (fun c9 => ?_)
            · have hc1060 : v1054.toInt = 0 := (fi_eq rfl (show (0 : Int32).toInt = 0 by decide)).mp c9
              refine lv_bipush (v := 13) hx hb dX6_readPlain_111 (by decide) ?_
              have hk_13 : (13 : Int32).toInt = 13 := by decide
              exact hj1021 13 _ _ (by omega) (by omega) hG hS hf1002 _ (lv_sub hl [0, 1] rfl)
            · have hc1060 : ¬ (v1054.toInt = 0) := fun h9 => c9 ((fi_eq rfl (show (0 : Int32).toInt = 0 by decide)).mpr h9)
              refine lv_bipush (v := 12) hx hb dX6_readPlain_106 (by decide) ?_
              refine lv_goto (tgt := 113) hx hb dX6_readPlain_108 (by decide) ?_
              have hk_12 : (12 : Int32).toInt = 12 := by decide
              exact hj1021 12 _ _ (by omega) (by omega) hG hS hf1002 _ (lv_sub hl [0, 1] rfl)
          · have hc1009 : ¬ (v1003.toInt = 0) := fun h9 => c9 ((fi_eq rfl (show (0 : Int32).toInt = 0 by decide)).mpr h9)
            refine lv_bipush (v := 11) hx hb dX6_readPlain_92 (by decide) ?_
            refine lv_goto (tgt := 113) hx hb dX6_readPlain_94 (by decide) ?_
            have hk_11 : (11 : Int32).toInt = 11 := by decide
            exact hj1021 11 _ _ (by omega) (by omega) hG hS hf1002 _ (lv_sub hl [0, 1] rfl)
        · have hc1000 : ¬ (v994.toInt = 0) := fun h9 => c9 ((fi_eq rfl (show (0 : Int32).toInt = 0 by decide)).mpr h9)
          refine lv_aload_n hx hb dX6_readPlain_49 rfl (lv_at hl 1 rfl) ?_
          refine tk_Vi (As := []) (rest := []) (ci := 6) ⟨hx, hb, hml, hown, hts⟩ hK hG hZ hS (k_X6_goDeeper_7 l D cy ld t a0 ht_a0) hg_0 ⟨callB_of 0 hts (wl_in mw_599) rfl rfl rfl (htl _ mw_36) (htl _ mw_596) hd_yX6_goDeeper ⟨(Nat.le_of_ble_eq_true rfl), (Nat.le_of_ble_eq_true rfl)⟩, htl _ mw_597, htl _ mw_598⟩ ht_a0 (by decide) tk_no rfl (tk_w.pick [0] rfl) rfl hl.1 rfl (Nat.le_of_ble_eq_true rfl) dX6_readPlain_50 ⟨(Nat.le_of_ble_eq_true rfl), (Nat.le_of_ble_eq_true rfl)⟩ (fun v1061 H locs hpo hG hS hq9 => ?_)
          obtain ⟨hpo1063, hpo1064, hpo1065, hf1066⟩ := hpo
          obtain rfl : v1061 = 1 := (fi_eq (show v1061.toInt = 1 by omega) (by decide)).mpr rfl
          refine lv_if_eq (tgt := 151) hx hb dX6_readPlain_53 (by decide) (fun c9 => absurd c9 (by decide)) (fun _ => ?_)
          refine lv_aload_n hx hb dX6_readPlain_56 rfl (lv_at hl 1 rfl) ?_
          refine tk_Vv (As := []) (rest := []) (ci := 6) ⟨hx, hb, hml, hown, hts⟩ hK hG hZ hS (k_X6_readTest_8 l D cy ld t a0 ht_a0) hf1066 ⟨callB_of 0 hts (wl_in mw_635) rfl rfl rfl (htl _ mw_36) (htl _ mw_632) hd_yX6_readTest ⟨(Nat.le_of_ble_eq_true rfl), (Nat.le_of_ble_eq_true rfl)⟩, htl _ mw_633, htl _ mw_634⟩ ht_a0 (by decide) tk_no rfl (tk_w.pick [0, 1, 2] rfl) rfl hl.1 rfl (Nat.le_of_ble_eq_true rfl) dX6_readPlain_57 ⟨(Nat.le_of_ble_eq_true rfl), (Nat.le_of_ble_eq_true rfl)⟩ (fun H locs hpo hG hS hq9 => ?_)
          have hf1068 := hpo
          refine lv_aload_n hx hb dX6_readPlain_60 rfl (lv_at hl 1 rfl) ?_
          refine lv_bipush (v := 41) hx hb dX6_readPlain_61 (by decide) ?_
          have hk_41 : (41 : Int32).toInt = 41 := by decide
          have hk_8 : (8 : Int32).toInt = 8 := by decide
          refine tk_Vv (As := [.int 41]) (rest := []) (ci := 6) ⟨hx, hb, hml, hown, hts⟩ hK hG hZ hS (k_X6_take l D cy ld t a0 41 8 ht_a0 (by omega) (by omega)) hf1068 ⟨callB_of 1 hts (wl_in mw_603) rfl rfl rfl (htl _ mw_36) (htl _ mw_600) hd_yX6_take ⟨(Nat.le_of_ble_eq_true rfl), (Nat.le_of_ble_eq_true rfl)⟩, htl _ mw_601, htl _ mw_602⟩ ht_a0 (by decide) tk_no rfl (tk_w.pick [0] rfl) rfl hl.1 rfl (Nat.le_of_ble_eq_true rfl) dX6_readPlain_63 ⟨(Nat.le_of_ble_eq_true rfl), (Nat.le_of_ble_eq_true rfl)⟩ (fun H locs hpo hG hS hq9 => ?_)
          have hf1070 := hpo
          refine lv_aload_n hx hb dX6_readPlain_66 rfl (lv_at hl 1 rfl) ?_
          refine lv_dup hx hb dX6_readPlain_67 rfl ?_
          refine tk_getk (ci := 6) (C := RX6) (T := TX6) (N := 11) (sp := (0, 0, 8, 0)) hx hb htl inX6 hown hK hG ht_a0 (by decide) tk_no rfl 9 (by decide) (htl _ mw_480) (fun _ h9 => h9) rfl hf1070 dX6_readPlain_68 ?_
          refine lv_iconst (v := 1) hx hb dX6_readPlain_71 (by decide) ?_
          refine lv_isub hx hb dX6_readPlain_72 ?_
          refine fx_ti (v := 7) (by decide) ?_
          refine tk_put (ci := 6) (v := .int 7) (ty := .int) (C := RX6) (T := TX6) (N := 11) (sp := (0, 0, 8, 0)) hx hb htl inX6 tyX6 tyX6_ok nmX6 hown hK hG hS ht_a0 (by decide) tk_no rfl 9 (by decide) (htl _ mw_480) (fun _ h9 => h9) rfl (tyX6_ok 9 (by decide)) rfl rfl rfl (tk_V0 (by decide) (by decide)) (fun _ h => tk_X7 h (by decide) (by decide)) (tk_w.of ht_a0 (by decide) (List.mem_of_getElem? (i := 0) rfl) (Nat.le_refl _) (Nat.le_refl _)) dX6_readPlain_73 (fun H locs hG hS hf1071 hq9 hj9 => ?_)
          refine lv_goto (tgt := 151) hx hb dX6_readPlain_76 (by decide) ?_
          refine lv_iload_n hx hb dX6_readPlain_151 rfl (lv_at hl 0 rfl) ?_
          refine lv_if_eq (tgt := 164) hx hb dX6_readPlain_152 (by decide) (fun c9 => ?_) (fun c9 => ?_)
          · have hc1073 : v2.toInt = 0 := (fi_eq rfl (show (0 : Int32).toInt = 0 by decide)).mp c9
            exact tk_vret hx hb hr hlocks (show tk_f D H a0 6 9 (.int 7) from hf1071) hG hS dX6_readPlain_164
          · have hc1073 : ¬ (v2.toInt = 0) := fun h9 => c9 ((fi_eq rfl (show (0 : Int32).toInt = 0 by decide)).mpr h9)
            refine lv_aload_n hx hb dX6_readPlain_155 rfl (lv_at hl 1 rfl) ?_
            refine tk_get (ci := 6) (C := RX6) (T := TX6) (N := 11) (sp := (6, 8, 512, 12)) hx hb htl inX6 hown hK hG ht_a0 (by decide) tk_no rfl 0 (by decide) (htl _ mw_132) (fun _ h9 => h9) rfl dX6_readPlain_156 (fun v9 hf1074 hV9 => ?_)
            obtain ⟨b1075, rfl, ht_b1075⟩ := hV9
            have ht_b1075 : t b1075 = (8, 512, 12) := ht_b1075
            refine lv_iconst (v := 3) hx hb dX6_readPlain_159 (by decide) ?_
            refine lv_iconst (v := 0) hx hb dX6_readPlain_160 (by decide) ?_
            have hk_3 : (3 : Int32).toInt = 3 := by decide
            have hk_0 : (0 : Int32).toInt = 0 := by decide
            refine tk_Vv (As := [.int 3, .int 0]) (rest := []) (ci := 7) ⟨hx, hb, hml, hown, hts⟩ hK hG hZ hS (k_X7_put l D cy ld t b1075 3 0 ht_b1075) trivial ⟨callB_of 2 hts (wl_in mw_594) rfl rfl rfl (htl _ mw_131) (htl _ mw_591) hd_yX7_put ⟨(Nat.le_of_ble_eq_true rfl), (Nat.le_of_ble_eq_true rfl)⟩, htl _ mw_592, htl _ mw_593⟩ ht_b1075 (by decide) tk_no rfl (tk_w.pick [1, 2] rfl) rfl hl.1 rfl (Nat.le_of_ble_eq_true rfl) dX6_readPlain_161 ⟨(Nat.le_of_ble_eq_true rfl), (Nat.le_of_ble_eq_true rfl)⟩ (fun H locs hpo hG hS hq9 => ?_)
            have hf1071 := hf1071.call hq9 (tk_w.no ht_a0 (by decide))
            exact tk_vret hx hb hr hlocks (show tk_f D H a0 6 9 (.int 7) from hf1071) hG hS dX6_readPlain_164
      refine lv_icmp_ge (tgt := 40) hx hb dX6_readPlain_8 (by decide) (fun c9 => ?_) (fun c9 => ?_)
      · have hc976 : 400 ≤ v1.toInt := (fi_le (show (400 : Int32).toInt = 400 by decide) rfl).mp c9
        exact hj993 _ _ hG hS hg_0 _ (lv_sub hl [1, 2] rfl)
      · have hc976 : ¬ (400 ≤ v1.toInt) := fun h9 => c9 ((fi_le (show (400 : Int32).toInt = 400 by decide) rfl).mpr h9)
        refine lv_aload_n hx hb dX6_readPlain_11 rfl (lv_at hl 2 rfl) ?_
        refine va_ldcS hx hb hown hK.2.2.2.2.2.2.2.2.2.2.2.2.1 dX6_readPlain_12 ?_
        refine tk_Vi (As := [.ref (ld 8)]) (rest := []) (ci := 6) ⟨hx, hb, hml, hown, hts⟩ hK hG hZ hS (k_X6_isWord_8 l D cy ld t a0 ht_a0) trivial ⟨callB_of 1 hts (wl_in mw_626) rfl rfl rfl (htl _ mw_36) (htl _ mw_623) hd_yX6_isWord ⟨(Nat.le_of_ble_eq_true rfl), (Nat.le_of_ble_eq_true rfl)⟩, htl _ mw_624, htl _ mw_625⟩ ht_a0 (by decide) tk_no rfl (tk_w.pick [] rfl) rfl hl.1 rfl (Nat.le_of_ble_eq_true rfl) dX6_readPlain_14 ⟨(Nat.le_of_ble_eq_true rfl), (Nat.le_of_ble_eq_true rfl)⟩ (fun v1077 H locs hpo hG hS hq9 => ?_)
        have hg_0 := hg_0.call hq9 tk_w.nil
        obtain ⟨hpo1079, hpo1080, hpo1081, hpo1082⟩ := hpo
        refine lv_if_eq (tgt := 40) hx hb dX6_readPlain_17 (by decide) (fun c9 => ?_) (fun c9 => ?_)
        · have hc1083 : v1077.toInt = 0 := (fi_eq rfl (show (0 : Int32).toInt = 0 by decide)).mp c9
          exact hj993 _ _ hG hS hg_0 _ (lv_sub hl [1, 2] rfl)
        · have hc1083 : ¬ (v1077.toInt = 0) := fun h9 => c9 ((fi_eq rfl (show (0 : Int32).toInt = 0 by decide)).mpr h9)
          refine lv_iload_n hx hb dX6_readPlain_20 rfl (lv_at hl 1 rfl) ?_
          have hj1087 : ∀ (v1086 : Int32), 0 ≤ v1086.toInt → v1086.toInt ≤ 1 → ∀ ls : Array Slot, lv_has ls 3 [(2, .int v1), (0, .ref a0)] → W p l e ({ frames := 15, cells := 0, slots := 0, locals := 980 }) s m args below meth c H locs 0 0 (MQ below (tv D cy ld t [] (fun H => tk_f D H a0 6 9 (.int 7)) (tk_w t [(7, 0, 0), (20, 0, 0), (8, 12, 12)])) args s 0 0 (tk_w t [(7, 0, 0), (20, 0, 0), (8, 12, 12)])) (F0 m 29 ls [.int v1086]) := by
            intro v1086 hq0_j1087 hq1_j1087 ls hl
            refine lv_istore_n (lv' := [(1, .int v1086), (2, .int v1), (0, .ref a0)]) hx hb dX6_readPlain_29 rfl hl (by decide) rfl (fun ls hl => ?_)
            refine lv_aload_n hx hb dX6_readPlain_30 rfl (lv_at hl 2 rfl) ?_
            have hk_7 : (7 : Int32).toInt = 7 := by decide
            refine tk_Vv (As := []) (rest := []) (ci := 6) ⟨hx, hb, hml, hown, hts⟩ hK hG hZ hS (k_X6_step l D cy ld t a0 7 ht_a0 (by omega) (by omega)) hg_0 ⟨callB_of 0 hts (wl_in mw_494) rfl rfl rfl (htl _ mw_36) (htl _ mw_491) hd_yX6_step ⟨(Nat.le_of_ble_eq_true rfl), (Nat.le_of_ble_eq_true rfl)⟩, htl _ mw_492, htl _ mw_493⟩ ht_a0 (by decide) tk_no rfl (tk_w.pick [0] rfl) rfl hl.1 rfl (Nat.le_of_ble_eq_true rfl) dX6_readPlain_31 ⟨(Nat.le_of_ble_eq_true rfl), (Nat.le_of_ble_eq_true rfl)⟩ (fun H locs hpo hG hS hq9 => ?_)
            have hf1089 := hpo
            obtain ⟨v1090, h_v1090, e_v1090⟩ := tk_inc v1 1 (by decide) (by omega) (by omega)
            refine lv_iinc (v := v1090) (lv' := [(2, .int v1090), (1, .int v1086), (0, .ref a0)]) hx hb dX6_readPlain_34 hl (k := 1) rfl e_v1090 (by decide) rfl (fun ls hl => ?_)
            refine lv_goto (tgt := 4) hx hb dX6_readPlain_37 (by decide) ?_
            exact ih_l975 v1090 v1086 _ _ (by omega) (by omega) (by omega) (by omega) (by omega) hG hS hf1089 _ (lv_sub hl [0, 1, 2] rfl)
          refine lv_if_ne (tgt := 28) hx hb dX6_readPlain_21 (by decide) (fun c9 => ?_) (fun c9 => ?_)
          · have hc1084 : ¬ (v2.toInt = 0) := fun h9 => c9 ((fi_eq rfl (show (0 : Int32).toInt = 0 by decide)).mpr h9)
            refine lv_iconst (v := 0) hx hb dX6_readPlain_28 (by decide) ?_
            have hk_0 : (0 : Int32).toInt = 0 := by decide
            exact hj1087 0 (by omega) (by omega) _ (lv_sub hl [0, 2] rfl)
          · have hc1084 : v2.toInt = 0 := (fi_eq rfl (show (0 : Int32).toInt = 0 by decide)).mp c9
            refine lv_iconst (v := 1) hx hb dX6_readPlain_24 (by decide) ?_
            refine lv_goto (tgt := 29) hx hb dX6_readPlain_25 (by decide) ?_
            have hk_1 : (1 : Int32).toInt = 1 := by decide
            exact hj1087 1 (by omega) (by omega) _ (lv_sub hl [0, 2] rfl)
  have hk_0 : (0 : Int32).toInt = 0 := by decide
  have hk_0 : (0 : Int32).toInt = 0 := by decide
  exact hl975 401 0 0 _ _ (by omega) (by omega) (by omega) (by omega) (by omega) hG hS hg_0 _ (lv_sub hl [0, 1, 2] rfl)
set_option maxHeartbeats 4000000 in
set_option maxRecDepth 100000 in
theorem k_X6_readBoth_7 (l : Launch) (D : va_G) (cy : Nat → ClassId) (ld : Nat → Nat) (t : tk_T) (a0 : Nat) (ht_a0 : t a0 = (7, 0, 0)) : Met l yX6_readBoth (wl yX6_readBoth cX6_readBoth 3 none) ({ frames := 16, cells := 0, slots := 0, locals := 1050 }) (tp D cy ld t [] [.ref a0] (fun H => tk_f D H a0 6 9 (.int 7))) (tv D cy ld t [] (fun H => tk_f D H a0 6 9 (.int 7)) (tk_w t [(7, 0, 0), (20, 0, 0), (8, 12, 12)])) 0 0 (tk_w t [(7, 0, 0), (20, 0, 0), (8, 12, 12)]) := by
  refine tk_met (y := yX6_readBoth) (cc := cX6_readBoth) (maxL := 3) (ret := none) (av := [.ref a0]) _ _ (by decide) (Nat.le_of_ble_eq_true rfl) ?_
  intro p e s m args below meth c hx hb hr hml hts htl hown hlocks hK H locs hH hG hS hB hZ ls hl
  have hown : s.vm.findClass RX6 = some m.cls := hown
  have hl : lv_has ls 3 [(0, .ref a0)] := hl
  have hg_0 := hB
  refine lv_aload_n hx hb dX6_readBoth_0 rfl (lv_at hl 0 rfl) ?_
  refine tk_Vv (As := []) (rest := []) (ci := 6) ⟨hx, hb, hml, hown, hts⟩ hK hG hZ hS (k_X6_readPlain_7 l D cy ld t a0 ht_a0) hg_0 ⟨callB_of 0 hts (wl_in mw_648) rfl rfl rfl (htl _ mw_36) (htl _ mw_645) hd_yX6_readPlain ⟨(Nat.le_of_ble_eq_true rfl), (Nat.le_of_ble_eq_true rfl)⟩, htl _ mw_646, htl _ mw_647⟩ ht_a0 (by decide) tk_no rfl (tk_w.pick [0, 1, 2] rfl) rfl hl.1 rfl (Nat.le_of_ble_eq_true rfl) dX6_readBoth_1 ⟨(Nat.le_of_ble_eq_true rfl), (Nat.le_of_ble_eq_true rfl)⟩ (fun H locs hpo hG hS hq9 => ?_)
  have hf2 := hpo
  refine lv_iconst (v := 0) hx hb dX6_readBoth_4 (by decide) ?_
  refine lv_istore_n (lv' := [(1, .int 0), (0, .ref a0)]) hx hb dX6_readBoth_5 rfl hl (by decide) rfl (fun ls hl => ?_)
  have hl170 : ∀ (N_l170 : Nat) (v3 : Int32) (H : Heap) (locs : List Loc), 0 ≤ v3.toInt → v3.toInt ≤ 400 → (-1) * v3.toInt + 400 < (N_l170 : Int) → tk_G D cy ld t [] H → va_S (tk_w t [(7, 0, 0), (20, 0, 0), (8, 12, 12)]) s.heap H locs → tk_f D H a0 6 9 (.int 7) → ∀ ls : Array Slot, lv_has ls 3 [(1, .int v3), (0, .ref a0)] → W p l e ({ frames := 16, cells := 0, slots := 0, locals := 1050 }) s m args below meth c H locs 0 0 (MQ below (tv D cy ld t [] (fun H => tk_f D H a0 6 9 (.int 7)) (tk_w t [(7, 0, 0), (20, 0, 0), (8, 12, 12)])) args s 0 0 (tk_w t [(7, 0, 0), (20, 0, 0), (8, 12, 12)])) (F0 m 6 ls []) := by
    intro N_l170
    induction N_l170 with
    | zero => intro v3 H locs hq0_l170 hq1_l170 hm_l170 hG hS hf2 ls hl; exfalso; omega
    | succ N_l170 ih_l170 =>
      intro v3 H locs hq0_l170 hq1_l170 hm_l170 hG hS hf2 ls hl
      refine lv_iload_n hx hb dX6_readBoth_6 rfl (lv_at hl 0 rfl) ?_
      refine lv_sipush (v := 400) hx hb dX6_readBoth_7 (by decide) ?_
      refine lv_icmp_ge (tgt := 58) hx hb dX6_readBoth_10 (by decide) (fun c9 => ?_) (fun c9 => ?_)
      · have hc171 : 400 ≤ v3.toInt := (fi_le (show (400 : Int32).toInt = 400 by decide) rfl).mp c9
        exact tk_vret hx hb hr hlocks (show tk_f D H a0 6 9 (.int 7) from hf2) hG hS dX6_readBoth_58
      · have hc171 : ¬ (400 ≤ v3.toInt) := fun h9 => c9 ((fi_le (show (400 : Int32).toInt = 400 by decide) rfl).mpr h9)
        refine lv_aload_n hx hb dX6_readBoth_13 rfl (lv_at hl 1 rfl) ?_
        refine va_ldcS hx hb hown hK.2.2.2.2.2.2.2.2.2.2.2.2.2.1 dX6_readBoth_14 ?_
        refine tk_Vi (As := [.ref (ld 9)]) (rest := []) (ci := 6) ⟨hx, hb, hml, hown, hts⟩ hK hG hZ hS (k_X6_isWord_9 l D cy ld t a0 ht_a0) trivial ⟨callB_of 1 hts (wl_in mw_626) rfl rfl rfl (htl _ mw_36) (htl _ mw_623) hd_yX6_isWord ⟨(Nat.le_of_ble_eq_true rfl), (Nat.le_of_ble_eq_true rfl)⟩, htl _ mw_624, htl _ mw_625⟩ ht_a0 (by decide) tk_no rfl (tk_w.pick [] rfl) rfl hl.1 rfl (Nat.le_of_ble_eq_true rfl) dX6_readBoth_16 ⟨(Nat.le_of_ble_eq_true rfl), (Nat.le_of_ble_eq_true rfl)⟩ (fun v172 H locs hpo hG hS hq9 => ?_)
        have hf2 := hf2.call hq9 tk_w.nil
        obtain ⟨hpo174, hpo175, hpo176, hpo177⟩ := hpo
        refine lv_if_eq (tgt := 58) hx hb dX6_readBoth_19 (by decide) (fun c9 => ?_) (fun c9 => ?_)
        · have hc178 : v172.toInt = 0 := (fi_eq rfl (show (0 : Int32).toInt = 0 by decide)).mp c9
          exact tk_vret hx hb hr hlocks (show tk_f D H a0 6 9 (.int 7) from hf2) hG hS dX6_readBoth_58
        · have hc178 : ¬ (v172.toInt = 0) := fun h9 => c9 ((fi_eq rfl (show (0 : Int32).toInt = 0 by decide)).mpr h9)
          refine lv_aload_n hx hb dX6_readBoth_22 rfl (lv_at hl 1 rfl) ?_
          refine tk_get (ci := 6) (C := RX6) (T := TX6) (N := 11) (sp := (6, 8, 512, 12)) hx hb htl inX6 hown hK hG ht_a0 (by decide) tk_no rfl 0 (by decide) (htl _ mw_132) (fun _ h9 => h9) rfl dX6_readBoth_23 (fun v9 hf179 hV9 => ?_)
          obtain ⟨b180, rfl, ht_b180⟩ := hV9
          have ht_b180 : t b180 = (8, 512, 12) := ht_b180
          refine tk_get (ci := 7) (C := RX7) (T := TX7) (N := 10) (sp := (4, 0, 0, 0)) hx hb htl inX7 hown hK hG ht_b180 (by decide) tk_no rfl 6 (by decide) (htl _ mw_513) (fun _ h9 => h9) rfl dX6_readBoth_26 (fun v9 hf181 hV9 => ?_)
          obtain ⟨v182, rfl, (ha_v182 : 0 ≤ v182.toInt), (hb_v182 : v182.toInt ≤ 512)⟩ := hV9
          refine lv_istore_n (lv' := [(2, .int v182), (1, .int v3), (0, .ref a0)]) hx hb dX6_readBoth_29 rfl hl (by decide) rfl (fun ls hl => ?_)
          refine lv_aload_n hx hb dX6_readBoth_30 rfl (lv_at hl 2 rfl) ?_
          refine tk_get (ci := 6) (C := RX6) (T := TX6) (N := 11) (sp := (6, 8, 512, 12)) hx hb htl inX6 hown hK hG ht_a0 (by decide) tk_no rfl 0 (by decide) (htl _ mw_132) (fun _ h9 => h9) rfl dX6_readBoth_31 (fun v9 hf183 hV9 => ?_)
          obtain ⟨b184, rfl, ht_b184⟩ := hV9
          have ht_b184 : t b184 = (8, 512, 12) := ht_b184
          refine lv_iconst (v := 4) hx hb dX6_readBoth_34 (by decide) ?_
          refine lv_iconst (v := 0) hx hb dX6_readBoth_35 (by decide) ?_
          have hk_4 : (4 : Int32).toInt = 4 := by decide
          have hk_0 : (0 : Int32).toInt = 0 := by decide
          refine tk_Vv (As := [.int 4, .int 0]) (rest := []) (ci := 7) ⟨hx, hb, hml, hown, hts⟩ hK hG hZ hS (k_X7_put l D cy ld t b184 4 0 ht_b184) trivial ⟨callB_of 2 hts (wl_in mw_594) rfl rfl rfl (htl _ mw_131) (htl _ mw_591) hd_yX7_put ⟨(Nat.le_of_ble_eq_true rfl), (Nat.le_of_ble_eq_true rfl)⟩, htl _ mw_592, htl _ mw_593⟩ ht_b184 (by decide) tk_no rfl (tk_w.pick [1, 2] rfl) rfl hl.1 rfl (Nat.le_of_ble_eq_true rfl) dX6_readBoth_36 ⟨(Nat.le_of_ble_eq_true rfl), (Nat.le_of_ble_eq_true rfl)⟩ (fun H locs hpo hG hS hq9 => ?_)
          have hf2 := hf2.call hq9 (tk_w.no ht_a0 (by decide))
          refine lv_aload_n hx hb dX6_readBoth_39 rfl (lv_at hl 2 rfl) ?_
          have hk_7 : (7 : Int32).toInt = 7 := by decide
          refine tk_Vv (As := []) (rest := []) (ci := 6) ⟨hx, hb, hml, hown, hts⟩ hK hG hZ hS (k_X6_step l D cy ld t a0 7 ht_a0 (by omega) (by omega)) hf2 ⟨callB_of 0 hts (wl_in mw_494) rfl rfl rfl (htl _ mw_36) (htl _ mw_491) hd_yX6_step ⟨(Nat.le_of_ble_eq_true rfl), (Nat.le_of_ble_eq_true rfl)⟩, htl _ mw_492, htl _ mw_493⟩ ht_a0 (by decide) tk_no rfl (tk_w.pick [0] rfl) rfl hl.1 rfl (Nat.le_of_ble_eq_true rfl) dX6_readBoth_40 ⟨(Nat.le_of_ble_eq_true rfl), (Nat.le_of_ble_eq_true rfl)⟩ (fun H locs hpo hG hS hq9 => ?_)
          have hf187 := hpo
          refine lv_aload_n hx hb dX6_readBoth_43 rfl (lv_at hl 2 rfl) ?_
          refine tk_Vv (As := []) (rest := []) (ci := 6) ⟨hx, hb, hml, hown, hts⟩ hK hG hZ hS (k_X6_readPlain_7 l D cy ld t a0 ht_a0) hf187 ⟨callB_of 0 hts (wl_in mw_648) rfl rfl rfl (htl _ mw_36) (htl _ mw_645) hd_yX6_readPlain ⟨(Nat.le_of_ble_eq_true rfl), (Nat.le_of_ble_eq_true rfl)⟩, htl _ mw_646, htl _ mw_647⟩ ht_a0 (by decide) tk_no rfl (tk_w.pick [0, 1, 2] rfl) rfl hl.1 rfl (Nat.le_of_ble_eq_true rfl) dX6_readBoth_44 ⟨(Nat.le_of_ble_eq_true rfl), (Nat.le_of_ble_eq_true rfl)⟩ (fun H locs hpo hG hS hq9 => ?_)
          have hf189 := hpo
          refine lv_aload_n hx hb dX6_readBoth_47 rfl (lv_at hl 2 rfl) ?_
          refine lv_iload_n hx hb dX6_readBoth_48 rfl (lv_at hl 0 rfl) ?_
          refine tk_Vv (As := [.int v182]) (rest := []) (ci := 6) ⟨hx, hb, hml, hown, hts⟩ hK hG hZ hS (k_X6_landHere l D cy ld t a0 v182 ht_a0 (by omega) (by omega)) trivial ⟨callB_of 1 hts (wl_in mw_642) rfl rfl rfl (htl _ mw_36) (htl _ mw_639) hd_yX6_landHere ⟨(Nat.le_of_ble_eq_true rfl), (Nat.le_of_ble_eq_true rfl)⟩, htl _ mw_640, htl _ mw_641⟩ ht_a0 (by decide) tk_no rfl (tk_w.pick [1] rfl) rfl hl.1 rfl (Nat.le_of_ble_eq_true rfl) dX6_readBoth_49 ⟨(Nat.le_of_ble_eq_true rfl), (Nat.le_of_ble_eq_true rfl)⟩ (fun H locs hpo hG hS hq9 => ?_)
          have hf189 := hf189.call hq9 (tk_w.no ht_a0 (by decide))
          obtain ⟨v191, h_v191, e_v191⟩ := tk_inc v3 1 (by decide) (by omega) (by omega)
          refine lv_iinc (v := v191) (lv' := [(1, .int v191), (2, .int v182), (0, .ref a0)]) hx hb dX6_readBoth_52 hl (k := 1) rfl e_v191 (by decide) rfl (fun ls hl => ?_)
          refine lv_goto (tgt := 6) hx hb dX6_readBoth_55 (by decide) ?_
          exact ih_l170 v191 _ _ (by omega) (by omega) (by omega) hG hS hf189 _ (lv_sub hl [0, 2] rfl)
  have hk_0 : (0 : Int32).toInt = 0 := by decide
  exact hl170 401 0 _ _ (by omega) (by omega) (by omega) hG hS hf2 _ (lv_sub hl [0, 1] rfl)
