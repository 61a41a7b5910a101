theorem dX9_moveCows_0 : decode cX9_moveCows 0 = .ok (.aload_n 0, 1) := by decide +kernel
theorem dX9_moveCows_1 : decode cX9_moveCows 1 = .ok (.getfield 21, 3) := by decide +kernel
theorem dX9_moveCows_4 : decode cX9_moveCows 4 = .ok (.iload_n 1, 1) := by decide +kernel
theorem dX9_moveCows_5 : decode cX9_moveCows 5 = .ok (.sipush 9999, 3) := by decide +kernel
theorem dX9_moveCows_8 : decode cX9_moveCows 8 = .ok (.aload_n 0, 1) := by decide +kernel
theorem dX9_moveCows_9 : decode cX9_moveCows 9 = .ok (.getfield 21, 3) := by decide +kernel
theorem dX9_moveCows_12 : decode cX9_moveCows 12 = .ok (.iload_n 1, 1) := by decide +kernel
theorem dX9_moveCows_13 : decode cX9_moveCows 13 = .ok (.iaload, 1) := by decide +kernel
theorem dX9_moveCows_14 : decode cX9_moveCows 14 = .ok (.aload_n 0, 1) := by decide +kernel
theorem dX9_moveCows_15 : decode cX9_moveCows 15 = .ok (.getfield 43, 3) := by decide +kernel
theorem dX9_moveCows_18 : decode cX9_moveCows 18 = .ok (.iadd, 1) := by decide +kernel
theorem dX9_moveCows_19 : decode cX9_moveCows 19 = .ok (.invokestatic 56, 3) := by decide +kernel
theorem dX9_moveCows_22 : decode cX9_moveCows 22 = .ok (.iastore, 1) := by decide +kernel
theorem dX9_moveCows_23 : decode cX9_moveCows 23 = .ok (.aload_n 0, 1) := by decide +kernel
theorem dX9_moveCows_24 : decode cX9_moveCows 24 = .ok (.getfield 21, 3) := by decide +kernel
theorem dX9_moveCows_27 : decode cX9_moveCows 27 = .ok (.iload_n 2, 1) := by decide +kernel
theorem dX9_moveCows_28 : decode cX9_moveCows 28 = .ok (.iconst 0, 1) := by decide +kernel
theorem dX9_moveCows_29 : decode cX9_moveCows 29 = .ok (.aload_n 0, 1) := by decide +kernel
theorem dX9_moveCows_30 : decode cX9_moveCows 30 = .ok (.getfield 21, 3) := by decide +kernel
theorem dX9_moveCows_33 : decode cX9_moveCows 33 = .ok (.iload_n 2, 1) := by decide +kernel
theorem dX9_moveCows_34 : decode cX9_moveCows 34 = .ok (.iaload, 1) := by decide +kernel
theorem dX9_moveCows_35 : decode cX9_moveCows 35 = .ok (.aload_n 0, 1) := by decide +kernel
theorem dX9_moveCows_36 : decode cX9_moveCows 36 = .ok (.getfield 43, 3) := by decide +kernel
theorem dX9_moveCows_39 : decode cX9_moveCows 39 = .ok (.isub, 1) := by decide +kernel
theorem dX9_moveCows_40 : decode cX9_moveCows 40 = .ok (.invokestatic 62, 3) := by decide +kernel
theorem dX9_moveCows_43 : decode cX9_moveCows 43 = .ok (.iastore, 1) := by decide +kernel
theorem dX9_moveCows_44 : decode cX9_moveCows 44 = .ok (.return_, 1) := by decide +kernel
set_option maxHeartbeats 4000000 in
set_option maxRecDepth 100000 in
theorem k_X9_moveCows (l : Launch) (D : va_G) (cy : Nat → ClassId) (ld : Nat → Nat) (t : tk_T) (rg0 : Nat) (a0 : Nat) (p1 : Int32) (p2 : Int32) (ht_a0 : t a0 = (10, 0, rg0)) (hp_0 : 0 ≤ p1.toInt) (hp_1 : p1.toInt ≤ 1) (hp_2 : 0 ≤ p2.toInt) (hp_3 : p2.toInt ≤ 1) : Met l yX9_moveCows (wl yX9_moveCows cX9_moveCows 3 none) ({ frames := 4, cells := 0, slots := 0, locals := 210 }) (tp D cy ld t [] [.ref a0, .int p1, .int p2] (fun H => True)) (tv D cy ld t [] (fun H => True) (tk_w t [(20, rg0, rg0)])) 0 0 (tk_w t [(20, rg0, rg0)]) := by
  refine tk_met (y := yX9_moveCows) (cc := cX9_moveCows) (maxL := 3) (ret := none) (av := [.ref a0, .int p1, .int p2]) _ _ (by decide) (Nat.le_of_ble_eq_true rfl) ?_
  intro p e s m args below meth c hx hb hr hml hts htl hown hlocks hK H locs hH hG hS hB hZ ls hl
  have hown : s.vm.findClass RX9 = some m.cls := hown
  have hl : lv_has ls 3 [(0, .ref a0), (1, .int p1), (2, .int p2)] := hl
  have hr_p1 := tk_rng p1
  have hr_p2 := tk_rng p2
  refine lv_aload_n hx hb dX9_moveCows_0 rfl (lv_at hl 0 rfl) ?_
  refine tk_get (ci := 9) (C := RX9) (T := TX9) (N := 11) (sp := (1, 20, 2, 0)) hx hb htl inX9 hown hK hG ht_a0 (by decide) tk_no rfl 3 (by decide) (htl _ mw_85) (fun _ h9 => h9) rfl dX9_moveCows_1 (fun v9 hf1 hV9 => ?_)
  obtain ⟨b2, rfl, ht_b2⟩ := hV9
  have ht_b2 : t b2 = (20, 2, rg0) := ht_b2
  refine lv_iload_n hx hb dX9_moveCows_4 rfl (lv_at hl 1 rfl) ?_
  refine lv_sipush (v := 9999) hx hb dX9_moveCows_5 (by decide) ?_
  refine lv_aload_n hx hb dX9_moveCows_8 rfl (lv_at hl 0 rfl) ?_
  refine tk_get (ci := 9) (C := RX9) (T := TX9) (N := 11) (sp := (1, 20, 2, 0)) hx hb htl inX9 hown hK hG ht_a0 (by decide) tk_no rfl 3 (by decide) (htl _ mw_85) (fun _ h9 => h9) rfl dX9_moveCows_9 (fun v9 hf3 hV9 => ?_)
  obtain ⟨b4, rfl, ht_b4⟩ := hV9
  have ht_b4 : t b4 = (20, 2, rg0) := ht_b4
  refine lv_iload_n hx hb dX9_moveCows_12 rfl (lv_at hl 1 rfl) ?_
  refine tk_iald hx hb hK hG ht_b4 (by decide) (fun _ h => h) tk_no rfl (by omega) (by omega) dX9_moveCows_13 (fun v5 _ _ => ?_)
  have hr_v5 := tk_rng v5
  refine lv_aload_n hx hb dX9_moveCows_14 rfl (lv_at hl 0 rfl) ?_
  refine tk_get (ci := 9) (C := RX9) (T := TX9) (N := 11) (sp := (0, (-2147483648), 2147483647, 0)) hx hb htl inX9 hown hK hG ht_a0 (by decide) tk_no rfl 7 (by decide) (htl _ mw_824) (fun _ h9 => h9) rfl dX9_moveCows_15 (fun v9 hf6 hV9 => ?_)
  obtain ⟨v7, rfl, ha_v7, hb_v7⟩ := hV9
  refine lv_iadd hx hb dX9_moveCows_18 ?_
  obtain ⟨v8, hm_v8⟩ : ∃ z : Int32, v5 + v7 = z := ⟨_, rfl⟩
  refine fx_ti hm_v8 ?_
  refine va_mmin hx hb (by rw [hml]; exact hl.1.symm) hown (htl _ mw_970) (htl _ mw_473) (htl _ mw_474) (htl _ mw_475) (Nat.le_of_ble_eq_true rfl) (Nat.le_of_ble_eq_true rfl) (Nat.le_of_ble_eq_true rfl) (Nat.le_of_ble_eq_true rfl) dX9_moveCows_19 ?_
  refine tk_say (P := fun z => z.toInt ≤ 9999 ∧ z.toInt ≤ v8.toInt ∧ (z.toInt = 9999 ∨ z.toInt = v8.toInt)) (tk_min (by decide) rfl) (fun v9 h_v9 => ?_)
  refine tk_iast hx hb hK hG hS ht_b2 (by decide) (fun _ => Iff.rfl) tk_no rfl (by omega) (by omega) trivial (tk_w.of ht_b2 (by decide) (List.mem_of_getElem? (i := 0) rfl) (Nat.le_refl _) (Nat.le_refl _)) dX9_moveCows_22 (fun H locs hG hS hq9 => ?_)
  refine lv_aload_n hx hb dX9_moveCows_23 rfl (lv_at hl 0 rfl) ?_
  refine tk_get (ci := 9) (C := RX9) (T := TX9) (N := 11) (sp := (1, 20, 2, 0)) hx hb htl inX9 hown hK hG ht_a0 (by decide) tk_no rfl 3 (by decide) (htl _ mw_85) (fun _ h9 => h9) rfl dX9_moveCows_24 (fun v9 hf11 hV9 => ?_)
  obtain ⟨b12, rfl, ht_b12⟩ := hV9
  have ht_b12 : t b12 = (20, 2, rg0) := ht_b12
  refine lv_iload_n hx hb dX9_moveCows_27 rfl (lv_at hl 2 rfl) ?_
  refine lv_iconst (v := 0) hx hb dX9_moveCows_28 (by decide) ?_
  refine lv_aload_n hx hb dX9_moveCows_29 rfl (lv_at hl 0 rfl) ?_
  refine tk_get (ci := 9) (C := RX9) (T := TX9) (N := 11) (sp := (1, 20, 2, 0)) hx hb htl inX9 hown hK hG ht_a0 (by decide) tk_no rfl 3 (by decide) (htl _ mw_85) (fun _ h9 => h9) rfl dX9_moveCows_30 (fun v9 hf13 hV9 => ?_)
  obtain ⟨b14, rfl, ht_b14⟩ := hV9
  have ht_b14 : t b14 = (20, 2, rg0) := ht_b14
  refine lv_iload_n hx hb dX9_moveCows_33 rfl (lv_at hl 2 rfl) ?_
  refine tk_iald hx hb hK hG ht_b14 (by decide) (fun _ h => h) tk_no rfl (by omega) (by omega) dX9_moveCows_34 (fun v15 _ _ => ?_)
  have hr_v15 := tk_rng v15
  refine lv_aload_n hx hb dX9_moveCows_35 rfl (lv_at hl 0 rfl) ?_
  refine tk_get (ci := 9) (C := RX9) (T := TX9) (N := 11) (sp := (0, (-2147483648), 2147483647, 0)) hx hb htl inX9 hown hK hG ht_a0 (by decide) tk_no rfl 7 (by decide) (htl _ mw_824) (fun _ h9 => h9) rfl dX9_moveCows_36 (fun v9 hf16 hV9 => ?_)
  obtain ⟨v17, rfl, ha_v17, hb_v17⟩ := hV9
  refine lv_isub hx hb dX9_moveCows_39 ?_
  obtain ⟨v18, hm_v18⟩ : ∃ z : Int32, v15 - v17 = z := ⟨_, rfl⟩
  refine fx_ti hm_v18 ?_
  refine va_mmax hx hb (by rw [hml]; exact hl.1.symm) hown (htl _ mw_971) (htl _ mw_948) (htl _ mw_474) (htl _ mw_949) (Nat.le_of_ble_eq_true rfl) (Nat.le_of_ble_eq_true rfl) (Nat.le_of_ble_eq_true rfl) (Nat.le_of_ble_eq_true rfl) dX9_moveCows_40 ?_
  refine tk_say (P := fun z => 0 ≤ z.toInt ∧ v18.toInt ≤ z.toInt ∧ (z.toInt = 0 ∨ z.toInt = v18.toInt)) (tk_max (by decide) rfl) (fun v19 h_v19 => ?_)
  refine tk_iast hx hb hK hG hS ht_b12 (by decide) (fun _ => Iff.rfl) tk_no rfl (by omega) (by omega) trivial (tk_w.of ht_b12 (by decide) (List.mem_of_getElem? (i := 0) rfl) (Nat.le_refl _) (Nat.le_refl _)) dX9_moveCows_43 (fun H locs hG hS hq9 => ?_)
  exact tk_vret hx hb hr hlocks trivial hG hS dX9_moveCows_44
theorem dX9_passTurn_0 : decode cX9_passTurn 0 = .ok (.aload_n 0, 1) := by decide +kernel
theorem dX9_passTurn_1 : decode cX9_passTurn 1 = .ok (.getfield 49, 3) := by decide +kernel
theorem dX9_passTurn_17 : decode cX9_passTurn 17 = .ok (.aload_n 0, 1) := by decide +kernel
theorem dX9_passTurn_18 : decode cX9_passTurn 18 = .ok (.aload_n 0, 1) := by decide +kernel
theorem dX9_passTurn_19 : decode cX9_passTurn 19 = .ok (.getfield 49, 3) := by decide +kernel
theorem dX9_passTurn_30 : decode cX9_passTurn 30 = .ok (.putfield 49, 3) := by decide +kernel
theorem dX9_passTurn_33 : decode cX9_passTurn 33 = .ok (.aload_n 0, 1) := by decide +kernel
theorem dX9_passTurn_34 : decode cX9_passTurn 34 = .ok (.getfield 46, 3) := by decide +kernel
theorem dX9_passTurn_37 : decode cX9_passTurn 37 = .ok (.bipush 12, 2) := by decide +kernel
theorem dX9_passTurn_46 : decode cX9_passTurn 46 = .ok (.return_, 1) := by decide +kernel
theorem dX9_passTurn_39 : decode cX9_passTurn 39 = .ok (.if_icmp .lt 7, 3) := by decide +kernel
theorem dX9_passTurn_42 : decode cX9_passTurn 42 = .ok (.aload_n 0, 1) := by decide +kernel
theorem dX9_passTurn_43 : decode cX9_passTurn 43 = .ok (.invokevirtual 53, 3) := by decide +kernel
theorem dX9_passTurn_22 : decode cX9_passTurn 22 = .ok (.ifCond .ne 7, 3) := by decide +kernel
theorem dX9_passTurn_29 : decode cX9_passTurn 29 = .ok (.iconst 0, 1) := by decide +kernel
theorem dX9_passTurn_25 : decode cX9_passTurn 25 = .ok (.iconst 1, 1) := by decide +kernel
theorem dX9_passTurn_26 : decode cX9_passTurn 26 = .ok (.goto 4, 3) := by decide +kernel
theorem dX9_passTurn_4 : decode cX9_passTurn 4 = .ok (.ifCond .eq 13, 3) := by decide +kernel
theorem dX9_passTurn_7 : decode cX9_passTurn 7 = .ok (.aload_n 0, 1) := by decide +kernel
theorem dX9_passTurn_8 : decode cX9_passTurn 8 = .ok (.dup, 1) := by decide +kernel
theorem dX9_passTurn_9 : decode cX9_passTurn 9 = .ok (.getfield 46, 3) := by decide +kernel
theorem dX9_passTurn_12 : decode cX9_passTurn 12 = .ok (.iconst 1, 1) := by decide +kernel
theorem dX9_passTurn_13 : decode cX9_passTurn 13 = .ok (.iadd, 1) := by decide +kernel
theorem dX9_passTurn_14 : decode cX9_passTurn 14 = .ok (.putfield 46, 3) := by decide +kernel
set_option maxHeartbeats 4000000 in
set_option maxRecDepth 100000 in
theorem k_X9_passTurn (l : Launch) (D : va_G) (cy : Nat → ClassId) (ld : Nat → Nat) (t : tk_T) (rg0 : Nat) (a0 : Nat) (ht_a0 : t a0 = (10, 0, rg0)) : Met l yX9_passTurn (wl yX9_passTurn cX9_passTurn 1 none) ({ frames := 4, cells := 0, slots := 0, locals := 210 }) (tp D cy ld t [] [.ref a0] (fun H => True)) (tv D cy ld t [] (fun H => True) (tk_w t [(10, rg0, rg0)])) 0 0 (tk_w t [(10, rg0, rg0)]) := by
  refine tk_met (y := yX9_passTurn) (cc := cX9_passTurn) (maxL := 1) (ret := none) (av := [.ref a0]) _ _ (by decide) (Nat.le_of_ble_eq_true rfl) ?_
  intro p e s m args below meth c hx hb hr hml hts htl hown hlocks hK H locs hH hG hS hB hZ ls hl
  have hown : s.vm.findClass RX9 = some m.cls := hown
  have hl : lv_has ls 1 [(0, .ref a0)] := hl
  refine lv_aload_n hx hb dX9_passTurn_0 rfl (lv_at hl 0 rfl) ?_
  refine tk_get (ci := 9) (C := RX9) (T := TX9) (N := 11) (sp := (0, 0, 1, 0)) hx hb htl inX9 hown hK hG ht_a0 (by decide) tk_no rfl 9 (by decide) (htl _ mw_826) (fun _ h9 => h9) rfl dX9_passTurn_1 (fun v9 hf1 hV9 => ?_)
  obtain ⟨v2, rfl, ha_v2, hb_v2⟩ := hV9
  have hj11 : ∀ (H : Heap) (locs : List Loc), tk_G D cy ld t [] H → va_S (tk_w t [(10, rg0, rg0)]) s.heap H locs → ∀ ls : Array Slot, lv_has ls 1 [(0, .ref a0)] → W p l e ({ frames := 4, cells := 0, slots := 0, locals := 210 }) s m args below meth c H locs 0 0 (MQ below (tv D cy ld t [] (fun H => True) (tk_w t [(10, rg0, rg0)])) args s 0 0 (tk_w t [(10, rg0, rg0)])) (F0 m 17 ls []) := by
    intro H locs hG hS ls hl
    refine lv_aload_n hx hb dX9_passTurn_17 rfl (lv_at hl 0 rfl) ?_
    refine lv_aload_n hx hb dX9_passTurn_18 rfl (lv_at hl 0 rfl) ?_
    refine tk_get (ci := 9) (C := RX9) (T := TX9) (N := 11) (sp := (0, 0, 1, 0)) hx hb htl inX9 hown hK hG ht_a0 (by decide) tk_no rfl 9 (by decide) (htl _ mw_826) (fun _ h9 => h9) rfl dX9_passTurn_19 (fun v9 hf12 hV9 => ?_)
    obtain ⟨v13, rfl, ha_v13, hb_v13⟩ := hV9
    have hj17 : ∀ (v16 : Int32), 0 ≤ v16.toInt → v16.toInt ≤ 1 → ∀ ls : Array Slot, lv_has ls 1 [(0, .ref a0)] → W p l e ({ frames := 4, cells := 0, slots := 0, locals := 210 }) s m args below meth c H locs 0 0 (MQ below (tv D cy ld t [] (fun H => True) (tk_w t [(10, rg0, rg0)])) args s 0 0 (tk_w t [(10, rg0, rg0)])) (F0 m 30 ls [.int v16, .ref a0]) := by
      intro v16 hq0_j17 hq1_j17 ls hl
      refine tk_put (ci := 9) (v := .int v16) (ty := .boolean) (C := RX9) (T := TX9) (N := 11) (sp := (0, 0, 1, 0)) hx hb htl inX9 tyX9 tyX9_ok nmX9 hown hK hG hS ht_a0 (by decide) tk_no rfl 9 (by decide) (htl _ mw_826) (fun _ h9 => h9) rfl (tyX9_ok 9 (by decide)) (tk_nz (by omega) (by omega)) rfl rfl (tk_Vi (by omega) (by omega)) (fun _ h => tk_X10 h (by decide) (by decide)) (tk_w.of ht_a0 (by decide) (List.mem_of_getElem? (i := 0) rfl) (Nat.le_refl _) (Nat.le_refl _)) dX9_passTurn_30 (fun H locs hG hS hf18 hq9 hj9 => ?_)
      refine lv_aload_n hx hb dX9_passTurn_33 rfl (lv_at hl 0 rfl) ?_
      refine tk_get (ci := 9) (C := RX9) (T := TX9) (N := 11) (sp := (0, (-2147483648), 2147483647, 0)) hx hb htl inX9 hown hK hG ht_a0 (by decide) tk_no rfl 8 (by decide) (htl _ mw_825) (fun _ h9 => h9) rfl dX9_passTurn_34 (fun v9 hf20 hV9 => ?_)
      obtain ⟨v21, rfl, ha_v21, hb_v21⟩ := hV9
      refine lv_bipush (v := 12) hx hb dX9_passTurn_37 (by decide) ?_
      have hj27 : ∀ (H : Heap) (locs : List Loc), tk_G D cy ld t [] H → va_S (tk_w t [(10, rg0, rg0)]) s.heap H locs → ∀ ls : Array Slot, lv_has ls 1 [] → W p l e ({ frames := 4, cells := 0, slots := 0, locals := 210 }) s m args below meth c H locs 0 0 (MQ below (tv D cy ld t [] (fun H => True) (tk_w t [(10, rg0, rg0)])) args s 0 0 (tk_w t [(10, rg0, rg0)])) (F0 m 46 ls []) := by
        intro H locs hG hS ls hl
        exact tk_vret hx hb hr hlocks trivial hG hS dX9_passTurn_46
      refine lv_icmp_lt (tgt := 46) hx hb dX9_passTurn_39 (by decide) (fun c9 => ?_) (fun c9 => ?_)
      · have hc22 : v21.toInt < 12 := (fi_lt rfl (by decide)).mp c9
        exact hj27 _ _ hG hS _ (lv_sub hl [] rfl)
      · have hc22 : ¬ (v21.toInt < 12) := fun h9 => c9 ((fi_lt rfl (by decide)).mpr h9)
        refine lv_aload_n hx hb dX9_passTurn_42 rfl (lv_at hl 0 rfl) ?_
        refine tk_Vv (As := []) (rest := []) (ci := 9) ⟨hx, hb, hml, hown, hts⟩ hK hG hZ hS (k_X9_closeDuel l D cy ld t rg0 a0 ht_a0) trivial ⟨callB_of 0 hts (wl_in mw_975) rfl rfl rfl (htl _ mw_76) (htl _ mw_980) hd_yX9_closeDuel ⟨(Nat.le_of_ble_eq_true rfl), (Nat.le_of_ble_eq_true rfl)⟩, htl _ mw_973, htl _ mw_974⟩ ht_a0 (by decide) tk_no rfl (tk_w.pick [0] rfl) rfl hl.1 rfl (Nat.le_of_ble_eq_true rfl) dX9_passTurn_43 ⟨(Nat.le_of_ble_eq_true rfl), (Nat.le_of_ble_eq_true rfl)⟩ (fun H locs hpo hG hS hq9 => ?_)
        have hf29 := hpo
        exact hj27 _ _ hG hS _ (lv_sub hl [] rfl)
    refine lv_if_ne (tgt := 29) hx hb dX9_passTurn_22 (by decide) (fun c9 => ?_) (fun c9 => ?_)
    · have hc14 : ¬ (v13.toInt = 0) := fun h9 => c9 ((fi_eq rfl (by decide)).mpr h9)
      refine lv_iconst (v := 0) hx hb dX9_passTurn_29 (by decide) ?_
      have hk_0 : (0 : Int32).toInt = 0 := by decide
      exact hj17 0 (by omega) (by omega) _ (lv_sub hl [0] rfl)
    · have hc14 : v13.toInt = 0 := (fi_eq rfl (by decide)).mp c9
      refine lv_iconst (v := 1) hx hb dX9_passTurn_25 (by decide) ?_
      refine lv_goto (tgt := 30) hx hb dX9_passTurn_26 (by decide) ?_
      have hk_1 : (1 : Int32).toInt = 1 := by decide
      exact hj17 1 (by omega) (by omega) _ (lv_sub hl [0] rfl)
  refine lv_if_eq (tgt := 17) hx hb dX9_passTurn_4 (by decide) (fun c9 => ?_) (fun c9 => ?_)
  · have hc3 : v2.toInt = 0 := (fi_eq rfl (by decide)).mp c9
    exact hj11 _ _ hG hS _ (lv_sub hl [0] rfl)
  · have hc3 : ¬ (v2.toInt = 0) := fun h9 => c9 ((fi_eq rfl (by decide)).mpr h9)
    refine lv_aload_n hx hb dX9_passTurn_7 rfl (lv_at hl 0 rfl) ?_
    refine lv_dup hx hb dX9_passTurn_8 rfl ?_
    refine tk_get (ci := 9) (C := RX9) (T := TX9) (N := 11) (sp := (0, (-2147483648), 2147483647, 0)) hx hb htl inX9 hown hK hG ht_a0 (by decide) tk_no rfl 8 (by decide) (htl _ mw_825) (fun _ h9 => h9) rfl dX9_passTurn_9 (fun v9 hf30 hV9 => ?_)
    obtain ⟨v31, rfl, ha_v31, hb_v31⟩ := hV9
    refine lv_iconst (v := 1) hx hb dX9_passTurn_12 (by decide) ?_
    refine lv_iadd hx hb dX9_passTurn_13 ?_
    obtain ⟨v32, hm_v32⟩ : ∃ z : Int32, v31 + 1 = z := ⟨_, rfl⟩
    refine fx_ti hm_v32 ?_
    refine tk_put (ci := 9) (v := .int v32) (ty := .int) (C := RX9) (T := TX9) (N := 11) (sp := (0, (-2147483648), 2147483647, 0)) hx hb htl inX9 tyX9 tyX9_ok nmX9 hown hK hG hS ht_a0 (by decide) tk_no rfl 8 (by decide) (htl _ mw_825) (fun _ h9 => h9) rfl (tyX9_ok 8 (by decide)) rfl rfl rfl (tk_Vi (tk_rng _).1 (tk_rng _).2) (fun _ h => tk_X10 h (by decide) (by decide)) (tk_w.of ht_a0 (by decide) (List.mem_of_getElem? (i := 0) rfl) (Nat.le_refl _) (Nat.le_refl _)) dX9_passTurn_14 (fun H locs hG hS hf33 hq9 hj9 => ?_)
    exact hj11 _ _ hG hS _ (lv_sub hl [0] rfl)
theorem dX8_singOn_0 : decode cX8_singOn 0 = .ok (.aload_n 0, 1) := by decide +kernel
theorem dX8_singOn_1 : decode cX8_singOn 1 = .ok (.aload_n 1, 1) := by decide +kernel
theorem dX8_singOn_2 : decode cX8_singOn 2 = .ok (.iload_n 2, 1) := by decide +kernel
theorem dX8_singOn_3 : decode cX8_singOn 3 = .ok (.invokevirtual 22, 3) := by decide +kernel
theorem dX8_singOn_6 : decode cX8_singOn 6 = .ok (.aload_n 0, 1) := by decide +kernel
theorem dX8_singOn_7 : decode cX8_singOn 7 = .ok (.invokevirtual 26, 3) := by decide +kernel
theorem dX8_singOn_10 : decode cX8_singOn 10 = .ok (.istore_n 3, 1) := by decide +kernel
theorem dX8_singOn_11 : decode cX8_singOn 11 = .ok (.aload_n 0, 1) := by decide +kernel
theorem dX8_singOn_12 : decode cX8_singOn 12 = .ok (.invokevirtual 30, 3) := by decide +kernel
theorem dX8_singOn_15 : decode cX8_singOn 15 = .ok (.istore 4, 2) := by decide +kernel
theorem dX8_singOn_17 : decode cX8_singOn 17 = .ok (.aload_n 1, 1) := by decide +kernel
theorem dX8_singOn_18 : decode cX8_singOn 18 = .ok (.invokevirtual 86, 3) := by decide +kernel
theorem dX8_singOn_21 : decode cX8_singOn 21 = .ok (.istore 5, 2) := by decide +kernel
theorem dX8_singOn_23 : decode cX8_singOn 23 = .ok (.aload_n 1, 1) := by decide +kernel
theorem dX8_singOn_24 : decode cX8_singOn 24 = .ok (.invokevirtual 89, 3) := by decide +kernel
theorem dX8_singOn_27 : decode cX8_singOn 27 = .ok (.istore 6, 2) := by decide +kernel
theorem dX8_singOn_29 : decode cX8_singOn 29 = .ok (.aload_n 1, 1) := by decide +kernel
theorem dX8_singOn_30 : decode cX8_singOn 30 = .ok (.getfield 55, 3) := by decide +kernel
theorem dX8_singOn_33 : decode cX8_singOn 33 = .ok (.iload 6, 2) := by decide +kernel
theorem dX8_singOn_35 : decode cX8_singOn 35 = .ok (.iconst 0, 1) := by decide +kernel
theorem dX8_singOn_36 : decode cX8_singOn 36 = .ok (.aload_n 1, 1) := by decide +kernel
theorem dX8_singOn_37 : decode cX8_singOn 37 = .ok (.getfield 55, 3) := by decide +kernel
theorem dX8_singOn_40 : decode cX8_singOn 40 = .ok (.iload 6, 2) := by decide +kernel
theorem dX8_singOn_42 : decode cX8_singOn 42 = .ok (.iaload, 1) := by decide +kernel
theorem dX8_singOn_43 : decode cX8_singOn 43 = .ok (.iload_n 3, 1) := by decide +kernel
theorem dX8_singOn_44 : decode cX8_singOn 44 = .ok (.isub, 1) := by decide +kernel
theorem dX8_singOn_45 : decode cX8_singOn 45 = .ok (.invokestatic 92, 3) := by decide +kernel
theorem dX8_singOn_48 : decode cX8_singOn 48 = .ok (.iastore, 1) := by decide +kernel
theorem dX8_singOn_49 : decode cX8_singOn 49 = .ok (.iload_n 3, 1) := by decide +kernel
theorem dX8_singOn_50 : decode cX8_singOn 50 = .ok (.aload_n 0, 1) := by decide +kernel
theorem dX8_singOn_51 : decode cX8_singOn 51 = .ok (.getfield 18, 3) := by decide +kernel
theorem dX8_singOn_54 : decode cX8_singOn 54 = .ok (.getfield 97, 3) := by decide +kernel
theorem dX8_singOn_71 : decode cX8_singOn 71 = .ok (.aload_n 1, 1) := by decide +kernel
theorem dX8_singOn_72 : decode cX8_singOn 72 = .ok (.getfield 55, 3) := by decide +kernel
theorem dX8_singOn_75 : decode cX8_singOn 75 = .ok (.iload 5, 2) := by decide +kernel
theorem dX8_singOn_77 : decode cX8_singOn 77 = .ok (.iconst 1, 1) := by decide +kernel
theorem dX8_singOn_78 : decode cX8_singOn 78 = .ok (.aload_n 1, 1) := by decide +kernel
theorem dX8_singOn_79 : decode cX8_singOn 79 = .ok (.getfield 55, 3) := by decide +kernel
theorem dX8_singOn_82 : decode cX8_singOn 82 = .ok (.iload 5, 2) := by decide +kernel
theorem dX8_singOn_84 : decode cX8_singOn 84 = .ok (.iaload, 1) := by decide +kernel
theorem dX8_singOn_85 : decode cX8_singOn 85 = .ok (.iload 4, 2) := by decide +kernel
theorem dX8_singOn_87 : decode cX8_singOn 87 = .ok (.isub, 1) := by decide +kernel
theorem dX8_singOn_88 : decode cX8_singOn 88 = .ok (.invokestatic 92, 3) := by decide +kernel
theorem dX8_singOn_91 : decode cX8_singOn 91 = .ok (.iastore, 1) := by decide +kernel
theorem dX8_singOn_92 : decode cX8_singOn 92 = .ok (.aload_n 1, 1) := by decide +kernel
theorem dX8_singOn_93 : decode cX8_singOn 93 = .ok (.aload_n 0, 1) := by decide +kernel
theorem dX8_singOn_94 : decode cX8_singOn 94 = .ok (.getfield 18, 3) := by decide +kernel
theorem dX8_singOn_97 : decode cX8_singOn 97 = .ok (.getfield 103, 3) := by decide +kernel
theorem dX8_singOn_100 : decode cX8_singOn 100 = .ok (.iload_n 2, 1) := by decide +kernel
theorem dX8_singOn_101 : decode cX8_singOn 101 = .ok (.iaload, 1) := by decide +kernel
theorem dX8_singOn_102 : decode cX8_singOn 102 = .ok (.putfield 106, 3) := by decide +kernel
theorem dX8_singOn_105 : decode cX8_singOn 105 = .ok (.aload_n 1, 1) := by decide +kernel
theorem dX8_singOn_106 : decode cX8_singOn 106 = .ok (.getfield 55, 3) := by decide +kernel
theorem dX8_singOn_109 : decode cX8_singOn 109 = .ok (.iload 6, 2) := by decide +kernel
theorem dX8_singOn_111 : decode cX8_singOn 111 = .ok (.iaload, 1) := by decide +kernel
theorem dX8_singOn_158 : decode cX8_singOn 158 = .ok (.aload_n 1, 1) := by decide +kernel
theorem dX8_singOn_159 : decode cX8_singOn 159 = .ok (.getfield 55, 3) := by decide +kernel
theorem dX8_singOn_162 : decode cX8_singOn 162 = .ok (.iload 6, 2) := by decide +kernel
theorem dX8_singOn_164 : decode cX8_singOn 164 = .ok (.iaload, 1) := by decide +kernel
theorem dX8_singOn_165 : decode cX8_singOn 165 = .ok (.ireturn, 1) := by decide +kernel
theorem dX8_singOn_112 : decode cX8_singOn 112 = .ok (.ifCond .ne 42, 3) := by decide +kernel
theorem dX8_singOn_154 : decode cX8_singOn 154 = .ok (.aload_n 1, 1) := by decide +kernel
theorem dX8_singOn_155 : decode cX8_singOn 155 = .ok (.invokevirtual 122, 3) := by decide +kernel
theorem dX8_singOn_115 : decode cX8_singOn 115 = .ok (.aload_n 1, 1) := by decide +kernel
theorem dX8_singOn_116 : decode cX8_singOn 116 = .ok (.getfield 109, 3) := by decide +kernel
theorem dX8_singOn_119 : decode cX8_singOn 119 = .ok (.iload 6, 2) := by decide +kernel
theorem dX8_singOn_121 : decode cX8_singOn 121 = .ok (.iconst 1, 1) := by decide +kernel
theorem dX8_singOn_122 : decode cX8_singOn 122 = .ok (.iastore, 1) := by decide +kernel
theorem dX8_singOn_123 : decode cX8_singOn 123 = .ok (.aload_n 1, 1) := by decide +kernel
theorem dX8_singOn_124 : decode cX8_singOn 124 = .ok (.aload_n 0, 1) := by decide +kernel
theorem dX8_singOn_125 : decode cX8_singOn 125 = .ok (.getfield 18, 3) := by decide +kernel
theorem dX8_singOn_128 : decode cX8_singOn 128 = .ok (.getfield 112, 3) := by decide +kernel
theorem dX8_singOn_131 : decode cX8_singOn 131 = .ok (.iload 5, 2) := by decide +kernel
theorem dX8_singOn_133 : decode cX8_singOn 133 = .ok (.iaload, 1) := by decide +kernel
theorem dX8_singOn_134 : decode cX8_singOn 134 = .ok (.aload_n 0, 1) := by decide +kernel
theorem dX8_singOn_135 : decode cX8_singOn 135 = .ok (.getfield 18, 3) := by decide +kernel
theorem dX8_singOn_138 : decode cX8_singOn 138 = .ok (.getfield 112, 3) := by decide +kernel
theorem dX8_singOn_141 : decode cX8_singOn 141 = .ok (.iload 6, 2) := by decide +kernel
theorem dX8_singOn_143 : decode cX8_singOn 143 = .ok (.iaload, 1) := by decide +kernel
theorem dX8_singOn_144 : decode cX8_singOn 144 = .ok (.invokevirtual 115, 3) := by decide +kernel
theorem dX8_singOn_147 : decode cX8_singOn 147 = .ok (.aload_n 1, 1) := by decide +kernel
theorem dX8_singOn_148 : decode cX8_singOn 148 = .ok (.invokevirtual 119, 3) := by decide +kernel
theorem dX8_singOn_151 : decode cX8_singOn 151 = .ok (.goto 7, 3) := by decide +kernel
theorem dX8_singOn_57 : decode cX8_singOn 57 = .ok (.if_icmp .lt 14, 3) := by decide +kernel
theorem dX8_singOn_60 : decode cX8_singOn 60 = .ok (.aload_n 1, 1) := by decide +kernel
theorem dX8_singOn_61 : decode cX8_singOn 61 = .ok (.getfield 100, 3) := by decide +kernel
theorem dX8_singOn_64 : decode cX8_singOn 64 = .ok (.iload 6, 2) := by decide +kernel
theorem dX8_singOn_66 : decode cX8_singOn 66 = .ok (.dup2, 1) := by decide +kernel
theorem dX8_singOn_67 : decode cX8_singOn 67 = .ok (.iaload, 1) := by decide +kernel
theorem dX8_singOn_68 : decode cX8_singOn 68 = .ok (.iconst 1, 1) := by decide +kernel
theorem dX8_singOn_69 : decode cX8_singOn 69 = .ok (.iadd, 1) := by decide +kernel
theorem dX8_singOn_70 : decode cX8_singOn 70 = .ok (.iastore, 1) := by decide +kernel
set_option maxHeartbeats 4000000 in
set_option maxRecDepth 100000 in
theorem k_X8_singOn (l : Launch) (D : va_G) (cy : Nat → ClassId) (ld : Nat → Nat) (t : tk_T) (rg1 : Nat) (a0 : Nat) (a1 : Nat) (p2 : Int32) (g0 : Int32) (ht_a0 : t a0 = (9, 0, 0)) (ht_a1 : t a1 = (10, 0, rg1)) (hp_0 : 0 ≤ p2.toInt) (hp_1 : p2.toInt ≤ 9) (hp_2 : 0 ≤ g0.toInt) (hp_3 : g0.toInt ≤ 7) : Met l yX8_singOn (wl yX8_singOn cX8_singOn 7 (some .int)) ({ frames := 6, cells := 0, slots := 0, locals := 350 }) (tp D cy ld t [] [.ref a0, .ref a1, .int p2] (fun H => tk_f D H a1 9 5 (.int g0))) (ti D cy ld t [] (fun r H => True) (tk_w t [(20, 0, 0), (12, 0, 0), (9, 0, 0), (20, rg1, rg1), (10, rg1, rg1)])) 0 0 (tk_w t [(20, 0, 0), (12, 0, 0), (9, 0, 0), (20, rg1, rg1), (10, rg1, rg1)]) := by
  refine tk_met (y := yX8_singOn) (cc := cX8_singOn) (maxL := 7) (ret := (some .int)) (av := [.ref a0, .ref a1, .int p2]) _ _ (by decide) (Nat.le_of_ble_eq_true rfl) ?_
  intro p e s m args below meth c hx hb hr hml hts htl hown hlocks hK H locs hH hG hS hB hZ ls hl
  have hown : s.vm.findClass RX8 = some m.cls := hown
  have hl : lv_has ls 7 [(0, .ref a0), (1, .ref a1), (2, .int p2)] := hl
  have hg_0 := hB
  have hr_p2 := tk_rng p2
  refine lv_aload_n hx hb dX8_singOn_0 rfl (lv_at hl 0 rfl) ?_
  refine lv_aload_n hx hb dX8_singOn_1 rfl (lv_at hl 1 rfl) ?_
  refine lv_iload_n hx hb dX8_singOn_2 rfl (lv_at hl 2 rfl) ?_
  refine tk_Vv (As := [.ref a1, .int p2]) (rest := []) (ci := 8) ⟨hx, hb, hml, hown, hts⟩ hK hG hZ hS (k_X8_setWords l D cy ld t rg1 a0 a1 p2 g0 ht_a0 ht_a1 (by omega) (by omega) (by omega) (by omega)) hg_0 ⟨callB_of 2 hts (wl_in mw_913) rfl rfl rfl (htl _ mw_21) (htl _ mw_910) hd_yX8_setWords ⟨(Nat.le_of_ble_eq_true rfl), (Nat.le_of_ble_eq_true rfl)⟩, htl _ mw_911, htl _ mw_912⟩ ht_a0 (by decide) tk_no rfl (tk_w.pick [0] rfl) rfl hl.1 rfl (Nat.le_of_ble_eq_true rfl) dX8_singOn_3 ⟨(Nat.le_of_ble_eq_true rfl), (Nat.le_of_ble_eq_true rfl)⟩ (fun H locs hpo hG hS hq9 => ?_)
  have hg_0 := hg_0.call hq9 (tk_w.no ht_a1 (by intro q hq h1 h2 h3; simp only [List.mem_cons, List.not_mem_nil, or_false] at hq; rcases hq with rfl <;> (dsimp only at h1 h2 h3; omega)))
  refine lv_aload_n hx hb dX8_singOn_6 rfl (lv_at hl 0 rfl) ?_
  refine tk_Vi (As := []) (rest := []) (ci := 8) ⟨hx, hb, hml, hown, hts⟩ hK hG hZ hS (k_X8_lullByWords l D cy ld t a0 ht_a0) trivial ⟨callB_of 0 hts (wl_in mw_957) rfl rfl rfl (htl _ mw_21) (htl _ mw_954) hd_yX8_lullByWords ⟨(Nat.le_of_ble_eq_true rfl), (Nat.le_of_ble_eq_true rfl)⟩, htl _ mw_955, htl _ mw_956⟩ ht_a0 (by decide) tk_no rfl (tk_w.pick [1, 0, 2] rfl) rfl hl.1 rfl (Nat.le_of_ble_eq_true rfl) dX8_singOn_7 ⟨(Nat.le_of_ble_eq_true rfl), (Nat.le_of_ble_eq_true rfl)⟩ (fun v2 H locs hpo hG hS hq9 => ?_)
  have hg_0 := hg_0.call hq9 (tk_w.no ht_a1 (by intro q hq h1 h2 h3; simp only [List.mem_cons, List.not_mem_nil, or_false] at hq; rcases hq with rfl | rfl | rfl <;> (dsimp only at h1 h2 h3; omega)))
  refine lv_istore_n (lv' := [(3, .int v2), (0, .ref a0), (1, .ref a1), (2, .int p2)]) hx hb dX8_singOn_10 rfl hl (by decide) rfl (fun ls hl => ?_)
  refine lv_aload_n hx hb dX8_singOn_11 rfl (lv_at hl 1 rfl) ?_
  refine tk_Vi (As := []) (rest := []) (ci := 8) ⟨hx, hb, hml, hown, hts⟩ hK hG hZ hS (k_X8_tireByWords l D cy ld t a0 ht_a0) trivial ⟨callB_of 0 hts (wl_in mw_965) rfl rfl rfl (htl _ mw_21) (htl _ mw_962) hd_yX8_tireByWords ⟨(Nat.le_of_ble_eq_true rfl), (Nat.le_of_ble_eq_true rfl)⟩, htl _ mw_963, htl _ mw_964⟩ ht_a0 (by decide) tk_no rfl (tk_w.pick [1, 0, 2] rfl) rfl hl.1 rfl (Nat.le_of_ble_eq_true rfl) dX8_singOn_12 ⟨(Nat.le_of_ble_eq_true rfl), (Nat.le_of_ble_eq_true rfl)⟩ (fun v4 H locs hpo hG hS hq9 => ?_)
  have hg_0 := hg_0.call hq9 (tk_w.no ht_a1 (by intro q hq h1 h2 h3; simp only [List.mem_cons, List.not_mem_nil, or_false] at hq; rcases hq with rfl | rfl | rfl <;> (dsimp only at h1 h2 h3; omega)))
  refine lv_istore (lv' := [(4, .int v4), (3, .int v2), (0, .ref a0), (1, .ref a1), (2, .int p2)]) hx hb dX8_singOn_15 hl (by decide) rfl (fun ls hl => ?_)
  refine lv_aload_n hx hb dX8_singOn_17 rfl (lv_at hl 3 rfl) ?_
  refine tk_Vi (As := []) (rest := []) (ci := 9) ⟨hx, hb, hml, hown, hts⟩ hK hG hZ hS (k_X9_whoSings l D cy ld t rg1 a1 g0 ht_a1 (by omega) (by omega)) hg_0 ⟨callB_of 0 hts (wl_in mw_844) rfl rfl rfl (htl _ mw_76) (htl _ mw_925) hd_yX9_whoSings ⟨(Nat.le_of_ble_eq_true rfl), (Nat.le_of_ble_eq_true rfl)⟩, htl _ mw_842, htl _ mw_843⟩ ht_a1 (by decide) tk_no rfl (tk_w.pick [] rfl) rfl hl.1 rfl (Nat.le_of_ble_eq_true rfl) dX8_singOn_18 ⟨(Nat.le_of_ble_eq_true rfl), (Nat.le_of_ble_eq_true rfl)⟩ (fun v6 H locs hpo hG hS hq9 => ?_)
  have hg_0 := hg_0.call hq9 tk_w.nil
  obtain ⟨hpo8, hpo9, hpo10⟩ := hpo
  refine lv_istore (lv' := [(5, .int v6), (4, .int v4), (3, .int v2), (0, .ref a0), (1, .ref a1), (2, .int p2)]) hx hb dX8_singOn_21 hl (by decide) rfl (fun ls hl => ?_)
  refine lv_aload_n hx hb dX8_singOn_23 rfl (lv_at hl 4 rfl) ?_
  refine tk_Vi (As := []) (rest := []) (ci := 9) ⟨hx, hb, hml, hown, hts⟩ hK hG hZ hS (k_X9_whoHears l D cy ld t rg1 a1 g0 ht_a1 (by omega) (by omega)) hg_0 ⟨callB_of 0 hts (wl_in mw_924) rfl rfl rfl (htl _ mw_76) (htl _ mw_921) hd_yX9_whoHears ⟨(Nat.le_of_ble_eq_true rfl), (Nat.le_of_ble_eq_true rfl)⟩, htl _ mw_922, htl _ mw_923⟩ ht_a1 (by decide) tk_no rfl (tk_w.pick [] rfl) rfl hl.1 rfl (Nat.le_of_ble_eq_true rfl) dX8_singOn_24 ⟨(Nat.le_of_ble_eq_true rfl), (Nat.le_of_ble_eq_true rfl)⟩ (fun v11 H locs hpo hG hS hq9 => ?_)
  have hg_0 := hg_0.call hq9 tk_w.nil
  obtain ⟨hpo13, hpo14, hpo15⟩ := hpo
  refine lv_istore (lv' := [(6, .int v11), (5, .int v6), (4, .int v4), (3, .int v2), (0, .ref a0), (1, .ref a1), (2, .int p2)]) hx hb dX8_singOn_27 hl (by decide) rfl (fun ls hl => ?_)
  refine lv_aload_n hx hb dX8_singOn_29 rfl (lv_at hl 5 rfl) ?_
  refine tk_get (ci := 9) (C := RX9) (T := TX9) (N := 11) (sp := (1, 20, 8, 0)) hx hb htl inX9 hown hK hG ht_a1 (by decide) tk_no rfl 0 (by decide) (htl _ mw_918) (fun _ h9 => h9) rfl dX8_singOn_30 (fun v9 hf16 hV9 => ?_)
  obtain ⟨b17, rfl, ht_b17⟩ := hV9
  have ht_b17 : t b17 = (20, 8, rg1) := ht_b17
  refine lv_iload hx hb dX8_singOn_33 (lv_at hl 0 rfl) ?_
  refine lv_iconst (v := 0) hx hb dX8_singOn_35 (by decide) ?_
  refine lv_aload_n hx hb dX8_singOn_36 rfl (lv_at hl 5 rfl) ?_
  refine tk_get (ci := 9) (C := RX9) (T := TX9) (N := 11) (sp := (1, 20, 8, 0)) hx hb htl inX9 hown hK hG ht_a1 (by decide) tk_no rfl 0 (by decide) (htl _ mw_918) (fun _ h9 => h9) rfl dX8_singOn_37 (fun v9 hf18 hV9 => ?_)
  obtain ⟨b19, rfl, ht_b19⟩ := hV9
  have ht_b19 : t b19 = (20, 8, rg1) := ht_b19
  refine lv_iload hx hb dX8_singOn_40 (lv_at hl 0 rfl) ?_
  refine tk_iald hx hb hK hG ht_b19 (by decide) (fun _ h => h) tk_no rfl (by omega) (by omega) dX8_singOn_42 (fun v20 _ _ => ?_)
  have hr_v20 := tk_rng v20
  refine lv_iload_n hx hb dX8_singOn_43 rfl (lv_at hl 3 rfl) ?_
  refine lv_isub hx hb dX8_singOn_44 ?_
  obtain ⟨v21, hm_v21⟩ : ∃ z : Int32, v20 - v2 = z := ⟨_, rfl⟩
  refine fx_ti hm_v21 ?_
  refine va_mmax hx hb (by rw [hml]; exact hl.1.symm) hown (htl _ mw_947) (htl _ mw_948) (htl _ mw_474) (htl _ mw_949) (Nat.le_of_ble_eq_true rfl) (Nat.le_of_ble_eq_true rfl) (Nat.le_of_ble_eq_true rfl) (Nat.le_of_ble_eq_true rfl) dX8_singOn_45 ?_
  refine tk_say (P := fun z => 0 ≤ z.toInt ∧ v21.toInt ≤ z.toInt ∧ (z.toInt = 0 ∨ z.toInt = v21.toInt)) (tk_max (by decide) rfl) (fun v22 h_v22 => ?_)
  refine tk_iast hx hb hK hG hS ht_b17 (by decide) (fun _ => Iff.rfl) tk_no rfl (by omega) (by omega) trivial (tk_w.of ht_b17 (by decide) (List.mem_of_getElem? (i := 3) rfl) (Nat.le_refl _) (Nat.le_refl _)) dX8_singOn_48 (fun H locs hG hS hq9 => ?_)
  have hg_0 := hg_0.kept (hq9 _ (tk_ne ht_a1 ht_b17 (Or.inl (by decide))))
  refine lv_iload_n hx hb dX8_singOn_49 rfl (lv_at hl 3 rfl) ?_
  refine lv_aload_n hx hb dX8_singOn_50 rfl (lv_at hl 4 rfl) ?_
  refine tk_get (ci := 8) (C := RX8) (T := TX8) (N := 3) (sp := (8, 20, 3, 0)) hx hb htl inX8 hown hK hG ht_a0 (by decide) tk_no rfl 1 (by decide) (htl _ mw_97) (fun _ h9 => h9) rfl dX8_singOn_51 (fun v9 hf24 hV9 => ?_)
  obtain ⟨rfl, ht_ld20⟩ := hV9
  have ht_ld20 : t (ld 20) = (3, 0, 0) := ht_ld20
  refine fx_top (v := .ref (ld 20)) rfl ?_
  refine tk_get (ci := 2) (C := RX2) (T := TX2) (N := 20) (sp := (0, (-2147483648), 2147483647, 0)) hx hb htl inX2 hown hK hG ht_ld20 (by decide) tk_no rfl 16 (by decide) (htl _ mw_950) (fun _ h9 => h9) rfl dX8_singOn_54 (fun v9 hf25 hV9 => ?_)
  obtain ⟨v26, rfl, ha_v26, hb_v26⟩ := hV9
  have hj35 : ∀ (H : Heap) (locs : List Loc), tk_G D cy ld t [] H → va_S (tk_w t [(20, 0, 0), (12, 0, 0), (9, 0, 0), (20, rg1, rg1), (10, rg1, rg1)]) s.heap H locs → tk_f D H a1 9 5 (.int g0) → ∀ ls : Array Slot, lv_has ls 7 [(6, .int v11), (5, .int v6), (4, .int v4), (0, .ref a0), (1, .ref a1), (2, .int p2)] → W p l e ({ frames := 6, cells := 0, slots := 0, locals := 350 }) s m args below meth c H locs 0 0 (MQ below (ti D cy ld t [] (fun r H => True) (tk_w t [(20, 0, 0), (12, 0, 0), (9, 0, 0), (20, rg1, rg1), (10, rg1, rg1)])) args s 0 0 (tk_w t [(20, 0, 0), (12, 0, 0), (9, 0, 0), (20, rg1, rg1), (10, rg1, rg1)])) (F0 m 71 ls []) := by
    intro H locs hG hS hg_0 ls hl
    refine lv_aload_n hx hb dX8_singOn_71 rfl (lv_at hl 4 rfl) ?_
    refine tk_get (ci := 9) (C := RX9) (T := TX9) (N := 11) (sp := (1, 20, 8, 0)) hx hb htl inX9 hown hK hG ht_a1 (by decide) tk_no rfl 0 (by decide) (htl _ mw_918) (fun _ h9 => h9) rfl dX8_singOn_72 (fun v9 hf36 hV9 => ?_)
    obtain ⟨b37, rfl, ht_b37⟩ := hV9
    have ht_b37 : t b37 = (20, 8, rg1) := ht_b37
    refine lv_iload hx hb dX8_singOn_75 (lv_at hl 1 rfl) ?_
    refine lv_iconst (v := 1) hx hb dX8_singOn_77 (by decide) ?_
    refine lv_aload_n hx hb dX8_singOn_78 rfl (lv_at hl 4 rfl) ?_
    refine tk_get (ci := 9) (C := RX9) (T := TX9) (N := 11) (sp := (1, 20, 8, 0)) hx hb htl inX9 hown hK hG ht_a1 (by decide) tk_no rfl 0 (by decide) (htl _ mw_918) (fun _ h9 => h9) rfl dX8_singOn_79 (fun v9 hf38 hV9 => ?_)
    obtain ⟨b39, rfl, ht_b39⟩ := hV9
    have ht_b39 : t b39 = (20, 8, rg1) := ht_b39
    refine lv_iload hx hb dX8_singOn_82 (lv_at hl 1 rfl) ?_
    refine tk_iald hx hb hK hG ht_b39 (by decide) (fun _ h => h) tk_no rfl (by omega) (by omega) dX8_singOn_84 (fun v40 _ _ => ?_)
    have hr_v40 := tk_rng v40
    refine lv_iload hx hb dX8_singOn_85 (lv_at hl 2 rfl) ?_
    refine lv_isub hx hb dX8_singOn_87 ?_
    obtain ⟨v41, hm_v41⟩ : ∃ z : Int32, v40 - v4 = z := ⟨_, rfl⟩
    refine fx_ti hm_v41 ?_
    refine va_mmax hx hb (by rw [hml]; exact hl.1.symm) hown (htl _ mw_947) (htl _ mw_948) (htl _ mw_474) (htl _ mw_949) (Nat.le_of_ble_eq_true rfl) (Nat.le_of_ble_eq_true rfl) (Nat.le_of_ble_eq_true rfl) (Nat.le_of_ble_eq_true rfl) dX8_singOn_88 ?_
    refine tk_say (P := fun z => 1 ≤ z.toInt ∧ v41.toInt ≤ z.toInt ∧ (z.toInt = 1 ∨ z.toInt = v41.toInt)) (tk_max (by decide) rfl) (fun v42 h_v42 => ?_)
    refine tk_iast hx hb hK hG hS ht_b37 (by decide) (fun _ => Iff.rfl) tk_no rfl (by omega) (by omega) trivial (tk_w.of ht_b37 (by decide) (List.mem_of_getElem? (i := 3) rfl) (Nat.le_refl _) (Nat.le_refl _)) dX8_singOn_91 (fun H locs hG hS hq9 => ?_)
    have hg_0 := hg_0.kept (hq9 _ (tk_ne ht_a1 ht_b37 (Or.inl (by decide))))
    refine lv_aload_n hx hb dX8_singOn_92 rfl (lv_at hl 4 rfl) ?_
    refine lv_aload_n hx hb dX8_singOn_93 rfl (lv_at hl 3 rfl) ?_
    refine tk_get (ci := 8) (C := RX8) (T := TX8) (N := 3) (sp := (8, 20, 3, 0)) hx hb htl inX8 hown hK hG ht_a0 (by decide) tk_no rfl 1 (by decide) (htl _ mw_97) (fun _ h9 => h9) rfl dX8_singOn_94 (fun v9 hf44 hV9 => ?_)
    obtain ⟨rfl, ht_ld20⟩ := hV9
    have ht_ld20 : t (ld 20) = (3, 0, 0) := ht_ld20
    refine fx_top (v := .ref (ld 20)) rfl ?_
    refine tk_get (ci := 2) (C := RX2) (T := TX2) (N := 20) (sp := (1, 20, 10, 0)) hx hb htl inX2 hown hK hG ht_ld20 (by decide) tk_no rfl 6 (by decide) (htl _ mw_915) (fun _ h9 => h9) rfl dX8_singOn_97 (fun v9 hf45 hV9 => ?_)
    obtain ⟨b46, rfl, ht_b46⟩ := hV9
    have ht_b46 : t b46 = (20, 10, 0) := ht_b46
    refine lv_iload_n hx hb dX8_singOn_100 rfl (lv_at hl 5 rfl) ?_
    refine tk_iald hx hb hK hG ht_b46 (by decide) (fun _ h => h) tk_no rfl (by omega) (by omega) dX8_singOn_101 (fun v47 _ _ => ?_)
    have hr_v47 := tk_rng v47
    refine tk_put (ci := 9) (v := .int v47) (ty := .int) (C := RX9) (T := TX9) (N := 11) (sp := (0, (-2147483648), 2147483647, 0)) hx hb htl inX9 tyX9 tyX9_ok nmX9 hown hK hG hS ht_a1 (by decide) tk_no rfl 10 (by decide) (htl _ mw_916) (fun _ h9 => h9) rfl (tyX9_ok 10 (by decide)) rfl rfl rfl (tk_Vi (tk_rng _).1 (tk_rng _).2) (fun _ h => tk_X10 h (by decide) (by decide)) (tk_w.of ht_a1 (by decide) (List.mem_of_getElem? (i := 4) rfl) (Nat.le_refl _) (Nat.le_refl _)) dX8_singOn_102 (fun H locs hG hS hf48 hq9 hj9 => ?_)
    have hg_0 := hj9 5 _ (by decide) (by decide) hg_0
    refine lv_aload_n hx hb dX8_singOn_105 rfl (lv_at hl 4 rfl) ?_
    refine tk_get (ci := 9) (C := RX9) (T := TX9) (N := 11) (sp := (1, 20, 8, 0)) hx hb htl inX9 hown hK hG ht_a1 (by decide) tk_no rfl 0 (by decide) (htl _ mw_918) (fun _ h9 => h9) rfl dX8_singOn_106 (fun v9 hf50 hV9 => ?_)
    obtain ⟨b51, rfl, ht_b51⟩ := hV9
    have ht_b51 : t b51 = (20, 8, rg1) := ht_b51
    refine lv_iload hx hb dX8_singOn_109 (lv_at hl 0 rfl) ?_
    refine tk_iald hx hb hK hG ht_b51 (by decide) (fun _ h => h) tk_no rfl (by omega) (by omega) dX8_singOn_111 (fun v52 _ _ => ?_)
    have hr_v52 := tk_rng v52
    have hj71 : ∀ (H : Heap) (locs : List Loc), tk_G D cy ld t [] H → va_S (tk_w t [(20, 0, 0), (12, 0, 0), (9, 0, 0), (20, rg1, rg1), (10, rg1, rg1)]) s.heap H locs → ∀ ls : Array Slot, lv_has ls 7 [(6, .int v11), (1, .ref a1)] → W p l e ({ frames := 6, cells := 0, slots := 0, locals := 350 }) s m args below meth c H locs 0 0 (MQ below (ti D cy ld t [] (fun r H => True) (tk_w t [(20, 0, 0), (12, 0, 0), (9, 0, 0), (20, rg1, rg1), (10, rg1, rg1)])) args s 0 0 (tk_w t [(20, 0, 0), (12, 0, 0), (9, 0, 0), (20, rg1, rg1), (10, rg1, rg1)])) (F0 m 158 ls []) := by
      intro H locs hG hS ls hl
      refine lv_aload_n hx hb dX8_singOn_158 rfl (lv_at hl 1 rfl) ?_
      refine tk_get (ci := 9) (C := RX9) (T := TX9) (N := 11) (sp := (1, 20, 8, 0)) hx hb htl inX9 hown hK hG ht_a1 (by decide) tk_no rfl 0 (by decide) (htl _ mw_918) (fun _ h9 => h9) rfl dX8_singOn_159 (fun v9 hf72 hV9 => ?_)
      obtain ⟨b73, rfl, ht_b73⟩ := hV9
      have ht_b73 : t b73 = (20, 8, rg1) := ht_b73
      refine lv_iload hx hb dX8_singOn_162 (lv_at hl 0 rfl) ?_
      refine tk_iald hx hb hK hG ht_b73 (by decide) (fun _ h => h) tk_no rfl (by omega) (by omega) dX8_singOn_164 (fun v74 _ _ => ?_)
      have hr_v74 := tk_rng v74
      exact tk_iret (v := v74) hx hb hr rfl hlocks trivial hG hS dX8_singOn_165
    refine lv_if_ne (tgt := 154) hx hb dX8_singOn_112 (by decide) (fun c9 => ?_) (fun c9 => ?_)
    · have hc53 : ¬ (v52.toInt = 0) := fun h9 => c9 ((fi_eq rfl (by decide)).mpr h9)
      refine lv_aload_n hx hb dX8_singOn_154 rfl (lv_at hl 4 rfl) ?_
      refine tk_Vv (As := []) (rest := []) (ci := 9) ⟨hx, hb, hml, hown, hts⟩ hK hG hZ hS (k_X9_passTurn l D cy ld t rg1 a1 ht_a1) trivial ⟨callB_of 0 hts (wl_in mw_979) rfl rfl rfl (htl _ mw_76) (htl _ mw_976) hd_yX9_passTurn ⟨(Nat.le_of_ble_eq_true rfl), (Nat.le_of_ble_eq_true rfl)⟩, htl _ mw_977, htl _ mw_978⟩ ht_a1 (by decide) tk_no rfl (tk_w.pick [4] rfl) rfl hl.1 rfl (Nat.le_of_ble_eq_true rfl) dX8_singOn_155 ⟨(Nat.le_of_ble_eq_true rfl), (Nat.le_of_ble_eq_true rfl)⟩ (fun H locs hpo hG hS hq9 => ?_)
      exact hj71 _ _ hG hS _ (lv_sub hl [0, 4] rfl)
    · have hc53 : v52.toInt = 0 := (fi_eq rfl (by decide)).mp c9
      refine lv_aload_n hx hb dX8_singOn_115 rfl (lv_at hl 4 rfl) ?_
      refine tk_get (ci := 9) (C := RX9) (T := TX9) (N := 11) (sp := (1, 20, 8, 0)) hx hb htl inX9 hown hK hG ht_a1 (by decide) tk_no rfl 1 (by decide) (htl _ mw_952) (fun _ h9 => h9) rfl dX8_singOn_116 (fun v9 hf76 hV9 => ?_)
      obtain ⟨b77, rfl, ht_b77⟩ := hV9
      have ht_b77 : t b77 = (20, 8, rg1) := ht_b77
      refine lv_iload hx hb dX8_singOn_119 (lv_at hl 0 rfl) ?_
      refine lv_iconst (v := 1) hx hb dX8_singOn_121 (by decide) ?_
      refine tk_iast hx hb hK hG hS ht_b77 (by decide) (fun _ => Iff.rfl) tk_no rfl (by omega) (by omega) trivial (tk_w.of ht_b77 (by decide) (List.mem_of_getElem? (i := 3) rfl) (Nat.le_refl _) (Nat.le_refl _)) dX8_singOn_122 (fun H locs hG hS hq9 => ?_)
      have hg_0 := hg_0.kept (hq9 _ (tk_ne ht_a1 ht_b77 (Or.inl (by decide))))
      refine lv_aload_n hx hb dX8_singOn_123 rfl (lv_at hl 4 rfl) ?_
      refine lv_aload_n hx hb dX8_singOn_124 rfl (lv_at hl 3 rfl) ?_
      refine tk_get (ci := 8) (C := RX8) (T := TX8) (N := 3) (sp := (8, 20, 3, 0)) hx hb htl inX8 hown hK hG ht_a0 (by decide) tk_no rfl 1 (by decide) (htl _ mw_97) (fun _ h9 => h9) rfl dX8_singOn_125 (fun v9 hf79 hV9 => ?_)
      obtain ⟨rfl, ht_ld20⟩ := hV9
      have ht_ld20 : t (ld 20) = (3, 0, 0) := ht_ld20
      refine fx_top (v := .ref (ld 20)) rfl ?_
      refine tk_get (ci := 2) (C := RX2) (T := TX2) (N := 20) (sp := (1, 21, 8, 0)) hx hb htl inX2 hown hK hG ht_ld20 (by decide) tk_no rfl 2 (by decide) (htl _ mw_953) (fun _ h9 => h9) rfl dX8_singOn_128 (fun v9 hf80 hV9 => ?_)
      obtain ⟨b81, rfl, ht_b81⟩ := hV9
      have ht_b81 : t b81 = (21, 8, 0) := ht_b81
      refine lv_iload hx hb dX8_singOn_131 (lv_at hl 1 rfl) ?_
      refine tk_iald hx hb hK hG ht_b81 (by decide) (fun _ h => h) tk_no rfl (by omega) (by omega) dX8_singOn_133 (fun v82 hE9 _ => ?_)
      have he_v82 : 0 ≤ v82.toInt ∧ v82.toInt ≤ 1 := hE9
      refine lv_aload_n hx hb dX8_singOn_134 rfl (lv_at hl 3 rfl) ?_
      refine tk_get (ci := 8) (C := RX8) (T := TX8) (N := 3) (sp := (8, 20, 3, 0)) hx hb htl inX8 hown hK hG ht_a0 (by decide) tk_no rfl 1 (by decide) (htl _ mw_97) (fun _ h9 => h9) rfl dX8_singOn_135 (fun v9 hf83 hV9 => ?_)
      obtain ⟨rfl, ht_ld20⟩ := hV9
      have ht_ld20 : t (ld 20) = (3, 0, 0) := ht_ld20
      refine fx_top (v := .ref (ld 20)) rfl ?_
      refine tk_get (ci := 2) (C := RX2) (T := TX2) (N := 20) (sp := (1, 21, 8, 0)) hx hb htl inX2 hown hK hG ht_ld20 (by decide) tk_no rfl 2 (by decide) (htl _ mw_953) (fun _ h9 => h9) rfl dX8_singOn_138 (fun v9 hf84 hV9 => ?_)
      obtain ⟨b85, rfl, ht_b85⟩ := hV9
      have ht_b85 : t b85 = (21, 8, 0) := ht_b85
      refine lv_iload hx hb dX8_singOn_141 (lv_at hl 0 rfl) ?_
      refine tk_iald hx hb hK hG ht_b85 (by decide) (fun _ h => h) tk_no rfl (by omega) (by omega) dX8_singOn_143 (fun v86 hE9 _ => ?_)
      have he_v86 : 0 ≤ v86.toInt ∧ v86.toInt ≤ 1 := hE9
      refine tk_Vv (As := [.int v82, .int v86]) (rest := []) (ci := 9) ⟨hx, hb, hml, hown, hts⟩ hK hG hZ hS (k_X9_moveCows l D cy ld t rg1 a1 v82 v86 ht_a1 (by omega) (by omega) (by omega) (by omega)) trivial ⟨callB_of 2 hts (wl_in mw_969) rfl rfl rfl (htl _ mw_76) (htl _ mw_966) hd_yX9_moveCows ⟨(Nat.le_of_ble_eq_true rfl), (Nat.le_of_ble_eq_true rfl)⟩, htl _ mw_967, htl _ mw_968⟩ ht_a1 (by decide) tk_no rfl (tk_w.pick [3] rfl) rfl hl.1 rfl (Nat.le_of_ble_eq_true rfl) dX8_singOn_144 ⟨(Nat.le_of_ble_eq_true rfl), (Nat.le_of_ble_eq_true rfl)⟩ (fun H locs hpo hG hS hq9 => ?_)
      have hg_0 := hg_0.call hq9 (tk_w.no ht_a1 (by intro q hq h1 h2 h3; simp only [List.mem_cons, List.not_mem_nil, or_false] at hq; rcases hq with rfl <;> (dsimp only at h1 h2 h3; omega)))
      refine lv_aload_n hx hb dX8_singOn_147 rfl (lv_at hl 4 rfl) ?_
      refine tk_Vv (As := []) (rest := []) (ci := 9) ⟨hx, hb, hml, hown, hts⟩ hK hG hZ hS (k_X9_closeDuel l D cy ld t rg1 a1 ht_a1) trivial ⟨callB_of 0 hts (wl_in mw_975) rfl rfl rfl (htl _ mw_76) (htl _ mw_972) hd_yX9_closeDuel ⟨(Nat.le_of_ble_eq_true rfl), (Nat.le_of_ble_eq_true rfl)⟩, htl _ mw_973, htl _ mw_974⟩ ht_a1 (by decide) tk_no rfl (tk_w.pick [4] rfl) rfl hl.1 rfl (Nat.le_of_ble_eq_true rfl) dX8_singOn_148 ⟨(Nat.le_of_ble_eq_true rfl), (Nat.le_of_ble_eq_true rfl)⟩ (fun H locs hpo hG hS hq9 => ?_)
      have hf89 := hpo
      refine lv_goto (tgt := 158) hx hb dX8_singOn_151 (by decide) ?_
      exact hj71 _ _ hG hS _ (lv_sub hl [0, 4] rfl)
  refine lv_icmp_lt (tgt := 71) hx hb dX8_singOn_57 (by decide) (fun c9 => ?_) (fun c9 => ?_)
  · have hc27 : v2.toInt < v26.toInt := (fi_lt rfl rfl).mp c9
    exact hj35 _ _ hG hS hg_0 _ (lv_sub hl [0, 1, 2, 4, 5, 6] rfl)
  · have hc27 : ¬ (v2.toInt < v26.toInt) := fun h9 => c9 ((fi_lt rfl rfl).mpr h9)
    refine lv_aload_n hx hb dX8_singOn_60 rfl (lv_at hl 5 rfl) ?_
    refine tk_get (ci := 9) (C := RX9) (T := TX9) (N := 11) (sp := (1, 20, 8, 0)) hx hb htl inX9 hown hK hG ht_a1 (by decide) tk_no rfl 2 (by decide) (htl _ mw_951) (fun _ h9 => h9) rfl dX8_singOn_61 (fun v9 hf90 hV9 => ?_)
    obtain ⟨b91, rfl, ht_b91⟩ := hV9
    have ht_b91 : t b91 = (20, 8, rg1) := ht_b91
    refine lv_iload hx hb dX8_singOn_64 (lv_at hl 0 rfl) ?_
    refine lv_dup2_11 hx hb dX8_singOn_66 rfl rfl ?_
    refine tk_iald hx hb hK hG ht_b91 (by decide) (fun _ h => h) tk_no rfl (by omega) (by omega) dX8_singOn_67 (fun v92 _ _ => ?_)
    have hr_v92 := tk_rng v92
    refine lv_iconst (v := 1) hx hb dX8_singOn_68 (by decide) ?_
    refine lv_iadd hx hb dX8_singOn_69 ?_
    obtain ⟨v93, hm_v93⟩ : ∃ z : Int32, v92 + 1 = z := ⟨_, rfl⟩
    refine fx_ti hm_v93 ?_
    refine tk_iast hx hb hK hG hS ht_b91 (by decide) (fun _ => Iff.rfl) tk_no rfl (by omega) (by omega) trivial (tk_w.of ht_b91 (by decide) (List.mem_of_getElem? (i := 3) rfl) (Nat.le_refl _) (Nat.le_refl _)) dX8_singOn_70 (fun H locs hG hS hq9 => ?_)
    have hg_0 := hg_0.kept (hq9 _ (tk_ne ht_a1 ht_b91 (Or.inl (by decide))))
    exact hj35 _ _ hG hS hg_0 _ (lv_sub hl [0, 1, 2, 4, 5, 6] rfl)
theorem dX5_worthOf_13 : decode cX5_worthOf 13 = .ok (.aload_n 0, 1) := by decide +kernel
theorem dX5_worthOf_14 : decode cX5_worthOf 14 = .ok (.getfield 13, 3) := by decide +kernel
theorem dX5_worthOf_17 : decode cX5_worthOf 17 = .ok (.iload_n 1, 1) := by decide +kernel
theorem dX5_worthOf_18 : decode cX5_worthOf 18 = .ok (.aaload, 1) := by decide +kernel
theorem dX5_worthOf_19 : decode cX5_worthOf 19 = .ok (.invokevirtual 75, 3) := by decide +kernel
theorem dX5_worthOf_22 : decode cX5_worthOf 22 = .ok (.ifCond .ne 5, 3) := by decide +kernel
theorem dX5_worthOf_27 : decode cX5_worthOf 27 = .ok (.aload_n 0, 1) := by decide +kernel
theorem dX5_worthOf_28 : decode cX5_worthOf 28 = .ok (.getfield 13, 3) := by decide +kernel
theorem dX5_worthOf_31 : decode cX5_worthOf 31 = .ok (.iload_n 1, 1) := by decide +kernel
theorem dX5_worthOf_32 : decode cX5_worthOf 32 = .ok (.aaload, 1) := by decide +kernel
theorem dX5_worthOf_33 : decode cX5_worthOf 33 = .ok (.astore 4, 2) := by decide +kernel
theorem dX5_worthOf_35 : decode cX5_worthOf 35 = .ok (.aload_n 0, 1) := by decide +kernel
theorem dX5_worthOf_36 : decode cX5_worthOf 36 = .ok (.getfield 13, 3) := by decide +kernel
theorem dX5_worthOf_39 : decode cX5_worthOf 39 = .ok (.iload_n 1, 1) := by decide +kernel
theorem dX5_worthOf_40 : decode cX5_worthOf 40 = .ok (.iconst 1, 1) := by decide +kernel
theorem dX5_worthOf_41 : decode cX5_worthOf 41 = .ok (.iadd, 1) := by decide +kernel
theorem dX5_worthOf_42 : decode cX5_worthOf 42 = .ok (.aaload, 1) := by decide +kernel
theorem dX5_worthOf_43 : decode cX5_worthOf 43 = .ok (.astore 5, 2) := by decide +kernel
theorem dX5_worthOf_45 : decode cX5_worthOf 45 = .ok (.iconst (-1), 1) := by decide +kernel
theorem dX5_worthOf_46 : decode cX5_worthOf 46 = .ok (.istore 6, 2) := by decide +kernel
theorem dX5_worthOf_48 : decode cX5_worthOf 48 = .ok (.iconst 0, 1) := by decide +kernel
theorem dX5_worthOf_49 : decode cX5_worthOf 49 = .ok (.istore 7, 2) := by decide +kernel
theorem dX5_worthOf_51 : decode cX5_worthOf 51 = .ok (.iconst 0, 1) := by decide +kernel
theorem dX5_worthOf_52 : decode cX5_worthOf 52 = .ok (.istore 8, 2) := by decide +kernel
theorem dX5_worthOf_54 : decode cX5_worthOf 54 = .ok (.iload 8, 2) := by decide +kernel
theorem dX5_worthOf_56 : decode cX5_worthOf 56 = .ok (.aload_n 0, 1) := by decide +kernel
theorem dX5_worthOf_57 : decode cX5_worthOf 57 = .ok (.getfield 34, 3) := by decide +kernel
theorem dX5_worthOf_60 : decode cX5_worthOf 60 = .ok (.getfield 79, 3) := by decide +kernel
theorem dX5_worthOf_183 : decode cX5_worthOf 183 = .ok (.iload_n 1, 1) := by decide +kernel
theorem dX5_worthOf_184 : decode cX5_worthOf 184 = .ok (.ifCond .ne 9, 3) := by decide +kernel
theorem dX5_worthOf_193 : decode cX5_worthOf 193 = .ok (.iload 7, 2) := by decide +kernel
theorem dX5_worthOf_195 : decode cX5_worthOf 195 = .ok (.ireturn, 1) := by decide +kernel
theorem dX5_worthOf_63 : decode cX5_worthOf 63 = .ok (.if_icmp .ge 120, 3) := by decide +kernel
theorem dX5_worthOf_66 : decode cX5_worthOf 66 = .ok (.iload 6, 2) := by decide +kernel
theorem dX5_worthOf_68 : decode cX5_worthOf 68 = .ok (.iconst (-1), 1) := by decide +kernel
theorem dX5_worthOf_69 : decode cX5_worthOf 69 = .ok (.if_icmp .eq 9, 3) := by decide +kernel
theorem dX5_worthOf_78 : decode cX5_worthOf 78 = .ok (.aload_n 0, 1) := by decide +kernel
theorem dX5_worthOf_79 : decode cX5_worthOf 79 = .ok (.getfield 38, 3) := by decide +kernel
theorem dX5_worthOf_82 : decode cX5_worthOf 82 = .ok (.aload 4, 2) := by decide +kernel
theorem dX5_worthOf_84 : decode cX5_worthOf 84 = .ok (.iload 8, 2) := by decide +kernel
theorem dX5_worthOf_86 : decode cX5_worthOf 86 = .ok (.invokevirtual 82, 3) := by decide +kernel
theorem dX5_worthOf_177 : decode cX5_worthOf 177 = .ok (.iinc 8 1, 3) := by decide +kernel
theorem dX5_worthOf_180 : decode cX5_worthOf 180 = .ok (.goto (-126), 3) := by decide +kernel
theorem dX5_worthOf_89 : decode cX5_worthOf 89 = .ok (.ifCond .eq 6, 3) := by decide +kernel
theorem dX5_worthOf_95 : decode cX5_worthOf 95 = .ok (.aload 5, 2) := by decide +kernel
theorem dX5_worthOf_97 : decode cX5_worthOf 97 = .ok (.aload 4, 2) := by decide +kernel
theorem dX5_worthOf_99 : decode cX5_worthOf 99 = .ok (.invokevirtual 54, 3) := by decide +kernel
theorem dX5_worthOf_102 : decode cX5_worthOf 102 = .ok (.iload 6, 2) := by decide +kernel
theorem dX5_worthOf_104 : decode cX5_worthOf 104 = .ok (.iconst (-1), 1) := by decide +kernel
theorem dX5_worthOf_105 : decode cX5_worthOf 105 = .ok (.if_icmp .ne 7, 3) := by decide +kernel
theorem dX5_worthOf_108 : decode cX5_worthOf 108 = .ok (.iload_n 2, 1) := by decide +kernel
theorem dX5_worthOf_109 : decode cX5_worthOf 109 = .ok (.goto 9, 3) := by decide +kernel
theorem dX5_worthOf_118 : decode cX5_worthOf 118 = .ok (.istore 9, 2) := by decide +kernel
theorem dX5_worthOf_120 : decode cX5_worthOf 120 = .ok (.aload_n 0, 1) := by decide +kernel
theorem dX5_worthOf_121 : decode cX5_worthOf 121 = .ok (.getfield 38, 3) := by decide +kernel
theorem dX5_worthOf_124 : decode cX5_worthOf 124 = .ok (.aload 5, 2) := by decide +kernel
theorem dX5_worthOf_126 : decode cX5_worthOf 126 = .ok (.iload 8, 2) := by decide +kernel
theorem dX5_worthOf_128 : decode cX5_worthOf 128 = .ok (.invokevirtual 92, 3) := by decide +kernel
theorem dX5_worthOf_154 : decode cX5_worthOf 154 = .ok (.istore 10, 2) := by decide +kernel
theorem dX5_worthOf_156 : decode cX5_worthOf 156 = .ok (.iload 6, 2) := by decide +kernel
theorem dX5_worthOf_158 : decode cX5_worthOf 158 = .ok (.iconst (-1), 1) := by decide +kernel
theorem dX5_worthOf_159 : decode cX5_worthOf 159 = .ok (.if_icmp .eq 10, 3) := by decide +kernel
theorem dX5_worthOf_169 : decode cX5_worthOf 169 = .ok (.iload 8, 2) := by decide +kernel
theorem dX5_worthOf_171 : decode cX5_worthOf 171 = .ok (.istore 6, 2) := by decide +kernel
theorem dX5_worthOf_173 : decode cX5_worthOf 173 = .ok (.iload 10, 2) := by decide +kernel
theorem dX5_worthOf_175 : decode cX5_worthOf 175 = .ok (.istore 7, 2) := by decide +kernel
theorem dX5_worthOf_131 : decode cX5_worthOf 131 = .ok (.ifCond .ne 10, 3) := by decide +kernel
theorem dX5_worthOf_141 : decode cX5_worthOf 141 = .ok (.aload_n 0, 1) := by decide +kernel
theorem dX5_worthOf_142 : decode cX5_worthOf 142 = .ok (.iload_n 1, 1) := by decide +kernel
theorem dX5_worthOf_143 : decode cX5_worthOf 143 = .ok (.iconst 1, 1) := by decide +kernel
theorem dX5_worthOf_144 : decode cX5_worthOf 144 = .ok (.iadd, 1) := by decide +kernel
theorem dX5_worthOf_145 : decode cX5_worthOf 145 = .ok (.iload_n 3, 1) := by decide +kernel
theorem dX5_worthOf_146 : decode cX5_worthOf 146 = .ok (.ineg, 1) := by decide +kernel
theorem dX5_worthOf_147 : decode cX5_worthOf 147 = .ok (.iload 9, 2) := by decide +kernel
theorem dX5_worthOf_149 : decode cX5_worthOf 149 = .ok (.ineg, 1) := by decide +kernel
theorem dX5_worthOf_150 : decode cX5_worthOf 150 = .ok (.invokevirtual 58, 3) := by decide +kernel
theorem dX5_worthOf_153 : decode cX5_worthOf 153 = .ok (.ineg, 1) := by decide +kernel
theorem dX5_worthOf_134 : decode cX5_worthOf 134 = .ok (.bipush 100, 2) := by decide +kernel
theorem dX5_worthOf_136 : decode cX5_worthOf 136 = .ok (.iload_n 1, 1) := by decide +kernel
theorem dX5_worthOf_137 : decode cX5_worthOf 137 = .ok (.isub, 1) := by decide +kernel
theorem dX5_worthOf_138 : decode cX5_worthOf 138 = .ok (.goto 16, 3) := by decide +kernel
theorem dX5_worthOf_92 : decode cX5_worthOf 92 = .ok (.goto 85, 3) := by decide +kernel
theorem dX5_worthOf_72 : decode cX5_worthOf 72 = .ok (.iload 7, 2) := by decide +kernel
theorem dX5_worthOf_74 : decode cX5_worthOf 74 = .ok (.iload_n 3, 1) := by decide +kernel
theorem dX5_worthOf_75 : decode cX5_worthOf 75 = .ok (.if_icmp .ge 108, 3) := by decide +kernel
theorem dX5_worthOf_112 : decode cX5_worthOf 112 = .ok (.iload_n 2, 1) := by decide +kernel
theorem dX5_worthOf_113 : decode cX5_worthOf 113 = .ok (.iload 7, 2) := by decide +kernel
theorem dX5_worthOf_115 : decode cX5_worthOf 115 = .ok (.invokestatic 88, 3) := by decide +kernel
theorem dX5_worthOf_162 : decode cX5_worthOf 162 = .ok (.iload 10, 2) := by decide +kernel
theorem dX5_worthOf_164 : decode cX5_worthOf 164 = .ok (.iload 7, 2) := by decide +kernel
theorem dX5_worthOf_166 : decode cX5_worthOf 166 = .ok (.if_icmp .le 11, 3) := by decide +kernel
set_option maxHeartbeats 4000000 in
set_option maxRecDepth 100000 in
theorem k_X5_worthOf_3 (l : Launch) (D : va_G) (cy : Nat → ClassId) (ld : Nat → Nat) (t : tk_T) (a0 : Nat) (p2 : Int32) (p3 : Int32) (ht_a0 : t a0 = (6, 0, 0)) : Met l yX5_worthOf (wl yX5_worthOf cX5_worthOf 11 (some .int)) ({ frames := 7, cells := 0, slots := 0, locals := 420 }) (tp D cy ld t [] [.ref a0, .int 3, .int p2, .int p3] (fun H => True)) (ti D cy ld t [] (fun r H => 0 ≤ r.toInt ∧ r.toInt ≤ 100) (tk_w t [(20, 0, 0), (12, 0, 0), (9, 0, 0), (20, 14, 14), (10, 14, 14)])) 0 0 (tk_w t [(20, 0, 0), (12, 0, 0), (9, 0, 0), (20, 14, 14), (10, 14, 14)]) := by
  refine tk_met (y := yX5_worthOf) (cc := cX5_worthOf) (maxL := 11) (ret := (some .int)) (av := [.ref a0, .int 3, .int p2, .int p3]) _ _ (by decide) (Nat.le_of_ble_eq_true rfl) ?_
  intro p e s m args below meth c hx hb hr hml hts htl hown hlocks hK H locs hH hG hS hB hZ ls hl
  have hown : s.vm.findClass RX5 = some m.cls := hown
  have hl : lv_has ls 11 [(0, .ref a0), (1, .int 3), (2, .int p2), (3, .int p3)] := hl
  have hr_p2 := tk_rng p2
  have hr_p3 := tk_rng p3
  refine lv_iload_n hx hb dX5_worthOf_0 rfl (lv_at hl 1 rfl) ?_
  refine lv_aload_n hx hb dX5_worthOf_1 rfl (lv_at hl 0 rfl) ?_
  refine tk_get (ci := 5) (C := RX5) (T := TX5) (N := 11) (sp := (0, (-2147483648), 2147483647, 0)) hx hb htl inX5 hown hK hG ht_a0 (by decide) tk_no rfl 3 (by decide) (htl _ mw_1286) (fun _ h9 => h9) rfl dX5_worthOf_2 (fun v9 hf1 hV9 => ?_)
  obtain ⟨v2, rfl, ha_v2, hb_v2⟩ := hV9
  refine lv_icmp_ge (tgt := 25) hx hb dX5_worthOf_5 (by decide) (fun c9 => ?_) (fun c9 => ?_)
  · have hc3 : v2.toInt ≤ 3 := (fi_le rfl (by decide)).mp c9
    refine lv_iconst (v := 0) hx hb dX5_worthOf_25 (by decide) ?_
    have hk_0 : (0 : Int32).toInt = 0 := by decide
    exact tk_iret (v := 0) hx hb hr rfl hlocks (show 0 ≤ (0 : Int32).toInt ∧ (0 : Int32).toInt ≤ 100 from ⟨(by omega), (by omega)⟩) hG hS dX5_worthOf_26
  · have hc3 : ¬ (v2.toInt ≤ 3) := fun h9 => c9 ((fi_le rfl (by decide)).mpr h9)
    refine lv_iload_n hx hb dX5_worthOf_8 rfl (lv_at hl 1 rfl) ?_
    refine lv_iconst (v := 4) hx hb dX5_worthOf_9 (by decide) ?_
    refine lv_icmp_ge (tgt := 25) hx hb dX5_worthOf_10 (by decide) (fun c9 => absurd c9 (by decide)) (fun _ => ?_)
    refine lv_aload_n hx hb dX5_worthOf_13 rfl (lv_at hl 0 rfl) ?_
    refine tk_get (ci := 5) (C := RX5) (T := TX5) (N := 11) (sp := (6, 26, 5, 0)) hx hb htl inX5 hown hK hG ht_a0 (by decide) tk_no rfl 2 (by decide) (htl _ mw_149) (fun _ h9 => h9) rfl dX5_worthOf_14 (fun v9 hf4 hV9 => ?_)
    obtain ⟨b5, rfl, ht_b5⟩ := hV9
    have ht_b5 : t b5 = (26, 5, 0) := ht_b5
    refine lv_iload_n hx hb dX5_worthOf_17 rfl (lv_at hl 1 rfl) ?_
    refine tk_aald hx hb hK hG 3 rfl rfl ht_b5 (by decide) (fun _ h => h) tk_no (I := 3) (by decide) (by decide) (by decide) dX5_worthOf_18 (fun o6 ht_o6 => ?_)
    obtain ⟨rfl, ht_ld33⟩ := ht_o6
    have ht_ld33 : t (ld 33) = (10, 0, 13) := ht_ld33
    refine fx_top (v := .ref (ld 33)) rfl ?_
    obtain ⟨v9, hf7, hV9⟩ := tk_peek (ci := 9) (C := RX9) (T := TX9) (N := 11) (sp := (0, (-1), 7, 0)) hG ht_ld33 (by decide) tk_no rfl 5 (by decide) rfl
    obtain ⟨v8, rfl, ha_v8, hb_v8⟩ := hV9
    refine tk_Vi (As := []) (rest := []) (ci := 9) ⟨hx, hb, hml, hown, hts⟩ hK hG hZ hS (k_X9_isDuel l D cy ld t 13 (ld 33) v8 ht_ld33 (by omega) (by omega)) hf7 ⟨callB_of 0 hts (wl_in mw_840) rfl rfl rfl (htl _ mw_76) (htl _ mw_1299) hd_yX9_isDuel ⟨(Nat.le_of_ble_eq_true rfl), (Nat.le_of_ble_eq_true rfl)⟩, htl _ mw_838, htl _ mw_839⟩ ht_ld33 (by decide) tk_no rfl (tk_w.pick [] rfl) rfl hl.1 rfl (Nat.le_of_ble_eq_true rfl) dX5_worthOf_19 ⟨(Nat.le_of_ble_eq_true rfl), (Nat.le_of_ble_eq_true rfl)⟩ (fun v9 H locs hpo hG hS hq9 => ?_)
    have hf7 := hf7.call hq9 tk_w.nil
    obtain ⟨hpo11, hpo12, hpo13, hpo14, hpo15⟩ := hpo
    refine lv_if_ne (tgt := 27) hx hb dX5_worthOf_22 (by decide) (fun c9 => ?_) (fun c9 => ?_)
    · have hc16 : ¬ (v9.toInt = 0) := fun h9 => c9 ((fi_eq rfl (by decide)).mpr h9)
      refine lv_aload_n hx hb dX5_worthOf_27 rfl (lv_at hl 0 rfl) ?_
      refine tk_get (ci := 5) (C := RX5) (T := TX5) (N := 11) (sp := (6, 26, 5, 0)) hx hb htl inX5 hown hK hG ht_a0 (by decide) tk_no rfl 2 (by decide) (htl _ mw_149) (fun _ h9 => h9) rfl dX5_worthOf_28 (fun v9 hf17 hV9 => ?_)
      obtain ⟨b18, rfl, ht_b18⟩ := hV9
      have ht_b18 : t b18 = (26, 5, 0) := ht_b18
      refine lv_iload_n hx hb dX5_worthOf_31 rfl (lv_at hl 1 rfl) ?_
      refine tk_aald hx hb hK hG 3 rfl rfl ht_b18 (by decide) (fun _ h => h) tk_no (I := 3) (by decide) (by decide) (by decide) dX5_worthOf_32 (fun o19 ht_o19 => ?_)
      obtain ⟨rfl, ht_ld33⟩ := ht_o19
      have ht_ld33 : t (ld 33) = (10, 0, 13) := ht_ld33
      refine fx_top (v := .ref (ld 33)) rfl ?_
      refine lv_astore (lv' := [(4, .ref (ld 33)), (0, .ref a0), (1, .int 3), (2, .int p2), (3, .int p3)]) hx hb dX5_worthOf_33 hl (by decide) rfl (fun ls hl => ?_)
      refine lv_aload_n hx hb dX5_worthOf_35 rfl (lv_at hl 1 rfl) ?_
      refine tk_get (ci := 5) (C := RX5) (T := TX5) (N := 11) (sp := (6, 26, 5, 0)) hx hb htl inX5 hown hK hG ht_a0 (by decide) tk_no rfl 2 (by decide) (htl _ mw_149) (fun _ h9 => h9) rfl dX5_worthOf_36 (fun v9 hf20 hV9 => ?_)
      obtain ⟨b21, rfl, ht_b21⟩ := hV9
      have ht_b21 : t b21 = (26, 5, 0) := ht_b21
      refine lv_iload_n hx hb dX5_worthOf_39 rfl (lv_at hl 2 rfl) ?_
      refine lv_iconst (v := 1) hx hb dX5_worthOf_40 (by decide) ?_
      refine lv_iadd hx hb dX5_worthOf_41 ?_
      refine fx_ti (v := 4) (by decide) ?_
      refine tk_aald hx hb hK hG 3 rfl rfl ht_b21 (by decide) (fun _ h => h) tk_no (I := 4) (by decide) (by decide) (by decide) dX5_worthOf_42 (fun o22 ht_o22 => ?_)
      obtain ⟨rfl, ht_ld34⟩ := ht_o22
      have ht_ld34 : t (ld 34) = (10, 0, 14) := ht_ld34
      refine fx_top (v := .ref (ld 34)) rfl ?_
      refine lv_astore (lv' := [(5, .ref (ld 34)), (4, .ref (ld 33)), (0, .ref a0), (1, .int 3), (2, .int p2), (3, .int p3)]) hx hb dX5_worthOf_43 hl (by decide) rfl (fun ls hl => ?_)
      refine lv_iconst (v := (-1)) hx hb dX5_worthOf_45 (by decide) ?_
      refine lv_istore (lv' := [(6, .int (-1)), (5, .ref (ld 34)), (4, .ref (ld 33)), (0, .ref a0), (1, .int 3), (2, .int p2), (3, .int p3)]) hx hb dX5_worthOf_46 hl (by decide) rfl (fun ls hl => ?_)
      refine lv_iconst (v := 0) hx hb dX5_worthOf_48 (by decide) ?_
      refine lv_istore (lv' := [(7, .int 0), (6, .int (-1)), (5, .ref (ld 34)), (4, .ref (ld 33)), (0, .ref a0), (1, .int 3), (2, .int p2), (3, .int p3)]) hx hb dX5_worthOf_49 hl (by decide) rfl (fun ls hl => ?_)
      refine lv_iconst (v := 0) hx hb dX5_worthOf_51 (by decide) ?_
      refine lv_istore (lv' := [(8, .int 0), (7, .int 0), (6, .int (-1)), (5, .ref (ld 34)), (4, .ref (ld 33)), (0, .ref a0), (1, .int 3), (2, .int p2), (3, .int p3)]) hx hb dX5_worthOf_52 hl (by decide) rfl (fun ls hl => ?_)
      have hl1927 : ∀ (N : Nat) (v23 : Int32) (v24 : Int32) (v25 : Int32) (H : Heap) (locs : List Loc), v23.toInt ≤ 10 → 0 ≤ v24.toInt → (-1) ≤ v25.toInt → 0 ≤ v23.toInt + (-1) * v25.toInt + (-1) → v24.toInt ≤ 100 → (-1) * v23.toInt + 10 < (N : Int) → tk_G D cy ld t [] H → va_S (tk_w t [(20, 0, 0), (12, 0, 0), (9, 0, 0), (20, 14, 14), (10, 14, 14)]) s.heap H locs → tk_f D H (ld 33) 9 5 (.int v8) → ∀ ls : Array Slot, lv_has ls 11 [(8, .int v23), (7, .int v24), (6, .int v25), (5, .ref (ld 34)), (4, .ref (ld 33)), (0, .ref a0), (1, .int 3), (2, .int p2), (3, .int p3)] → W p l e ({ frames := 7, cells := 0, slots := 0, locals := 420 }) s m args below meth c H locs 0 0 (MQ below (ti D cy ld t [] (fun r H => 0 ≤ r.toInt ∧ r.toInt ≤ 100) (tk_w t [(20, 0, 0), (12, 0, 0), (9, 0, 0), (20, 14, 14), (10, 14, 14)])) args s 0 0 (tk_w t [(20, 0, 0), (12, 0, 0), (9, 0, 0), (20, 14, 14), (10, 14, 14)])) (F0 m 54 ls []) := by
        intro N
        induction N with
        | zero => intro v23 v24 v25 H locs hq0_l1927 hq1_l1927 hq2_l1927 hq3_l1927 hq4_l1927 hm_l1927 hG hS hf7 ls hl; exfalso; omega
        | succ N ih =>
          intro v23 v24 v25 H locs hq0_l1927 hq1_l1927 hq2_l1927 hq3_l1927 hq4_l1927 hm_l1927 hG hS hf7 ls hl
          refine lv_iload hx hb dX5_worthOf_54 (lv_at hl 0 rfl) ?_
          refine lv_aload_n hx hb dX5_worthOf_56 rfl (lv_at hl 5 rfl) ?_
          refine tk_get (ci := 5) (C := RX5) (T := TX5) (N := 11) (sp := (8, 20, 3, 0)) hx hb htl inX5 hown hK hG ht_a0 (by decide) tk_no rfl 0 (by decide) (htl _ mw_155) (fun _ h9 => h9) rfl dX5_worthOf_57 (fun v9 hf1928 hV9 => ?_)
          obtain ⟨rfl, ht_ld20⟩ := hV9
          have ht_ld20 : t (ld 20) = (3, 0, 0) := ht_ld20
          refine fx_top (v := .ref (ld 20)) rfl ?_
          refine tk_get (ci := 2) (C := RX2) (T := TX2) (N := 20) (sp := (0, 0, 10, 0)) hx hb htl inX2 hown hK hG ht_ld20 (by decide) tk_no rfl 4 (by decide) (htl _ mw_1297) (fun _ h9 => h9) rfl dX5_worthOf_60 (fun v9 hf1929 hV9 => ?_)
          obtain ⟨v1930, rfl, ha_v1930, hb_v1930⟩ := hV9
          have hj2076 : ∀ (_ : Unit), ∀ ls : Array Slot, lv_has ls 11 [(7, .int v24), (6, .int v25), (0, .ref a0), (1, .int 3)] → W p l e ({ frames := 7, cells := 0, slots := 0, locals := 420 }) s m args below meth c H locs 0 0 (MQ below (ti D cy ld t [] (fun r H => 0 ≤ r.toInt ∧ r.toInt ≤ 100) (tk_w t [(20, 0, 0), (12, 0, 0), (9, 0, 0), (20, 14, 14), (10, 14, 14)])) args s 0 0 (tk_w t [(20, 0, 0), (12, 0, 0), (9, 0, 0), (20, 14, 14), (10, 14, 14)])) (F0 m 183 ls []) := by
            intro _  ls hl
            refine lv_iload_n hx hb dX5_worthOf_183 rfl (lv_at hl 3 rfl) ?_
            refine lv_if_ne (tgt := 193) hx hb dX5_worthOf_184 (by decide) (fun _ => ?_) (fun c9 => absurd c9 (by decide))
            refine lv_iload hx hb dX5_worthOf_193 (lv_at hl 0 rfl) ?_
            exact tk_iret (v := v24) hx hb hr rfl hlocks (show 0 ≤ v24.toInt ∧ v24.toInt ≤ 100 from ⟨(by omega), (by omega)⟩) hG hS dX5_worthOf_195
          refine lv_icmp_ge (tgt := 183) hx hb dX5_worthOf_63 (by decide) (fun c9 => ?_) (fun c9 => ?_)
          · have hc1931 : v1930.toInt ≤ v23.toInt := (fi_le rfl rfl).mp c9
            exact hj2076 () _ (lv_sub hl [1, 2, 5, 6] rfl)
          · have hc1931 : ¬ (v1930.toInt ≤ v23.toInt) := fun h9 => c9 ((fi_le rfl rfl).mpr h9)
            refine lv_iload hx hb dX5_worthOf_66 (lv_at hl 2 rfl) ?_
            refine lv_iconst (v := (-1)) hx hb dX5_worthOf_68 (by decide) ?_
            refine lv_icmp_eq (tgt := 78) hx hb dX5_worthOf_69 (by decide) (fun c9 => ?_) (fun c9 => ?_)
            · have hc2077 : v25.toInt = (-1) := (fi_eq rfl (by decide)).mp c9
              refine lv_aload_n hx hb dX5_worthOf_78 rfl (lv_at hl 5 rfl) ?_
              refine tk_get (ci := 5) (C := RX5) (T := TX5) (N := 11) (sp := (6, 9, 0, 0)) hx hb htl inX5 hown hK hG ht_a0 (by decide) tk_no rfl 1 (by decide) (htl _ mw_156) (fun _ h9 => h9) rfl dX5_worthOf_79 (fun v9 hf2078 hV9 => ?_)
              obtain ⟨b2079, rfl, ht_b2079⟩ := hV9
              have ht_b2079 : t b2079 = (9, 0, 0) := ht_b2079
              refine lv_aload hx hb dX5_worthOf_82 (lv_at hl 4 rfl) ?_
              refine lv_iload hx hb dX5_worthOf_84 (lv_at hl 0 rfl) ?_
              refine tk_Vi (As := [.ref (ld 33), .int v23]) (rest := []) (ci := 8) ⟨hx, hb, hml, hown, hts⟩ hK hG hZ hS (k_X8_isBarred l D cy ld t 13 b2079 (ld 33) v23 v8 ht_b2079 ht_ld33 (by omega) (by omega) (by omega) (by omega)) hf7 ⟨callB_of 2 hts (wl_in mw_901) rfl rfl rfl (htl _ mw_21) (htl _ mw_1300) hd_yX8_isBarred ⟨(Nat.le_of_ble_eq_true rfl), (Nat.le_of_ble_eq_true rfl)⟩, htl _ mw_899, htl _ mw_900⟩ ht_b2079 (by decide) tk_no rfl (tk_w.pick [0, 1, 2] rfl) rfl hl.1 rfl (Nat.le_of_ble_eq_true rfl) dX5_worthOf_86 ⟨(Nat.le_of_ble_eq_true rfl), (Nat.le_of_ble_eq_true rfl)⟩ (fun v2080 H locs hpo hG hS hq9 => ?_)
              have hf7 := hf7.call hq9 (tk_w.no ht_ld33 (by decide))
              have hf1929 := hf1929.call hq9 (tk_w.no ht_ld20 (by decide))
              obtain ⟨hpo2082, hpo2083, hpo2084, hpo2085⟩ := hpo
              have hj2119 : ∀ (v2116 : Int32) (v2117 : Int32) (H : Heap) (locs : List Loc), v2116.toInt ≤ 100 → 0 ≤ v2116.toInt + (-1) * v25.toInt + (-1) → 0 ≤ (-1) * v2117.toInt + v23.toInt → 0 ≤ v2117.toInt + (-1) * v25.toInt → tk_G D cy ld t [] H → va_S (tk_w t [(20, 0, 0), (12, 0, 0), (9, 0, 0), (20, 14, 14), (10, 14, 14)]) s.heap H locs → tk_f D H (ld 33) 9 5 (.int v8) → tk_f D H (ld 20) 2 4 (.int v1930) → ∀ ls : Array Slot, lv_has ls 11 [(7, .int v2116), (6, .int v2117), (8, .int v23), (5, .ref (ld 34)), (4, .ref (ld 33)), (0, .ref a0), (1, .int 3), (2, .int p2), (3, .int p3)] → W p l e ({ frames := 7, cells := 0, slots := 0, locals := 420 }) s m args below meth c H locs 0 0 (MQ below (ti D cy ld t [] (fun r H => 0 ≤ r.toInt ∧ r.toInt ≤ 100) (tk_w t [(20, 0, 0), (12, 0, 0), (9, 0, 0), (20, 14, 14), (10, 14, 14)])) args s 0 0 (tk_w t [(20, 0, 0), (12, 0, 0), (9, 0, 0), (20, 14, 14), (10, 14, 14)])) (F0 m 177 ls []) := by
                intro v2116 v2117 H locs hq0_j2119 hq1_j2119 hq2_j2119 hq3_j2119 hG hS hf7 hf1929 ls hl
                obtain ⟨v2120, h_v2120, e_v2120⟩ := tk_inc v23 1 (by decide) (by omega) (by omega)
                refine lv_iinc (v := v2120) (lv' := [(8, .int v2120), (7, .int v2116), (6, .int v2117), (5, .ref (ld 34)), (4, .ref (ld 33)), (0, .ref a0), (1, .int 3), (2, .int p2), (3, .int p3)]) hx hb dX5_worthOf_177 hl (k := 2) rfl e_v2120 (by decide) rfl (fun ls hl => ?_)
                refine lv_goto (tgt := 54) hx hb dX5_worthOf_180 (by decide) ?_
                exact ih v2120 v2116 v2117 _ _ (by omega) (by omega) (by omega) (by omega) (by omega) (by omega) hG hS hf7 _ (lv_sub hl [0, 1, 2, 3, 4, 5, 6, 7, 8] rfl)
              refine lv_if_eq (tgt := 95) hx hb dX5_worthOf_89 (by decide) (fun c9 => ?_) (fun c9 => ?_)
              · have hc2086 : v2080.toInt = 0 := (fi_eq rfl (by decide)).mp c9
                refine lv_aload hx hb dX5_worthOf_95 (lv_at hl 3 rfl) ?_
                refine lv_aload hx hb dX5_worthOf_97 (lv_at hl 4 rfl) ?_
                refine tk_Vv (As := [.ref (ld 33)]) (rest := []) (ci := 9) ⟨hx, hb, hml, hown, hts⟩ hK hG hZ hS (k_X9_copyFrom l D cy ld t 14 13 (ld 34) (ld 33) v8 ht_ld34 ht_ld33 (by omega) (by omega) (by omega)) hf7 ⟨callB_of 1 hts (wl_in mw_821) rfl rfl rfl (htl _ mw_76) (htl _ mw_1292) hd_yX9_copyFrom ⟨(Nat.le_of_ble_eq_true rfl), (Nat.le_of_ble_eq_true rfl)⟩, htl _ mw_819, htl _ mw_820⟩ ht_ld34 (by decide) tk_no rfl (tk_w.pick [3, 4] rfl) rfl hl.1 rfl (Nat.le_of_ble_eq_true rfl) dX5_worthOf_99 ⟨(Nat.le_of_ble_eq_true rfl), (Nat.le_of_ble_eq_true rfl)⟩ (fun H locs hpo hG hS hq9 => ?_)
                have hf7 := hf7.call hq9 (tk_w.no ht_ld33 (by decide))
                have hf1929 := hf1929.call hq9 (tk_w.no ht_ld20 (by decide))
                have hf2122 := hpo
                refine lv_iload hx hb dX5_worthOf_102 (lv_at hl 2 rfl) ?_
                refine lv_iconst (v := (-1)) hx hb dX5_worthOf_104 (by decide) ?_
                refine lv_icmp_ne (tgt := 112) hx hb dX5_worthOf_105 (by decide) (fun c9 => absurd ((fi_eq rfl (by decide)).mpr (show v25.toInt = (-1) by omega)) c9) (fun _ => ?_)
                refine lv_iload_n hx hb dX5_worthOf_108 rfl (lv_at hl 7 rfl) ?_
                refine lv_goto (tgt := 118) hx hb dX5_worthOf_109 (by decide) ?_
                refine lv_istore (lv' := [(9, .int p2), (8, .int v23), (7, .int v24), (6, .int v25), (5, .ref (ld 34)), (4, .ref (ld 33)), (0, .ref a0), (1, .int 3), (2, .int p2), (3, .int p3)]) hx hb dX5_worthOf_118 hl (by decide) rfl (fun ls hl => ?_)
                refine lv_aload_n hx hb dX5_worthOf_120 rfl (lv_at hl 6 rfl) ?_
                refine tk_get (ci := 5) (C := RX5) (T := TX5) (N := 11) (sp := (6, 9, 0, 0)) hx hb htl inX5 hown hK hG ht_a0 (by decide) tk_no rfl 1 (by decide) (htl _ mw_156) (fun _ h9 => h9) rfl dX5_worthOf_121 (fun v9 hf2123 hV9 => ?_)
                obtain ⟨b2124, rfl, ht_b2124⟩ := hV9
                have ht_b2124 : t b2124 = (9, 0, 0) := ht_b2124
                refine lv_aload hx hb dX5_worthOf_124 (lv_at hl 4 rfl) ?_
                refine lv_iload hx hb dX5_worthOf_126 (lv_at hl 1 rfl) ?_
                refine tk_Vi (As := [.ref (ld 34), .int v23]) (rest := []) (ci := 8) ⟨hx, hb, hml, hown, hts⟩ hK hG hZ hS (k_X8_singOn l D cy ld t 14 b2124 (ld 34) v23 v8 ht_b2124 ht_ld34 (by omega) (by omega) (by omega) (by omega)) hf2122 ⟨callB_of 2 hts (wl_in mw_946) rfl rfl rfl (htl _ mw_21) (htl _ mw_1301) hd_yX8_singOn ⟨(Nat.le_of_ble_eq_true rfl), (Nat.le_of_ble_eq_true rfl)⟩, htl _ mw_944, htl _ mw_945⟩ ht_b2124 (by decide) tk_no rfl (tk_w.pick [0, 1, 2, 3, 4] rfl) rfl hl.1 rfl (Nat.le_of_ble_eq_true rfl) dX5_worthOf_128 ⟨(Nat.le_of_ble_eq_true rfl), (Nat.le_of_ble_eq_true rfl)⟩ (fun v2125 H locs hpo hG hS hq9 => ?_)
                have hf7 := hf7.call hq9 (tk_w.no ht_ld33 (by decide))
                have hf1929 := hf1929.call hq9 (tk_w.no ht_ld20 (by decide))
                have hj2139 : ∀ (v2137 : Int32) (H : Heap) (locs : List Loc), v2137.toInt ≤ 97 → 0 ≤ v2137.toInt + (-1) * v25.toInt + (-1) → tk_G D cy ld t [] H → va_S (tk_w t [(20, 0, 0), (12, 0, 0), (9, 0, 0), (20, 14, 14), (10, 14, 14)]) s.heap H locs → tk_f D H (ld 33) 9 5 (.int v8) → tk_f D H (ld 20) 2 4 (.int v1930) → ∀ ls : Array Slot, lv_has ls 11 [(8, .int v23), (7, .int v24), (6, .int v25), (5, .ref (ld 34)), (4, .ref (ld 33)), (0, .ref a0), (1, .int 3), (2, .int p2), (3, .int p3)] → W p l e ({ frames := 7, cells := 0, slots := 0, locals := 420 }) s m args below meth c H locs 0 0 (MQ below (ti D cy ld t [] (fun r H => 0 ≤ r.toInt ∧ r.toInt ≤ 100) (tk_w t [(20, 0, 0), (12, 0, 0), (9, 0, 0), (20, 14, 14), (10, 14, 14)])) args s 0 0 (tk_w t [(20, 0, 0), (12, 0, 0), (9, 0, 0), (20, 14, 14), (10, 14, 14)])) (F0 m 154 ls [.int v2137]) := by
                  intro v2137 H locs hq0_j2139 hq1_j2139 hG hS hf7 hf1929 ls hl
                  refine lv_istore (lv' := [(10, .int v2137), (8, .int v23), (7, .int v24), (6, .int v25), (5, .ref (ld 34)), (4, .ref (ld 33)), (0, .ref a0), (1, .int 3), (2, .int p2), (3, .int p3)]) hx hb dX5_worthOf_154 hl (by decide) rfl (fun ls hl => ?_)
                  refine lv_iload hx hb dX5_worthOf_156 (lv_at hl 3 rfl) ?_
                  refine lv_iconst (v := (-1)) hx hb dX5_worthOf_158 (by decide) ?_
                  refine lv_icmp_eq (tgt := 169) hx hb dX5_worthOf_159 (by decide) (fun _ => ?_) (fun c9 => absurd ((fi_eq rfl (by decide)).mpr (show v25.toInt = (-1) by omega)) c9)
                  refine lv_iload hx hb dX5_worthOf_169 (lv_at hl 1 rfl) ?_
                  refine lv_istore (lv' := [(6, .int v23), (10, .int v2137), (8, .int v23), (7, .int v24), (5, .ref (ld 34)), (4, .ref (ld 33)), (0, .ref a0), (1, .int 3), (2, .int p2), (3, .int p3)]) hx hb dX5_worthOf_171 hl (by decide) rfl (fun ls hl => ?_)
                  refine lv_iload hx hb dX5_worthOf_173 (lv_at hl 1 rfl) ?_
                  refine lv_istore (lv' := [(7, .int v2137), (6, .int v23), (10, .int v2137), (8, .int v23), (5, .ref (ld 34)), (4, .ref (ld 33)), (0, .ref a0), (1, .int 3), (2, .int p2), (3, .int p3)]) hx hb dX5_worthOf_175 hl (by decide) rfl (fun ls hl => ?_)
                  exact hj2119 v2137 v23 _ _ (by omega) (by omega) (by omega) (by omega) hG hS hf7 hf1929 _ (lv_sub hl [0, 1, 3, 4, 5, 6, 7, 8, 9] rfl)
                refine lv_if_ne (tgt := 141) hx hb dX5_worthOf_131 (by decide) (fun c9 => ?_) (fun c9 => ?_)
                · have hc2127 : ¬ (v2125.toInt = 0) := fun h9 => c9 ((fi_eq rfl (by decide)).mpr h9)
                  refine lv_aload_n hx hb dX5_worthOf_141 rfl (lv_at hl 6 rfl) ?_
                  refine lv_iload_n hx hb dX5_worthOf_142 rfl (lv_at hl 7 rfl) ?_
                  refine lv_iconst (v := 1) hx hb dX5_worthOf_143 (by decide) ?_
                  refine lv_iadd hx hb dX5_worthOf_144 ?_
                  refine fx_ti (v := 4) (by decide) ?_
                  refine lv_iload_n hx hb dX5_worthOf_145 rfl (lv_at hl 9 rfl) ?_
                  refine lv_ineg hx hb dX5_worthOf_146 ?_
                  refine tk_any (fun v2140 => ?_)
                  refine lv_iload hx hb dX5_worthOf_147 (lv_at hl 0 rfl) ?_
                  refine lv_ineg hx hb dX5_worthOf_149 ?_
                  refine tk_any (fun v2141 => ?_)
                  have hk_4 : (4 : Int32).toInt = 4 := by decide
                  refine tk_Vi (As := [.int 4, .int v2140, .int v2141]) (rest := []) (ci := 5) ⟨hx, hb, hml, hown, hts⟩ hK hG hZ hS (k_X5_worthOf_4 l D cy ld t a0 v2140 v2141 ht_a0) trivial ⟨callB_of 3 hts (wl_in mw_1296) rfl rfl rfl (htl _ mw_40) (htl _ mw_1293) hd_yX5_worthOf ⟨(Nat.le_of_ble_eq_true rfl), (Nat.le_of_ble_eq_true rfl)⟩, htl _ mw_1294, htl _ mw_1295⟩ ht_a0 (by decide) tk_no rfl (tk_w.pick [] rfl) rfl hl.1 rfl (Nat.le_of_ble_eq_true rfl) dX5_worthOf_150 ⟨(Nat.le_of_ble_eq_true rfl), (Nat.le_of_ble_eq_true rfl)⟩ (fun v2142 H locs hpo hG hS hq9 => ?_)
                  have hf7 := hf7.call hq9 tk_w.nil
                  have hf1929 := hf1929.call hq9 tk_w.nil
                  obtain ⟨hpo2144, hpo2145⟩ := hpo
                  refine lv_ineg hx hb dX5_worthOf_153 ?_
                  refine tk_neg rfl (by omega) (by omega) (fun v2146 h_v2146 => ?_)
                  exact hj2139 v2146 _ _ (by omega) (by omega) hG hS hf7 hf1929 _ (lv_sub hl [1, 2, 3, 4, 5, 6, 7, 8, 9] rfl)
                · have hc2127 : v2125.toInt = 0 := (fi_eq rfl (by decide)).mp c9
                  refine lv_bipush (v := 100) hx hb dX5_worthOf_134 (by decide) ?_
                  refine lv_iload_n hx hb dX5_worthOf_136 rfl (lv_at hl 7 rfl) ?_
                  refine lv_isub hx hb dX5_worthOf_137 ?_
                  refine fx_ti (v := 97) (by decide) ?_
                  refine lv_goto (tgt := 154) hx hb dX5_worthOf_138 (by decide) ?_
                  have hk_97 : (97 : Int32).toInt = 97 := by decide
                  exact hj2139 97 _ _ (by omega) (by omega) hG hS hf7 hf1929 _ (lv_sub hl [1, 2, 3, 4, 5, 6, 7, 8, 9] rfl)
              · have hc2086 : ¬ (v2080.toInt = 0) := fun h9 => c9 ((fi_eq rfl (by decide)).mpr h9)
                refine lv_goto (tgt := 177) hx hb dX5_worthOf_92 (by decide) ?_
                exact hj2119 v24 v25 _ _ (by omega) (by omega) (by omega) (by omega) hG hS hf7 hf1929 _ (lv_sub hl [1, 2, 0, 3, 4, 5, 6, 7, 8] rfl)
            · have hc2077 : ¬ (v25.toInt = (-1)) := fun h9 => c9 ((fi_eq rfl (by decide)).mpr h9)
              refine lv_iload hx hb dX5_worthOf_72 (lv_at hl 1 rfl) ?_
              refine lv_iload_n hx hb dX5_worthOf_74 rfl (lv_at hl 8 rfl) ?_
              refine lv_icmp_ge (tgt := 183) hx hb dX5_worthOf_75 (by decide) (fun c9 => ?_) (fun c9 => ?_)
              · have hc2147 : p3.toInt ≤ v24.toInt := (fi_le rfl rfl).mp c9
                exact hj2076 () _ (lv_sub hl [1, 2, 5, 6] rfl)
              · have hc2147 : ¬ (p3.toInt ≤ v24.toInt) := fun h9 => c9 ((fi_le rfl rfl).mpr h9)
                refine lv_aload_n hx hb dX5_worthOf_78 rfl (lv_at hl 5 rfl) ?_
                refine tk_get (ci := 5) (C := RX5) (T := TX5) (N := 11) (sp := (6, 9, 0, 0)) hx hb htl inX5 hown hK hG ht_a0 (by decide) tk_no rfl 1 (by decide) (htl _ mw_156) (fun _ h9 => h9) rfl dX5_worthOf_79 (fun v9 hf2148 hV9 => ?_)
                obtain ⟨b2149, rfl, ht_b2149⟩ := hV9
                have ht_b2149 : t b2149 = (9, 0, 0) := ht_b2149
                refine lv_aload hx hb dX5_worthOf_82 (lv_at hl 4 rfl) ?_
                refine lv_iload hx hb dX5_worthOf_84 (lv_at hl 0 rfl) ?_
                refine tk_Vi (As := [.ref (ld 33), .int v23]) (rest := []) (ci := 8) ⟨hx, hb, hml, hown, hts⟩ hK hG hZ hS (k_X8_isBarred l D cy ld t 13 b2149 (ld 33) v23 v8 ht_b2149 ht_ld33 (by omega) (by omega) (by omega) (by omega)) hf7 ⟨callB_of 2 hts (wl_in mw_901) rfl rfl rfl (htl _ mw_21) (htl _ mw_1300) hd_yX8_isBarred ⟨(Nat.le_of_ble_eq_true rfl), (Nat.le_of_ble_eq_true rfl)⟩, htl _ mw_899, htl _ mw_900⟩ ht_b2149 (by decide) tk_no rfl (tk_w.pick [0, 1, 2] rfl) rfl hl.1 rfl (Nat.le_of_ble_eq_true rfl) dX5_worthOf_86 ⟨(Nat.le_of_ble_eq_true rfl), (Nat.le_of_ble_eq_true rfl)⟩ (fun v2150 H locs hpo hG hS hq9 => ?_)
                have hf7 := hf7.call hq9 (tk_w.no ht_ld33 (by decide))
                have hf1929 := hf1929.call hq9 (tk_w.no ht_ld20 (by decide))
                obtain ⟨hpo2152, hpo2153, hpo2154, hpo2155⟩ := hpo
                have hj2191 : ∀ (v2188 : Int32) (v2189 : Int32) (H : Heap) (locs : List Loc), v2188.toInt ≤ 100 → 0 ≤ v2188.toInt + (-1) * v24.toInt → 0 ≤ (-1) * v2189.toInt + v23.toInt → 0 ≤ v2189.toInt + (-1) * v25.toInt → tk_G D cy ld t [] H → va_S (tk_w t [(20, 0, 0), (12, 0, 0), (9, 0, 0), (20, 14, 14), (10, 14, 14)]) s.heap H locs → tk_f D H (ld 33) 9 5 (.int v8) → tk_f D H (ld 20) 2 4 (.int v1930) → ∀ ls : Array Slot, lv_has ls 11 [(8, .int v23), (7, .int v2188), (6, .int v2189), (5, .ref (ld 34)), (4, .ref (ld 33)), (0, .ref a0), (1, .int 3), (2, .int p2), (3, .int p3)] → W p l e ({ frames := 7, cells := 0, slots := 0, locals := 420 }) s m args below meth c H locs 0 0 (MQ below (ti D cy ld t [] (fun r H => 0 ≤ r.toInt ∧ r.toInt ≤ 100) (tk_w t [(20, 0, 0), (12, 0, 0), (9, 0, 0), (20, 14, 14), (10, 14, 14)])) args s 0 0 (tk_w t [(20, 0, 0), (12, 0, 0), (9, 0, 0), (20, 14, 14), (10, 14, 14)])) (F0 m 177 ls []) := by
                  intro v2188 v2189 H locs hq0_j2191 hq1_j2191 hq2_j2191 hq3_j2191 hG hS hf7 hf1929 ls hl
                  obtain ⟨v2192, h_v2192, e_v2192⟩ := tk_inc v23 1 (by decide) (by omega) (by omega)
                  refine lv_iinc (v := v2192) (lv' := [(8, .int v2192), (7, .int v2188), (6, .int v2189), (5, .ref (ld 34)), (4, .ref (ld 33)), (0, .ref a0), (1, .int 3), (2, .int p2), (3, .int p3)]) hx hb dX5_worthOf_177 hl (k := 0) rfl e_v2192 (by decide) rfl (fun ls hl => ?_)
                  refine lv_goto (tgt := 54) hx hb dX5_worthOf_180 (by decide) ?_
                  exact ih v2192 v2188 v2189 _ _ (by omega) (by omega) (by omega) (by omega) (by omega) (by omega) hG hS hf7 _ (lv_sub hl [0, 1, 2, 3, 4, 5, 6, 7, 8] rfl)
                refine lv_if_eq (tgt := 95) hx hb dX5_worthOf_89 (by decide) (fun c9 => ?_) (fun c9 => ?_)
                · have hc2156 : v2150.toInt = 0 := (fi_eq rfl (by decide)).mp c9
                  refine lv_aload hx hb dX5_worthOf_95 (lv_at hl 3 rfl) ?_
                  refine lv_aload hx hb dX5_worthOf_97 (lv_at hl 4 rfl) ?_
                  refine tk_Vv (As := [.ref (ld 33)]) (rest := []) (ci := 9) ⟨hx, hb, hml, hown, hts⟩ hK hG hZ hS (k_X9_copyFrom l D cy ld t 14 13 (ld 34) (ld 33) v8 ht_ld34 ht_ld33 (by omega) (by omega) (by omega)) hf7 ⟨callB_of 1 hts (wl_in mw_821) rfl rfl rfl (htl _ mw_76) (htl _ mw_1292) hd_yX9_copyFrom ⟨(Nat.le_of_ble_eq_true rfl), (Nat.le_of_ble_eq_true rfl)⟩, htl _ mw_819, htl _ mw_820⟩ ht_ld34 (by decide) tk_no rfl (tk_w.pick [3, 4] rfl) rfl hl.1 rfl (Nat.le_of_ble_eq_true rfl) dX5_worthOf_99 ⟨(Nat.le_of_ble_eq_true rfl), (Nat.le_of_ble_eq_true rfl)⟩ (fun H locs hpo hG hS hq9 => ?_)
                  have hf7 := hf7.call hq9 (tk_w.no ht_ld33 (by decide))
                  have hf1929 := hf1929.call hq9 (tk_w.no ht_ld20 (by decide))
                  have hf2194 := hpo
                  refine lv_iload hx hb dX5_worthOf_102 (lv_at hl 2 rfl) ?_
                  refine lv_iconst (v := (-1)) hx hb dX5_worthOf_104 (by decide) ?_
                  refine lv_icmp_ne (tgt := 112) hx hb dX5_worthOf_105 (by decide) (fun _ => ?_) (fun c9 => absurd (show v25.toInt = (-1) from (fi_eq rfl (by decide)).mp c9) (by omega))
                  refine lv_iload_n hx hb dX5_worthOf_112 rfl (lv_at hl 7 rfl) ?_
                  refine lv_iload hx hb dX5_worthOf_113 (lv_at hl 1 rfl) ?_
                  refine va_mmax hx hb (by rw [hml]; exact hl.1.symm) hown (htl _ mw_1298) (htl _ mw_948) (htl _ mw_474) (htl _ mw_949) (Nat.le_of_ble_eq_true rfl) (Nat.le_of_ble_eq_true rfl) (Nat.le_of_ble_eq_true rfl) (Nat.le_of_ble_eq_true rfl) dX5_worthOf_115 ?_
                  refine tk_say (P := fun z => p2.toInt ≤ z.toInt ∧ v24.toInt ≤ z.toInt ∧ (z.toInt = p2.toInt ∨ z.toInt = v24.toInt)) (tk_max rfl rfl) (fun v2195 h_v2195 => ?_)
                  refine lv_istore (lv' := [(9, .int v2195), (8, .int v23), (7, .int v24), (6, .int v25), (5, .ref (ld 34)), (4, .ref (ld 33)), (0, .ref a0), (1, .int 3), (2, .int p2), (3, .int p3)]) hx hb dX5_worthOf_118 hl (by decide) rfl (fun ls hl => ?_)
                  refine lv_aload_n hx hb dX5_worthOf_120 rfl (lv_at hl 6 rfl) ?_
                  refine tk_get (ci := 5) (C := RX5) (T := TX5) (N := 11) (sp := (6, 9, 0, 0)) hx hb htl inX5 hown hK hG ht_a0 (by decide) tk_no rfl 1 (by decide) (htl _ mw_156) (fun _ h9 => h9) rfl dX5_worthOf_121 (fun v9 hf2196 hV9 => ?_)
                  obtain ⟨b2197, rfl, ht_b2197⟩ := hV9
                  have ht_b2197 : t b2197 = (9, 0, 0) := ht_b2197
                  refine lv_aload hx hb dX5_worthOf_124 (lv_at hl 4 rfl) ?_
                  refine lv_iload hx hb dX5_worthOf_126 (lv_at hl 1 rfl) ?_
                  refine tk_Vi (As := [.ref (ld 34), .int v23]) (rest := []) (ci := 8) ⟨hx, hb, hml, hown, hts⟩ hK hG hZ hS (k_X8_singOn l D cy ld t 14 b2197 (ld 34) v23 v8 ht_b2197 ht_ld34 (by omega) (by omega) (by omega) (by omega)) hf2194 ⟨callB_of 2 hts (wl_in mw_946) rfl rfl rfl (htl _ mw_21) (htl _ mw_1301) hd_yX8_singOn ⟨(Nat.le_of_ble_eq_true rfl), (Nat.le_of_ble_eq_true rfl)⟩, htl _ mw_944, htl _ mw_945⟩ ht_b2197 (by decide) tk_no rfl (tk_w.pick [0, 1, 2, 3, 4] rfl) rfl hl.1 rfl (Nat.le_of_ble_eq_true rfl) dX5_worthOf_128 ⟨(Nat.le_of_ble_eq_true rfl), (Nat.le_of_ble_eq_true rfl)⟩ (fun v2198 H locs hpo hG hS hq9 => ?_)
                  have hf7 := hf7.call hq9 (tk_w.no ht_ld33 (by decide))
                  have hf1929 := hf1929.call hq9 (tk_w.no ht_ld20 (by decide))
                  have hj2212 : ∀ (v2210 : Int32) (H : Heap) (locs : List Loc), 0 ≤ v2210.toInt → v2210.toInt ≤ 97 → tk_G D cy ld t [] H → va_S (tk_w t [(20, 0, 0), (12, 0, 0), (9, 0, 0), (20, 14, 14), (10, 14, 14)]) s.heap H locs → tk_f D H (ld 33) 9 5 (.int v8) → tk_f D H (ld 20) 2 4 (.int v1930) → ∀ ls : Array Slot, lv_has ls 11 [(8, .int v23), (7, .int v24), (6, .int v25), (5, .ref (ld 34)), (4, .ref (ld 33)), (0, .ref a0), (1, .int 3), (2, .int p2), (3, .int p3)] → W p l e ({ frames := 7, cells := 0, slots := 0, locals := 420 }) s m args below meth c H locs 0 0 (MQ below (ti D cy ld t [] (fun r H => 0 ≤ r.toInt ∧ r.toInt ≤ 100) (tk_w t [(20, 0, 0), (12, 0, 0), (9, 0, 0), (20, 14, 14), (10, 14, 14)])) args s 0 0 (tk_w t [(20, 0, 0), (12, 0, 0), (9, 0, 0), (20, 14, 14), (10, 14, 14)])) (F0 m 154 ls [.int v2210]) := by
                    intro v2210 H locs hq0_j2212 hq1_j2212 hG hS hf7 hf1929 ls hl
                    refine lv_istore (lv' := [(10, .int v2210), (8, .int v23), (7, .int v24), (6, .int v25), (5, .ref (ld 34)), (4, .ref (ld 33)), (0, .ref a0), (1, .int 3), (2, .int p2), (3, .int p3)]) hx hb dX5_worthOf_154 hl (by decide) rfl (fun ls hl => ?_)
                    refine lv_iload hx hb dX5_worthOf_156 (lv_at hl 3 rfl) ?_
                    refine lv_iconst (v := (-1)) hx hb dX5_worthOf_158 (by decide) ?_
                    refine lv_icmp_eq (tgt := 169) hx hb dX5_worthOf_159 (by decide) (fun c9 => absurd (show v25.toInt = (-1) from (fi_eq rfl (by decide)).mp c9) (by omega)) (fun _ => ?_)
                    refine lv_iload hx hb dX5_worthOf_162 (lv_at hl 0 rfl) ?_
                    refine lv_iload hx hb dX5_worthOf_164 (lv_at hl 2 rfl) ?_
                    refine lv_icmp_le (tgt := 177) hx hb dX5_worthOf_166 (by decide) (fun c9 => ?_) (fun c9 => ?_)
                    · have hc2213 : v2210.toInt ≤ v24.toInt := (fi_le rfl rfl).mp c9
                      exact hj2191 v24 v25 _ _ (by omega) (by omega) (by omega) (by omega) hG hS hf7 hf1929 _ (lv_sub hl [1, 2, 3, 4, 5, 6, 7, 8, 9] rfl)
                    · have hc2213 : ¬ (v2210.toInt ≤ v24.toInt) := fun h9 => c9 ((fi_le rfl rfl).mpr h9)
                      refine lv_iload hx hb dX5_worthOf_169 (lv_at hl 1 rfl) ?_
                      refine lv_istore (lv' := [(6, .int v23), (10, .int v2210), (8, .int v23), (7, .int v24), (5, .ref (ld 34)), (4, .ref (ld 33)), (0, .ref a0), (1, .int 3), (2, .int p2), (3, .int p3)]) hx hb dX5_worthOf_171 hl (by decide) rfl (fun ls hl => ?_)
                      refine lv_iload hx hb dX5_worthOf_173 (lv_at hl 1 rfl) ?_
                      refine lv_istore (lv' := [(7, .int v2210), (6, .int v23), (10, .int v2210), (8, .int v23), (5, .ref (ld 34)), (4, .ref (ld 33)), (0, .ref a0), (1, .int 3), (2, .int p2), (3, .int p3)]) hx hb dX5_worthOf_175 hl (by decide) rfl (fun ls hl => ?_)
                      exact hj2191 v2210 v23 _ _ (by omega) (by omega) (by omega) (by omega) hG hS hf7 hf1929 _ (lv_sub hl [3, 0, 1, 4, 5, 6, 7, 8, 9] rfl)
                  refine lv_if_ne (tgt := 141) hx hb dX5_worthOf_131 (by decide) (fun c9 => ?_) (fun c9 => ?_)
                  · have hc2200 : ¬ (v2198.toInt = 0) := fun h9 => c9 ((fi_eq rfl (by decide)).mpr h9)
                    refine lv_aload_n hx hb dX5_worthOf_141 rfl (lv_at hl 6 rfl) ?_
                    refine lv_iload_n hx hb dX5_worthOf_142 rfl (lv_at hl 7 rfl) ?_
                    refine lv_iconst (v := 1) hx hb dX5_worthOf_143 (by decide) ?_
                    refine lv_iadd hx hb dX5_worthOf_144 ?_
                    refine fx_ti (v := 4) (by decide) ?_
                    refine lv_iload_n hx hb dX5_worthOf_145 rfl (lv_at hl 9 rfl) ?_
                    refine lv_ineg hx hb dX5_worthOf_146 ?_
                    refine tk_neg rfl (by omega) (by omega) (fun v2214 h_v2214 => ?_)
                    refine lv_iload hx hb dX5_worthOf_147 (lv_at hl 0 rfl) ?_
                    refine lv_ineg hx hb dX5_worthOf_149 ?_
                    refine tk_neg rfl (by omega) (by omega) (fun v2215 h_v2215 => ?_)
                    have hk_4 : (4 : Int32).toInt = 4 := by decide
                    refine tk_Vi (As := [.int 4, .int v2214, .int v2215]) (rest := []) (ci := 5) ⟨hx, hb, hml, hown, hts⟩ hK hG hZ hS (k_X5_worthOf_4 l D cy ld t a0 v2214 v2215 ht_a0) trivial ⟨callB_of 3 hts (wl_in mw_1296) rfl rfl rfl (htl _ mw_40) (htl _ mw_1293) hd_yX5_worthOf ⟨(Nat.le_of_ble_eq_true rfl), (Nat.le_of_ble_eq_true rfl)⟩, htl _ mw_1294, htl _ mw_1295⟩ ht_a0 (by decide) tk_no rfl (tk_w.pick [] rfl) rfl hl.1 rfl (Nat.le_of_ble_eq_true rfl) dX5_worthOf_150 ⟨(Nat.le_of_ble_eq_true rfl), (Nat.le_of_ble_eq_true rfl)⟩ (fun v2216 H locs hpo hG hS hq9 => ?_)
                    have hf7 := hf7.call hq9 tk_w.nil
                    have hf1929 := hf1929.call hq9 tk_w.nil
                    obtain ⟨hpo2218, hpo2219⟩ := hpo
                    refine lv_ineg hx hb dX5_worthOf_153 ?_
                    refine tk_neg rfl (by omega) (by omega) (fun v2220 h_v2220 => ?_)
                    exact hj2212 v2220 _ _ (by omega) (by omega) hG hS hf7 hf1929 _ (lv_sub hl [1, 2, 3, 4, 5, 6, 7, 8, 9] rfl)
                  · have hc2200 : v2198.toInt = 0 := (fi_eq rfl (by decide)).mp c9
                    refine lv_bipush (v := 100) hx hb dX5_worthOf_134 (by decide) ?_
                    refine lv_iload_n hx hb dX5_worthOf_136 rfl (lv_at hl 7 rfl) ?_
                    refine lv_isub hx hb dX5_worthOf_137 ?_
                    refine fx_ti (v := 97) (by decide) ?_
                    refine lv_goto (tgt := 154) hx hb dX5_worthOf_138 (by decide) ?_
                    have hk_97 : (97 : Int32).toInt = 97 := by decide
                    exact hj2212 97 _ _ (by omega) (by omega) hG hS hf7 hf1929 _ (lv_sub hl [1, 2, 3, 4, 5, 6, 7, 8, 9] rfl)
                · have hc2156 : ¬ (v2150.toInt = 0) := fun h9 => c9 ((fi_eq rfl (by decide)).mpr h9)
                  refine lv_goto (tgt := 177) hx hb dX5_worthOf_92 (by decide) ?_
                  exact hj2191 v24 v25 _ _ (by omega) (by omega) (by omega) (by omega) hG hS hf7 hf1929 _ (lv_sub hl [0, 1, 2, 3, 4, 5, 6, 7, 8] rfl)
      have hk_0 : (0 : Int32).toInt = 0 := by decide
      have hk_0 : (0 : Int32).toInt = 0 := by decide
      have hk_m1 : ((-1) : Int32).toInt = (-1) := by decide
      exact hl1927 11 0 0 (-1) _ _ (by omega) (by omega) (by omega) (by omega) (by omega) (by omega) hG hS hf7 _ (lv_sub hl [0, 1, 2, 3, 4, 5, 6, 7, 8] rfl)
    · have hc16 : v9.toInt = 0 := (fi_eq rfl (by decide)).mp c9
      refine lv_iconst (v := 0) hx hb dX5_worthOf_25 (by decide) ?_
      have hk_0 : (0 : Int32).toInt = 0 := by decide
      exact tk_iret (v := 0) hx hb hr rfl hlocks (show 0 ≤ (0 : Int32).toInt ∧ (0 : Int32).toInt ≤ 100 from ⟨(by omega), (by omega)⟩) hG hS dX5_worthOf_26
set_option maxHeartbeats 4000000 in
set_option maxRecDepth 100000 in
theorem k_X5_worthOf_2 (l : Launch) (D : va_G) (cy : Nat → ClassId) (ld : Nat → Nat) (t : tk_T) (a0 : Nat) (p2 : Int32) (p3 : Int32) (ht_a0 : t a0 = (6, 0, 0)) : Met l yX5_worthOf (wl yX5_worthOf cX5_worthOf 11 (some .int)) ({ frames := 8, cells := 0, slots := 0, locals := 490 }) (tp D cy ld t [] [.ref a0, .int 2, .int p2, .int p3] (fun H => True)) (ti D cy ld t [] (fun r H => (-1000000000) ≤ r.toInt ∧ r.toInt ≤ 100) (tk_w t [(20, 0, 0), (12, 0, 0), (9, 0, 0), (20, 13, 13), (10, 13, 13), (20, 14, 14), (10, 14, 14)])) 0 0 (tk_w t [(20, 0, 0), (12, 0, 0), (9, 0, 0), (20, 13, 13), (10, 13, 13), (20, 14, 14), (10, 14, 14)]) := by
  refine tk_met (y := yX5_worthOf) (cc := cX5_worthOf) (maxL := 11) (ret := (some .int)) (av := [.ref a0, .int 2, .int p2, .int p3]) _ _ (by decide) (Nat.le_of_ble_eq_true rfl) ?_
  intro p e s m args below meth c hx hb hr hml hts htl hown hlocks hK H locs hH hG hS hB hZ ls hl
  have hown : s.vm.findClass RX5 = some m.cls := hown
  have hl : lv_has ls 11 [(0, .ref a0), (1, .int 2), (2, .int p2), (3, .int p3)] := hl
  have hr_p2 := tk_rng p2
  have hr_p3 := tk_rng p3
  refine lv_iload_n hx hb dX5_worthOf_0 rfl (lv_at hl 1 rfl) ?_
  refine lv_aload_n hx hb dX5_worthOf_1 rfl (lv_at hl 0 rfl) ?_
  refine tk_get (ci := 5) (C := RX5) (T := TX5) (N := 11) (sp := (0, (-2147483648), 2147483647, 0)) hx hb htl inX5 hown hK hG ht_a0 (by decide) tk_no rfl 3 (by decide) (htl _ mw_1286) (fun _ h9 => h9) rfl dX5_worthOf_2 (fun v9 hf1 hV9 => ?_)
  obtain ⟨v2, rfl, ha_v2, hb_v2⟩ := hV9
  refine lv_icmp_ge (tgt := 25) hx hb dX5_worthOf_5 (by decide) (fun c9 => ?_) (fun c9 => ?_)
  · have hc3 : v2.toInt ≤ 2 := (fi_le rfl (by decide)).mp c9
    refine lv_iconst (v := 0) hx hb dX5_worthOf_25 (by decide) ?_
    have hk_0 : (0 : Int32).toInt = 0 := by decide
    exact tk_iret (v := 0) hx hb hr rfl hlocks (show (-1000000000) ≤ (0 : Int32).toInt ∧ (0 : Int32).toInt ≤ 100 from ⟨(by omega), (by omega)⟩) hG hS dX5_worthOf_26
  · have hc3 : ¬ (v2.toInt ≤ 2) := fun h9 => c9 ((fi_le rfl (by decide)).mpr h9)
    refine lv_iload_n hx hb dX5_worthOf_8 rfl (lv_at hl 1 rfl) ?_
    refine lv_iconst (v := 4) hx hb dX5_worthOf_9 (by decide) ?_
    refine lv_icmp_ge (tgt := 25) hx hb dX5_worthOf_10 (by decide) (fun c9 => absurd c9 (by decide)) (fun _ => ?_)
    refine lv_aload_n hx hb dX5_worthOf_13 rfl (lv_at hl 0 rfl) ?_
    refine tk_get (ci := 5) (C := RX5) (T := TX5) (N := 11) (sp := (6, 26, 5, 0)) hx hb htl inX5 hown hK hG ht_a0 (by decide) tk_no rfl 2 (by decide) (htl _ mw_149) (fun _ h9 => h9) rfl dX5_worthOf_14 (fun v9 hf4 hV9 => ?_)
    obtain ⟨b5, rfl, ht_b5⟩ := hV9
    have ht_b5 : t b5 = (26, 5, 0) := ht_b5
    refine lv_iload_n hx hb dX5_worthOf_17 rfl (lv_at hl 1 rfl) ?_
    refine tk_aald hx hb hK hG 3 rfl rfl ht_b5 (by decide) (fun _ h => h) tk_no (I := 2) (by decide) (by decide) (by decide) dX5_worthOf_18 (fun o6 ht_o6 => ?_)
    obtain ⟨rfl, ht_ld32⟩ := ht_o6
    have ht_ld32 : t (ld 32) = (10, 0, 12) := ht_ld32
    refine fx_top (v := .ref (ld 32)) rfl ?_
    obtain ⟨v9, hf7, hV9⟩ := tk_peek (ci := 9) (C := RX9) (T := TX9) (N := 11) (sp := (0, (-1), 7, 0)) hG ht_ld32 (by decide) tk_no rfl 5 (by decide) rfl
    obtain ⟨v8, rfl, ha_v8, hb_v8⟩ := hV9
    refine tk_Vi (As := []) (rest := []) (ci := 9) ⟨hx, hb, hml, hown, hts⟩ hK hG hZ hS (k_X9_isDuel l D cy ld t 12 (ld 32) v8 ht_ld32 (by omega) (by omega)) hf7 ⟨callB_of 0 hts (wl_in mw_840) rfl rfl rfl (htl _ mw_76) (htl _ mw_1299) hd_yX9_isDuel ⟨(Nat.le_of_ble_eq_true rfl), (Nat.le_of_ble_eq_true rfl)⟩, htl _ mw_838, htl _ mw_839⟩ ht_ld32 (by decide) tk_no rfl (tk_w.pick [] rfl) rfl hl.1 rfl (Nat.le_of_ble_eq_true rfl) dX5_worthOf_19 ⟨(Nat.le_of_ble_eq_true rfl), (Nat.le_of_ble_eq_true rfl)⟩ (fun v9 H locs hpo hG hS hq9 => ?_)
    have hf7 := hf7.call hq9 tk_w.nil
    obtain ⟨hpo11, hpo12, hpo13, hpo14, hpo15⟩ := hpo
    refine lv_if_ne (tgt := 27) hx hb dX5_worthOf_22 (by decide) (fun c9 => ?_) (fun c9 => ?_)
    · have hc16 : ¬ (v9.toInt = 0) := fun h9 => c9 ((fi_eq rfl (by decide)).mpr h9)
      refine lv_aload_n hx hb dX5_worthOf_27 rfl (lv_at hl 0 rfl) ?_
      refine tk_get (ci := 5) (C := RX5) (T := TX5) (N := 11) (sp := (6, 26, 5, 0)) hx hb htl inX5 hown hK hG ht_a0 (by decide) tk_no rfl 2 (by decide) (htl _ mw_149) (fun _ h9 => h9) rfl dX5_worthOf_28 (fun v9 hf17 hV9 => ?_)
      obtain ⟨b18, rfl, ht_b18⟩ := hV9
      have ht_b18 : t b18 = (26, 5, 0) := ht_b18
      refine lv_iload_n hx hb dX5_worthOf_31 rfl (lv_at hl 1 rfl) ?_
      refine tk_aald hx hb hK hG 3 rfl rfl ht_b18 (by decide) (fun _ h => h) tk_no (I := 2) (by decide) (by decide) (by decide) dX5_worthOf_32 (fun o19 ht_o19 => ?_)
      obtain ⟨rfl, ht_ld32⟩ := ht_o19
      have ht_ld32 : t (ld 32) = (10, 0, 12) := ht_ld32
      refine fx_top (v := .ref (ld 32)) rfl ?_
      refine lv_astore (lv' := [(4, .ref (ld 32)), (0, .ref a0), (1, .int 2), (2, .int p2), (3, .int p3)]) hx hb dX5_worthOf_33 hl (by decide) rfl (fun ls hl => ?_)
      refine lv_aload_n hx hb dX5_worthOf_35 rfl (lv_at hl 1 rfl) ?_
      refine tk_get (ci := 5) (C := RX5) (T := TX5) (N := 11) (sp := (6, 26, 5, 0)) hx hb htl inX5 hown hK hG ht_a0 (by decide) tk_no rfl 2 (by decide) (htl _ mw_149) (fun _ h9 => h9) rfl dX5_worthOf_36 (fun v9 hf20 hV9 => ?_)
      obtain ⟨b21, rfl, ht_b21⟩ := hV9
      have ht_b21 : t b21 = (26, 5, 0) := ht_b21
      refine lv_iload_n hx hb dX5_worthOf_39 rfl (lv_at hl 2 rfl) ?_
      refine lv_iconst (v := 1) hx hb dX5_worthOf_40 (by decide) ?_
      refine lv_iadd hx hb dX5_worthOf_41 ?_
      refine fx_ti (v := 3) (by decide) ?_
      refine tk_aald hx hb hK hG 3 rfl rfl ht_b21 (by decide) (fun _ h => h) tk_no (I := 3) (by decide) (by decide) (by decide) dX5_worthOf_42 (fun o22 ht_o22 => ?_)
      obtain ⟨rfl, ht_ld33⟩ := ht_o22
      have ht_ld33 : t (ld 33) = (10, 0, 13) := ht_ld33
      refine fx_top (v := .ref (ld 33)) rfl ?_
      refine lv_astore (lv' := [(5, .ref (ld 33)), (4, .ref (ld 32)), (0, .ref a0), (1, .int 2), (2, .int p2), (3, .int p3)]) hx hb dX5_worthOf_43 hl (by decide) rfl (fun ls hl => ?_)
      refine lv_iconst (v := (-1)) hx hb dX5_worthOf_45 (by decide) ?_
      refine lv_istore (lv' := [(6, .int (-1)), (5, .ref (ld 33)), (4, .ref (ld 32)), (0, .ref a0), (1, .int 2), (2, .int p2), (3, .int p3)]) hx hb dX5_worthOf_46 hl (by decide) rfl (fun ls hl => ?_)
      refine lv_iconst (v := 0) hx hb dX5_worthOf_48 (by decide) ?_
      refine lv_istore (lv' := [(7, .int 0), (6, .int (-1)), (5, .ref (ld 33)), (4, .ref (ld 32)), (0, .ref a0), (1, .int 2), (2, .int p2), (3, .int p3)]) hx hb dX5_worthOf_49 hl (by decide) rfl (fun ls hl => ?_)
      refine lv_iconst (v := 0) hx hb dX5_worthOf_51 (by decide) ?_
      refine lv_istore (lv' := [(8, .int 0), (7, .int 0), (6, .int (-1)), (5, .ref (ld 33)), (4, .ref (ld 32)), (0, .ref a0), (1, .int 2), (2, .int p2), (3, .int p3)]) hx hb dX5_worthOf_52 hl (by decide) rfl (fun ls hl => ?_)
      have hl1927 : ∀ (N : Nat) (v23 : Int32) (v24 : Int32) (v25 : Int32) (H : Heap) (locs : List Loc), v23.toInt ≤ 10 → (-1) ≤ v25.toInt → 0 ≤ v23.toInt + (-1) * v25.toInt + (-1) → v24.toInt ≤ 100 → (-1000000000) ≤ v24.toInt → (-1) * v23.toInt + 10 < (N : Int) → tk_G D cy ld t [] H → va_S (tk_w t [(20, 0, 0), (12, 0, 0), (9, 0, 0), (20, 13, 13), (10, 13, 13), (20, 14, 14), (10, 14, 14)]) s.heap H locs → tk_f D H (ld 32) 9 5 (.int v8) → ∀ ls : Array Slot, lv_has ls 11 [(8, .int v23), (7, .int v24), (6, .int v25), (5, .ref (ld 33)), (4, .ref (ld 32)), (0, .ref a0), (1, .int 2), (2, .int p2), (3, .int p3)] → W p l e ({ frames := 8, cells := 0, slots := 0, locals := 490 }) s m args below meth c H locs 0 0 (MQ below (ti D cy ld t [] (fun r H => (-1000000000) ≤ r.toInt ∧ r.toInt ≤ 100) (tk_w t [(20, 0, 0), (12, 0, 0), (9, 0, 0), (20, 13, 13), (10, 13, 13), (20, 14, 14), (10, 14, 14)])) args s 0 0 (tk_w t [(20, 0, 0), (12, 0, 0), (9, 0, 0), (20, 13, 13), (10, 13, 13), (20, 14, 14), (10, 14, 14)])) (F0 m 54 ls []) := by
        intro N
        induction N with
        | zero => intro v23 v24 v25 H locs hq0_l1927 hq1_l1927 hq2_l1927 hq3_l1927 hq4_l1927 hm_l1927 hG hS hf7 ls hl; exfalso; omega
        | succ N ih =>
          intro v23 v24 v25 H locs hq0_l1927 hq1_l1927 hq2_l1927 hq3_l1927 hq4_l1927 hm_l1927 hG hS hf7 ls hl
          refine lv_iload hx hb dX5_worthOf_54 (lv_at hl 0 rfl) ?_
          refine lv_aload_n hx hb dX5_worthOf_56 rfl (lv_at hl 5 rfl) ?_
          refine tk_get (ci := 5) (C := RX5) (T := TX5) (N := 11) (sp := (8, 20, 3, 0)) hx hb htl inX5 hown hK hG ht_a0 (by decide) tk_no rfl 0 (by decide) (htl _ mw_155) (fun _ h9 => h9) rfl dX5_worthOf_57 (fun v9 hf1928 hV9 => ?_)
          obtain ⟨rfl, ht_ld20⟩ := hV9
          have ht_ld20 : t (ld 20) = (3, 0, 0) := ht_ld20
          refine fx_top (v := .ref (ld 20)) rfl ?_
          refine tk_get (ci := 2) (C := RX2) (T := TX2) (N := 20) (sp := (0, 0, 10, 0)) hx hb htl inX2 hown hK hG ht_ld20 (by decide) tk_no rfl 4 (by decide) (htl _ mw_1297) (fun _ h9 => h9) rfl dX5_worthOf_60 (fun v9 hf1929 hV9 => ?_)
          obtain ⟨v1930, rfl, ha_v1930, hb_v1930⟩ := hV9
          have hj2076 : ∀ (_ : Unit), ∀ ls : Array Slot, lv_has ls 11 [(7, .int v24), (6, .int v25), (0, .ref a0), (1, .int 2)] → W p l e ({ frames := 8, cells := 0, slots := 0, locals := 490 }) s m args below meth c H locs 0 0 (MQ below (ti D cy ld t [] (fun r H => (-1000000000) ≤ r.toInt ∧ r.toInt ≤ 100) (tk_w t [(20, 0, 0), (12, 0, 0), (9, 0, 0), (20, 13, 13), (10, 13, 13), (20, 14, 14), (10, 14, 14)])) args s 0 0 (tk_w t [(20, 0, 0), (12, 0, 0), (9, 0, 0), (20, 13, 13), (10, 13, 13), (20, 14, 14), (10, 14, 14)])) (F0 m 183 ls []) := by
            intro _  ls hl
            refine lv_iload_n hx hb dX5_worthOf_183 rfl (lv_at hl 3 rfl) ?_
            refine lv_if_ne (tgt := 193) hx hb dX5_worthOf_184 (by decide) (fun _ => ?_) (fun c9 => absurd c9 (by decide))
            refine lv_iload hx hb dX5_worthOf_193 (lv_at hl 0 rfl) ?_
            exact tk_iret (v := v24) hx hb hr rfl hlocks (show (-1000000000) ≤ v24.toInt ∧ v24.toInt ≤ 100 from ⟨(by omega), (by omega)⟩) hG hS dX5_worthOf_195
          refine lv_icmp_ge (tgt := 183) hx hb dX5_worthOf_63 (by decide) (fun c9 => ?_) (fun c9 => ?_)
          · have hc1931 : v1930.toInt ≤ v23.toInt := (fi_le rfl rfl).mp c9
            exact hj2076 () _ (lv_sub hl [1, 2, 5, 6] rfl)
          · have hc1931 : ¬ (v1930.toInt ≤ v23.toInt) := fun h9 => c9 ((fi_le rfl rfl).mpr h9)
            refine lv_iload hx hb dX5_worthOf_66 (lv_at hl 2 rfl) ?_
            refine lv_iconst (v := (-1)) hx hb dX5_worthOf_68 (by decide) ?_
            refine lv_icmp_eq (tgt := 78) hx hb dX5_worthOf_69 (by decide) (fun c9 => ?_) (fun c9 => ?_)
            · have hc2077 : v25.toInt = (-1) := (fi_eq rfl (by decide)).mp c9
              refine lv_aload_n hx hb dX5_worthOf_78 rfl (lv_at hl 5 rfl) ?_
              refine tk_get (ci := 5) (C := RX5) (T := TX5) (N := 11) (sp := (6, 9, 0, 0)) hx hb htl inX5 hown hK hG ht_a0 (by decide) tk_no rfl 1 (by decide) (htl _ mw_156) (fun _ h9 => h9) rfl dX5_worthOf_79 (fun v9 hf2078 hV9 => ?_)
              obtain ⟨b2079, rfl, ht_b2079⟩ := hV9
              have ht_b2079 : t b2079 = (9, 0, 0) := ht_b2079
              refine lv_aload hx hb dX5_worthOf_82 (lv_at hl 4 rfl) ?_
              refine lv_iload hx hb dX5_worthOf_84 (lv_at hl 0 rfl) ?_
              refine tk_Vi (As := [.ref (ld 32), .int v23]) (rest := []) (ci := 8) ⟨hx, hb, hml, hown, hts⟩ hK hG hZ hS (k_X8_isBarred l D cy ld t 12 b2079 (ld 32) v23 v8 ht_b2079 ht_ld32 (by omega) (by omega) (by omega) (by omega)) hf7 ⟨callB_of 2 hts (wl_in mw_901) rfl rfl rfl (htl _ mw_21) (htl _ mw_1300) hd_yX8_isBarred ⟨(Nat.le_of_ble_eq_true rfl), (Nat.le_of_ble_eq_true rfl)⟩, htl _ mw_899, htl _ mw_900⟩ ht_b2079 (by decide) tk_no rfl (tk_w.pick [0, 1, 2] rfl) rfl hl.1 rfl (Nat.le_of_ble_eq_true rfl) dX5_worthOf_86 ⟨(Nat.le_of_ble_eq_true rfl), (Nat.le_of_ble_eq_true rfl)⟩ (fun v2080 H locs hpo hG hS hq9 => ?_)
              have hf7 := hf7.call hq9 (tk_w.no ht_ld32 (by decide))
              have hf1929 := hf1929.call hq9 (tk_w.no ht_ld20 (by decide))
              obtain ⟨hpo2082, hpo2083, hpo2084, hpo2085⟩ := hpo
              have hj2119 : ∀ (v2116 : Int32) (v2117 : Int32) (H : Heap) (locs : List Loc), (-1000000000) ≤ v2116.toInt → v2116.toInt ≤ 100 → 0 ≤ (-1) * v2117.toInt + v23.toInt → 0 ≤ v2117.toInt + (-1) * v25.toInt → tk_G D cy ld t [] H → va_S (tk_w t [(20, 0, 0), (12, 0, 0), (9, 0, 0), (20, 13, 13), (10, 13, 13), (20, 14, 14), (10, 14, 14)]) s.heap H locs → tk_f D H (ld 32) 9 5 (.int v8) → tk_f D H (ld 20) 2 4 (.int v1930) → ∀ ls : Array Slot, lv_has ls 11 [(7, .int v2116), (6, .int v2117), (8, .int v23), (5, .ref (ld 33)), (4, .ref (ld 32)), (0, .ref a0), (1, .int 2), (2, .int p2), (3, .int p3)] → W p l e ({ frames := 8, cells := 0, slots := 0, locals := 490 }) s m args below meth c H locs 0 0 (MQ below (ti D cy ld t [] (fun r H => (-1000000000) ≤ r.toInt ∧ r.toInt ≤ 100) (tk_w t [(20, 0, 0), (12, 0, 0), (9, 0, 0), (20, 13, 13), (10, 13, 13), (20, 14, 14), (10, 14, 14)])) args s 0 0 (tk_w t [(20, 0, 0), (12, 0, 0), (9, 0, 0), (20, 13, 13), (10, 13, 13), (20, 14, 14), (10, 14, 14)])) (F0 m 177 ls []) := by
                intro v2116 v2117 H locs hq0_j2119 hq1_j2119 hq2_j2119 hq3_j2119 hG hS hf7 hf1929 ls hl
                obtain ⟨v2120, h_v2120, e_v2120⟩ := tk_inc v23 1 (by decide) (by omega) (by omega)
                refine lv_iinc (v := v2120) (lv' := [(8, .int v2120), (7, .int v2116), (6, .int v2117), (5, .ref (ld 33)), (4, .ref (ld 32)), (0, .ref a0), (1, .int 2), (2, .int p2), (3, .int p3)]) hx hb dX5_worthOf_177 hl (k := 2) rfl e_v2120 (by decide) rfl (fun ls hl => ?_)
                refine lv_goto (tgt := 54) hx hb dX5_worthOf_180 (by decide) ?_
                exact ih v2120 v2116 v2117 _ _ (by omega) (by omega) (by omega) (by omega) (by omega) (by omega) hG hS hf7 _ (lv_sub hl [0, 1, 2, 3, 4, 5, 6, 7, 8] rfl)
              refine lv_if_eq (tgt := 95) hx hb dX5_worthOf_89 (by decide) (fun c9 => ?_) (fun c9 => ?_)
              · have hc2086 : v2080.toInt = 0 := (fi_eq rfl (by decide)).mp c9
                refine lv_aload hx hb dX5_worthOf_95 (lv_at hl 3 rfl) ?_
                refine lv_aload hx hb dX5_worthOf_97 (lv_at hl 4 rfl) ?_
                refine tk_Vv (As := [.ref (ld 32)]) (rest := []) (ci := 9) ⟨hx, hb, hml, hown, hts⟩ hK hG hZ hS (k_X9_copyFrom l D cy ld t 13 12 (ld 33) (ld 32) v8 ht_ld33 ht_ld32 (by omega) (by omega) (by omega)) hf7 ⟨callB_of 1 hts (wl_in mw_821) rfl rfl rfl (htl _ mw_76) (htl _ mw_1292) hd_yX9_copyFrom ⟨(Nat.le_of_ble_eq_true rfl), (Nat.le_of_ble_eq_true rfl)⟩, htl _ mw_819, htl _ mw_820⟩ ht_ld33 (by decide) tk_no rfl (tk_w.pick [3, 4] rfl) rfl hl.1 rfl (Nat.le_of_ble_eq_true rfl) dX5_worthOf_99 ⟨(Nat.le_of_ble_eq_true rfl), (Nat.le_of_ble_eq_true rfl)⟩ (fun H locs hpo hG hS hq9 => ?_)
                have hf7 := hf7.call hq9 (tk_w.no ht_ld32 (by decide))
                have hf1929 := hf1929.call hq9 (tk_w.no ht_ld20 (by decide))
                have hf2122 := hpo
                refine lv_iload hx hb dX5_worthOf_102 (lv_at hl 2 rfl) ?_
                refine lv_iconst (v := (-1)) hx hb dX5_worthOf_104 (by decide) ?_
                refine lv_icmp_ne (tgt := 112) hx hb dX5_worthOf_105 (by decide) (fun c9 => absurd ((fi_eq rfl (by decide)).mpr (show v25.toInt = (-1) by omega)) c9) (fun _ => ?_)
                refine lv_iload_n hx hb dX5_worthOf_108 rfl (lv_at hl 7 rfl) ?_
                refine lv_goto (tgt := 118) hx hb dX5_worthOf_109 (by decide) ?_
                refine lv_istore (lv' := [(9, .int p2), (8, .int v23), (7, .int v24), (6, .int v25), (5, .ref (ld 33)), (4, .ref (ld 32)), (0, .ref a0), (1, .int 2), (2, .int p2), (3, .int p3)]) hx hb dX5_worthOf_118 hl (by decide) rfl (fun ls hl => ?_)
                refine lv_aload_n hx hb dX5_worthOf_120 rfl (lv_at hl 6 rfl) ?_
                refine tk_get (ci := 5) (C := RX5) (T := TX5) (N := 11) (sp := (6, 9, 0, 0)) hx hb htl inX5 hown hK hG ht_a0 (by decide) tk_no rfl 1 (by decide) (htl _ mw_156) (fun _ h9 => h9) rfl dX5_worthOf_121 (fun v9 hf2123 hV9 => ?_)
                obtain ⟨b2124, rfl, ht_b2124⟩ := hV9
                have ht_b2124 : t b2124 = (9, 0, 0) := ht_b2124
                refine lv_aload hx hb dX5_worthOf_124 (lv_at hl 4 rfl) ?_
                refine lv_iload hx hb dX5_worthOf_126 (lv_at hl 1 rfl) ?_
                refine tk_Vi (As := [.ref (ld 33), .int v23]) (rest := []) (ci := 8) ⟨hx, hb, hml, hown, hts⟩ hK hG hZ hS (k_X8_singOn l D cy ld t 13 b2124 (ld 33) v23 v8 ht_b2124 ht_ld33 (by omega) (by omega) (by omega) (by omega)) hf2122 ⟨callB_of 2 hts (wl_in mw_946) rfl rfl rfl (htl _ mw_21) (htl _ mw_1301) hd_yX8_singOn ⟨(Nat.le_of_ble_eq_true rfl), (Nat.le_of_ble_eq_true rfl)⟩, htl _ mw_944, htl _ mw_945⟩ ht_b2124 (by decide) tk_no rfl (tk_w.pick [0, 1, 2, 3, 4] rfl) rfl hl.1 rfl (Nat.le_of_ble_eq_true rfl) dX5_worthOf_128 ⟨(Nat.le_of_ble_eq_true rfl), (Nat.le_of_ble_eq_true rfl)⟩ (fun v2125 H locs hpo hG hS hq9 => ?_)
                have hf7 := hf7.call hq9 (tk_w.no ht_ld32 (by decide))
                have hf1929 := hf1929.call hq9 (tk_w.no ht_ld20 (by decide))
                have hj2139 : ∀ (v2137 : Int32) (H : Heap) (locs : List Loc), (-100) ≤ v2137.toInt → v2137.toInt ≤ 98 → tk_G D cy ld t [] H → va_S (tk_w t [(20, 0, 0), (12, 0, 0), (9, 0, 0), (20, 13, 13), (10, 13, 13), (20, 14, 14), (10, 14, 14)]) s.heap H locs → tk_f D H (ld 32) 9 5 (.int v8) → tk_f D H (ld 20) 2 4 (.int v1930) → ∀ ls : Array Slot, lv_has ls 11 [(8, .int v23), (7, .int v24), (6, .int v25), (5, .ref (ld 33)), (4, .ref (ld 32)), (0, .ref a0), (1, .int 2), (2, .int p2), (3, .int p3)] → W p l e ({ frames := 8, cells := 0, slots := 0, locals := 490 }) s m args below meth c H locs 0 0 (MQ below (ti D cy ld t [] (fun r H => (-1000000000) ≤ r.toInt ∧ r.toInt ≤ 100) (tk_w t [(20, 0, 0), (12, 0, 0), (9, 0, 0), (20, 13, 13), (10, 13, 13), (20, 14, 14), (10, 14, 14)])) args s 0 0 (tk_w t [(20, 0, 0), (12, 0, 0), (9, 0, 0), (20, 13, 13), (10, 13, 13), (20, 14, 14), (10, 14, 14)])) (F0 m 154 ls [.int v2137]) := by
                  intro v2137 H locs hq0_j2139 hq1_j2139 hG hS hf7 hf1929 ls hl
                  refine lv_istore (lv' := [(10, .int v2137), (8, .int v23), (7, .int v24), (6, .int v25), (5, .ref (ld 33)), (4, .ref (ld 32)), (0, .ref a0), (1, .int 2), (2, .int p2), (3, .int p3)]) hx hb dX5_worthOf_154 hl (by decide) rfl (fun ls hl => ?_)
                  refine lv_iload hx hb dX5_worthOf_156 (lv_at hl 3 rfl) ?_
                  refine lv_iconst (v := (-1)) hx hb dX5_worthOf_158 (by decide) ?_
                  refine lv_icmp_eq (tgt := 169) hx hb dX5_worthOf_159 (by decide) (fun _ => ?_) (fun c9 => absurd ((fi_eq rfl (by decide)).mpr (show v25.toInt = (-1) by omega)) c9)
                  refine lv_iload hx hb dX5_worthOf_169 (lv_at hl 1 rfl) ?_
                  refine lv_istore (lv' := [(6, .int v23), (10, .int v2137), (8, .int v23), (7, .int v24), (5, .ref (ld 33)), (4, .ref (ld 32)), (0, .ref a0), (1, .int 2), (2, .int p2), (3, .int p3)]) hx hb dX5_worthOf_171 hl (by decide) rfl (fun ls hl => ?_)
                  refine lv_iload hx hb dX5_worthOf_173 (lv_at hl 1 rfl) ?_
                  refine lv_istore (lv' := [(7, .int v2137), (6, .int v23), (10, .int v2137), (8, .int v23), (5, .ref (ld 33)), (4, .ref (ld 32)), (0, .ref a0), (1, .int 2), (2, .int p2), (3, .int p3)]) hx hb dX5_worthOf_175 hl (by decide) rfl (fun ls hl => ?_)
                  exact hj2119 v2137 v23 _ _ (by omega) (by omega) (by omega) (by omega) hG hS hf7 hf1929 _ (lv_sub hl [0, 1, 3, 4, 5, 6, 7, 8, 9] rfl)
                refine lv_if_ne (tgt := 141) hx hb dX5_worthOf_131 (by decide) (fun c9 => ?_) (fun c9 => ?_)
                · have hc2127 : ¬ (v2125.toInt = 0) := fun h9 => c9 ((fi_eq rfl (by decide)).mpr h9)
                  refine lv_aload_n hx hb dX5_worthOf_141 rfl (lv_at hl 6 rfl) ?_
                  refine lv_iload_n hx hb dX5_worthOf_142 rfl (lv_at hl 7 rfl) ?_
                  refine lv_iconst (v := 1) hx hb dX5_worthOf_143 (by decide) ?_
                  refine lv_iadd hx hb dX5_worthOf_144 ?_
                  refine fx_ti (v := 3) (by decide) ?_
                  refine lv_iload_n hx hb dX5_worthOf_145 rfl (lv_at hl 9 rfl) ?_
                  refine lv_ineg hx hb dX5_worthOf_146 ?_
                  refine tk_any (fun v2140 => ?_)
                  refine lv_iload hx hb dX5_worthOf_147 (lv_at hl 0 rfl) ?_
                  refine lv_ineg hx hb dX5_worthOf_149 ?_
                  refine tk_any (fun v2141 => ?_)
                  have hk_3 : (3 : Int32).toInt = 3 := by decide
                  refine tk_Vi (As := [.int 3, .int v2140, .int v2141]) (rest := []) (ci := 5) ⟨hx, hb, hml, hown, hts⟩ hK hG hZ hS (k_X5_worthOf_3 l D cy ld t a0 v2140 v2141 ht_a0) trivial ⟨callB_of 3 hts (wl_in mw_1296) rfl rfl rfl (htl _ mw_40) (htl _ mw_1293) hd_yX5_worthOf ⟨(Nat.le_of_ble_eq_true rfl), (Nat.le_of_ble_eq_true rfl)⟩, htl _ mw_1294, htl _ mw_1295⟩ ht_a0 (by decide) tk_no rfl (tk_w.pick [0, 1, 2, 5, 6] rfl) rfl hl.1 rfl (Nat.le_of_ble_eq_true rfl) dX5_worthOf_150 ⟨(Nat.le_of_ble_eq_true rfl), (Nat.le_of_ble_eq_true rfl)⟩ (fun v2142 H locs hpo hG hS hq9 => ?_)
                  have hf7 := hf7.call hq9 (tk_w.no ht_ld32 (by decide))
                  have hf1929 := hf1929.call hq9 (tk_w.no ht_ld20 (by decide))
                  obtain ⟨hpo2144, hpo2145⟩ := hpo
                  refine lv_ineg hx hb dX5_worthOf_153 ?_
                  refine tk_neg rfl (by omega) (by omega) (fun v2146 h_v2146 => ?_)
                  exact hj2139 v2146 _ _ (by omega) (by omega) hG hS hf7 hf1929 _ (lv_sub hl [1, 2, 3, 4, 5, 6, 7, 8, 9] rfl)
                · have hc2127 : v2125.toInt = 0 := (fi_eq rfl (by decide)).mp c9
                  refine lv_bipush (v := 100) hx hb dX5_worthOf_134 (by decide) ?_
                  refine lv_iload_n hx hb dX5_worthOf_136 rfl (lv_at hl 7 rfl) ?_
                  refine lv_isub hx hb dX5_worthOf_137 ?_
                  refine fx_ti (v := 98) (by decide) ?_
                  refine lv_goto (tgt := 154) hx hb dX5_worthOf_138 (by decide) ?_
                  have hk_98 : (98 : Int32).toInt = 98 := by decide
                  exact hj2139 98 _ _ (by omega) (by omega) hG hS hf7 hf1929 _ (lv_sub hl [1, 2, 3, 4, 5, 6, 7, 8, 9] rfl)
              · have hc2086 : ¬ (v2080.toInt = 0) := fun h9 => c9 ((fi_eq rfl (by decide)).mpr h9)
                refine lv_goto (tgt := 177) hx hb dX5_worthOf_92 (by decide) ?_
                exact hj2119 v24 v25 _ _ (by omega) (by omega) (by omega) (by omega) hG hS hf7 hf1929 _ (lv_sub hl [1, 2, 0, 3, 4, 5, 6, 7, 8] rfl)
            · have hc2077 : ¬ (v25.toInt = (-1)) := fun h9 => c9 ((fi_eq rfl (by decide)).mpr h9)
              refine lv_iload hx hb dX5_worthOf_72 (lv_at hl 1 rfl) ?_
              refine lv_iload_n hx hb dX5_worthOf_74 rfl (lv_at hl 8 rfl) ?_
              refine lv_icmp_ge (tgt := 183) hx hb dX5_worthOf_75 (by decide) (fun c9 => ?_) (fun c9 => ?_)
              · have hc2147 : p3.toInt ≤ v24.toInt := (fi_le rfl rfl).mp c9
                exact hj2076 () _ (lv_sub hl [1, 2, 5, 6] rfl)
              · have hc2147 : ¬ (p3.toInt ≤ v24.toInt) := fun h9 => c9 ((fi_le rfl rfl).mpr h9)
                refine lv_aload_n hx hb dX5_worthOf_78 rfl (lv_at hl 5 rfl) ?_
                refine tk_get (ci := 5) (C := RX5) (T := TX5) (N := 11) (sp := (6, 9, 0, 0)) hx hb htl inX5 hown hK hG ht_a0 (by decide) tk_no rfl 1 (by decide) (htl _ mw_156) (fun _ h9 => h9) rfl dX5_worthOf_79 (fun v9 hf2148 hV9 => ?_)
                obtain ⟨b2149, rfl, ht_b2149⟩ := hV9
                have ht_b2149 : t b2149 = (9, 0, 0) := ht_b2149
                refine lv_aload hx hb dX5_worthOf_82 (lv_at hl 4 rfl) ?_
                refine lv_iload hx hb dX5_worthOf_84 (lv_at hl 0 rfl) ?_
                refine tk_Vi (As := [.ref (ld 32), .int v23]) (rest := []) (ci := 8) ⟨hx, hb, hml, hown, hts⟩ hK hG hZ hS (k_X8_isBarred l D cy ld t 12 b2149 (ld 32) v23 v8 ht_b2149 ht_ld32 (by omega) (by omega) (by omega) (by omega)) hf7 ⟨callB_of 2 hts (wl_in mw_901) rfl rfl rfl (htl _ mw_21) (htl _ mw_1300) hd_yX8_isBarred ⟨(Nat.le_of_ble_eq_true rfl), (Nat.le_of_ble_eq_true rfl)⟩, htl _ mw_899, htl _ mw_900⟩ ht_b2149 (by decide) tk_no rfl (tk_w.pick [0, 1, 2] rfl) rfl hl.1 rfl (Nat.le_of_ble_eq_true rfl) dX5_worthOf_86 ⟨(Nat.le_of_ble_eq_true rfl), (Nat.le_of_ble_eq_true rfl)⟩ (fun v2150 H locs hpo hG hS hq9 => ?_)
                have hf7 := hf7.call hq9 (tk_w.no ht_ld32 (by decide))
                have hf1929 := hf1929.call hq9 (tk_w.no ht_ld20 (by decide))
                obtain ⟨hpo2152, hpo2153, hpo2154, hpo2155⟩ := hpo
                have hj2191 : ∀ (v2188 : Int32) (v2189 : Int32) (H : Heap) (locs : List Loc), v2188.toInt ≤ 100 → 0 ≤ v2188.toInt + (-1) * v24.toInt → 0 ≤ (-1) * v2189.toInt + v23.toInt → 0 ≤ v2189.toInt + (-1) * v25.toInt → tk_G D cy ld t [] H → va_S (tk_w t [(20, 0, 0), (12, 0, 0), (9, 0, 0), (20, 13, 13), (10, 13, 13), (20, 14, 14), (10, 14, 14)]) s.heap H locs → tk_f D H (ld 32) 9 5 (.int v8) → tk_f D H (ld 20) 2 4 (.int v1930) → ∀ ls : Array Slot, lv_has ls 11 [(8, .int v23), (7, .int v2188), (6, .int v2189), (5, .ref (ld 33)), (4, .ref (ld 32)), (0, .ref a0), (1, .int 2), (2, .int p2), (3, .int p3)] → W p l e ({ frames := 8, cells := 0, slots := 0, locals := 490 }) s m args below meth c H locs 0 0 (MQ below (ti D cy ld t [] (fun r H => (-1000000000) ≤ r.toInt ∧ r.toInt ≤ 100) (tk_w t [(20, 0, 0), (12, 0, 0), (9, 0, 0), (20, 13, 13), (10, 13, 13), (20, 14, 14), (10, 14, 14)])) args s 0 0 (tk_w t [(20, 0, 0), (12, 0, 0), (9, 0, 0), (20, 13, 13), (10, 13, 13), (20, 14, 14), (10, 14, 14)])) (F0 m 177 ls []) := by
                  intro v2188 v2189 H locs hq0_j2191 hq1_j2191 hq2_j2191 hq3_j2191 hG hS hf7 hf1929 ls hl
                  obtain ⟨v2192, h_v2192, e_v2192⟩ := tk_inc v23 1 (by decide) (by omega) (by omega)
                  refine lv_iinc (v := v2192) (lv' := [(8, .int v2192), (7, .int v2188), (6, .int v2189), (5, .ref (ld 33)), (4, .ref (ld 32)), (0, .ref a0), (1, .int 2), (2, .int p2), (3, .int p3)]) hx hb dX5_worthOf_177 hl (k := 0) rfl e_v2192 (by decide) rfl (fun ls hl => ?_)
                  refine lv_goto (tgt := 54) hx hb dX5_worthOf_180 (by decide) ?_
                  exact ih v2192 v2188 v2189 _ _ (by omega) (by omega) (by omega) (by omega) (by omega) (by omega) hG hS hf7 _ (lv_sub hl [0, 1, 2, 3, 4, 5, 6, 7, 8] rfl)
                refine lv_if_eq (tgt := 95) hx hb dX5_worthOf_89 (by decide) (fun c9 => ?_) (fun c9 => ?_)
                · have hc2156 : v2150.toInt = 0 := (fi_eq rfl (by decide)).mp c9
                  refine lv_aload hx hb dX5_worthOf_95 (lv_at hl 3 rfl) ?_
                  refine lv_aload hx hb dX5_worthOf_97 (lv_at hl 4 rfl) ?_
                  refine tk_Vv (As := [.ref (ld 32)]) (rest := []) (ci := 9) ⟨hx, hb, hml, hown, hts⟩ hK hG hZ hS (k_X9_copyFrom l D cy ld t 13 12 (ld 33) (ld 32) v8 ht_ld33 ht_ld32 (by omega) (by omega) (by omega)) hf7 ⟨callB_of 1 hts (wl_in mw_821) rfl rfl rfl (htl _ mw_76) (htl _ mw_1292) hd_yX9_copyFrom ⟨(Nat.le_of_ble_eq_true rfl), (Nat.le_of_ble_eq_true rfl)⟩, htl _ mw_819, htl _ mw_820⟩ ht_ld33 (by decide) tk_no rfl (tk_w.pick [3, 4] rfl) rfl hl.1 rfl (Nat.le_of_ble_eq_true rfl) dX5_worthOf_99 ⟨(Nat.le_of_ble_eq_true rfl), (Nat.le_of_ble_eq_true rfl)⟩ (fun H locs hpo hG hS hq9 => ?_)
                  have hf7 := hf7.call hq9 (tk_w.no ht_ld32 (by decide))
                  have hf1929 := hf1929.call hq9 (tk_w.no ht_ld20 (by decide))
                  have hf2194 := hpo
                  refine lv_iload hx hb dX5_worthOf_102 (lv_at hl 2 rfl) ?_
                  refine lv_iconst (v := (-1)) hx hb dX5_worthOf_104 (by decide) ?_
                  refine lv_icmp_ne (tgt := 112) hx hb dX5_worthOf_105 (by decide) (fun _ => ?_) (fun c9 => absurd (show v25.toInt = (-1) from (fi_eq rfl (by decide)).mp c9) (by omega))
                  refine lv_iload_n hx hb dX5_worthOf_112 rfl (lv_at hl 7 rfl) ?_
                  refine lv_iload hx hb dX5_worthOf_113 (lv_at hl 1 rfl) ?_
                  refine va_mmax hx hb (by rw [hml]; exact hl.1.symm) hown (htl _ mw_1298) (htl _ mw_948) (htl _ mw_474) (htl _ mw_949) (Nat.le_of_ble_eq_true rfl) (Nat.le_of_ble_eq_true rfl) (Nat.le_of_ble_eq_true rfl) (Nat.le_of_ble_eq_true rfl) dX5_worthOf_115 ?_
                  refine tk_say (P := fun z => p2.toInt ≤ z.toInt ∧ v24.toInt ≤ z.toInt ∧ (z.toInt = p2.toInt ∨ z.toInt = v24.toInt)) (tk_max rfl rfl) (fun v2195 h_v2195 => ?_)
                  refine lv_istore (lv' := [(9, .int v2195), (8, .int v23), (7, .int v24), (6, .int v25), (5, .ref (ld 33)), (4, .ref (ld 32)), (0, .ref a0), (1, .int 2), (2, .int p2), (3, .int p3)]) hx hb dX5_worthOf_118 hl (by decide) rfl (fun ls hl => ?_)
                  refine lv_aload_n hx hb dX5_worthOf_120 rfl (lv_at hl 6 rfl) ?_
                  refine tk_get (ci := 5) (C := RX5) (T := TX5) (N := 11) (sp := (6, 9, 0, 0)) hx hb htl inX5 hown hK hG ht_a0 (by decide) tk_no rfl 1 (by decide) (htl _ mw_156) (fun _ h9 => h9) rfl dX5_worthOf_121 (fun v9 hf2196 hV9 => ?_)
                  obtain ⟨b2197, rfl, ht_b2197⟩ := hV9
                  have ht_b2197 : t b2197 = (9, 0, 0) := ht_b2197
                  refine lv_aload hx hb dX5_worthOf_124 (lv_at hl 4 rfl) ?_
                  refine lv_iload hx hb dX5_worthOf_126 (lv_at hl 1 rfl) ?_
                  refine tk_Vi (As := [.ref (ld 33), .int v23]) (rest := []) (ci := 8) ⟨hx, hb, hml, hown, hts⟩ hK hG hZ hS (k_X8_singOn l D cy ld t 13 b2197 (ld 33) v23 v8 ht_b2197 ht_ld33 (by omega) (by omega) (by omega) (by omega)) hf2194 ⟨callB_of 2 hts (wl_in mw_946) rfl rfl rfl (htl _ mw_21) (htl _ mw_1301) hd_yX8_singOn ⟨(Nat.le_of_ble_eq_true rfl), (Nat.le_of_ble_eq_true rfl)⟩, htl _ mw_944, htl _ mw_945⟩ ht_b2197 (by decide) tk_no rfl (tk_w.pick [0, 1, 2, 3, 4] rfl) rfl hl.1 rfl (Nat.le_of_ble_eq_true rfl) dX5_worthOf_128 ⟨(Nat.le_of_ble_eq_true rfl), (Nat.le_of_ble_eq_true rfl)⟩ (fun v2198 H locs hpo hG hS hq9 => ?_)
                  have hf7 := hf7.call hq9 (tk_w.no ht_ld32 (by decide))
                  have hf1929 := hf1929.call hq9 (tk_w.no ht_ld20 (by decide))
                  have hj2212 : ∀ (v2210 : Int32) (H : Heap) (locs : List Loc), (-100) ≤ v2210.toInt → v2210.toInt ≤ 98 → tk_G D cy ld t [] H → va_S (tk_w t [(20, 0, 0), (12, 0, 0), (9, 0, 0), (20, 13, 13), (10, 13, 13), (20, 14, 14), (10, 14, 14)]) s.heap H locs → tk_f D H (ld 32) 9 5 (.int v8) → tk_f D H (ld 20) 2 4 (.int v1930) → ∀ ls : Array Slot, lv_has ls 11 [(8, .int v23), (7, .int v24), (6, .int v25), (5, .ref (ld 33)), (4, .ref (ld 32)), (0, .ref a0), (1, .int 2), (2, .int p2), (3, .int p3)] → W p l e ({ frames := 8, cells := 0, slots := 0, locals := 490 }) s m args below meth c H locs 0 0 (MQ below (ti D cy ld t [] (fun r H => (-1000000000) ≤ r.toInt ∧ r.toInt ≤ 100) (tk_w t [(20, 0, 0), (12, 0, 0), (9, 0, 0), (20, 13, 13), (10, 13, 13), (20, 14, 14), (10, 14, 14)])) args s 0 0 (tk_w t [(20, 0, 0), (12, 0, 0), (9, 0, 0), (20, 13, 13), (10, 13, 13), (20, 14, 14), (10, 14, 14)])) (F0 m 154 ls [.int v2210]) := by
                    intro v2210 H locs hq0_j2212 hq1_j2212 hG hS hf7 hf1929 ls hl
                    refine lv_istore (lv' := [(10, .int v2210), (8, .int v23), (7, .int v24), (6, .int v25), (5, .ref (ld 33)), (4, .ref (ld 32)), (0, .ref a0), (1, .int 2), (2, .int p2), (3, .int p3)]) hx hb dX5_worthOf_154 hl (by decide) rfl (fun ls hl => ?_)
                    refine lv_iload hx hb dX5_worthOf_156 (lv_at hl 3 rfl) ?_
                    refine lv_iconst (v := (-1)) hx hb dX5_worthOf_158 (by decide) ?_
                    refine lv_icmp_eq (tgt := 169) hx hb dX5_worthOf_159 (by decide) (fun c9 => absurd (show v25.toInt = (-1) from (fi_eq rfl (by decide)).mp c9) (by omega)) (fun _ => ?_)
                    refine lv_iload hx hb dX5_worthOf_162 (lv_at hl 0 rfl) ?_
                    refine lv_iload hx hb dX5_worthOf_164 (lv_at hl 2 rfl) ?_
                    refine lv_icmp_le (tgt := 177) hx hb dX5_worthOf_166 (by decide) (fun c9 => ?_) (fun c9 => ?_)
                    · have hc2213 : v2210.toInt ≤ v24.toInt := (fi_le rfl rfl).mp c9
                      exact hj2191 v24 v25 _ _ (by omega) (by omega) (by omega) (by omega) hG hS hf7 hf1929 _ (lv_sub hl [1, 2, 3, 4, 5, 6, 7, 8, 9] rfl)
                    · have hc2213 : ¬ (v2210.toInt ≤ v24.toInt) := fun h9 => c9 ((fi_le rfl rfl).mpr h9)
                      refine lv_iload hx hb dX5_worthOf_169 (lv_at hl 1 rfl) ?_
                      refine lv_istore (lv' := [(6, .int v23), (10, .int v2210), (8, .int v23), (7, .int v24), (5, .ref (ld 33)), (4, .ref (ld 32)), (0, .ref a0), (1, .int 2), (2, .int p2), (3, .int p3)]) hx hb dX5_worthOf_171 hl (by decide) rfl (fun ls hl => ?_)
                      refine lv_iload hx hb dX5_worthOf_173 (lv_at hl 1 rfl) ?_
                      refine lv_istore (lv' := [(7, .int v2210), (6, .int v23), (10, .int v2210), (8, .int v23), (5, .ref (ld 33)), (4, .ref (ld 32)), (0, .ref a0), (1, .int 2), (2, .int p2), (3, .int p3)]) hx hb dX5_worthOf_175 hl (by decide) rfl (fun ls hl => ?_)
                      exact hj2191 v2210 v23 _ _ (by omega) (by omega) (by omega) (by omega) hG hS hf7 hf1929 _ (lv_sub hl [3, 0, 1, 4, 5, 6, 7, 8, 9] rfl)
                  refine lv_if_ne (tgt := 141) hx hb dX5_worthOf_131 (by decide) (fun c9 => ?_) (fun c9 => ?_)
                  · have hc2200 : ¬ (v2198.toInt = 0) := fun h9 => c9 ((fi_eq rfl (by decide)).mpr h9)
                    refine lv_aload_n hx hb dX5_worthOf_141 rfl (lv_at hl 6 rfl) ?_
                    refine lv_iload_n hx hb dX5_worthOf_142 rfl (lv_at hl 7 rfl) ?_
                    refine lv_iconst (v := 1) hx hb dX5_worthOf_143 (by decide) ?_
                    refine lv_iadd hx hb dX5_worthOf_144 ?_
                    refine fx_ti (v := 3) (by decide) ?_
                    refine lv_iload_n hx hb dX5_worthOf_145 rfl (lv_at hl 9 rfl) ?_
                    refine lv_ineg hx hb dX5_worthOf_146 ?_
                    refine tk_neg rfl (by omega) (by omega) (fun v2214 h_v2214 => ?_)
                    refine lv_iload hx hb dX5_worthOf_147 (lv_at hl 0 rfl) ?_
                    refine lv_ineg hx hb dX5_worthOf_149 ?_
                    refine tk_neg rfl (by omega) (by omega) (fun v2215 h_v2215 => ?_)
                    have hk_3 : (3 : Int32).toInt = 3 := by decide
                    refine tk_Vi (As := [.int 3, .int v2214, .int v2215]) (rest := []) (ci := 5) ⟨hx, hb, hml, hown, hts⟩ hK hG hZ hS (k_X5_worthOf_3 l D cy ld t a0 v2214 v2215 ht_a0) trivial ⟨callB_of 3 hts (wl_in mw_1296) rfl rfl rfl (htl _ mw_40) (htl _ mw_1293) hd_yX5_worthOf ⟨(Nat.le_of_ble_eq_true rfl), (Nat.le_of_ble_eq_true rfl)⟩, htl _ mw_1294, htl _ mw_1295⟩ ht_a0 (by decide) tk_no rfl (tk_w.pick [0, 1, 2, 5, 6] rfl) rfl hl.1 rfl (Nat.le_of_ble_eq_true rfl) dX5_worthOf_150 ⟨(Nat.le_of_ble_eq_true rfl), (Nat.le_of_ble_eq_true rfl)⟩ (fun v2216 H locs hpo hG hS hq9 => ?_)
                    have hf7 := hf7.call hq9 (tk_w.no ht_ld32 (by decide))
                    have hf1929 := hf1929.call hq9 (tk_w.no ht_ld20 (by decide))
                    obtain ⟨hpo2218, hpo2219⟩ := hpo
                    refine lv_ineg hx hb dX5_worthOf_153 ?_
                    refine tk_neg rfl (by omega) (by omega) (fun v2220 h_v2220 => ?_)
                    exact hj2212 v2220 _ _ (by omega) (by omega) hG hS hf7 hf1929 _ (lv_sub hl [1, 2, 3, 4, 5, 6, 7, 8, 9] rfl)
                  · have hc2200 : v2198.toInt = 0 := (fi_eq rfl (by decide)).mp c9
                    refine lv_bipush (v := 100) hx hb dX5_worthOf_134 (by decide) ?_
                    refine lv_iload_n hx hb dX5_worthOf_136 rfl (lv_at hl 7 rfl) ?_
                    refine lv_isub hx hb dX5_worthOf_137 ?_
                    refine fx_ti (v := 98) (by decide) ?_
                    refine lv_goto (tgt := 154) hx hb dX5_worthOf_138 (by decide) ?_
                    have hk_98 : (98 : Int32).toInt = 98 := by decide
                    exact hj2212 98 _ _ (by omega) (by omega) hG hS hf7 hf1929 _ (lv_sub hl [1, 2, 3, 4, 5, 6, 7, 8, 9] rfl)
                · have hc2156 : ¬ (v2150.toInt = 0) := fun h9 => c9 ((fi_eq rfl (by decide)).mpr h9)
                  refine lv_goto (tgt := 177) hx hb dX5_worthOf_92 (by decide) ?_
                  exact hj2191 v24 v25 _ _ (by omega) (by omega) (by omega) (by omega) hG hS hf7 hf1929 _ (lv_sub hl [0, 1, 2, 3, 4, 5, 6, 7, 8] rfl)
      have hk_0 : (0 : Int32).toInt = 0 := by decide
      have hk_0 : (0 : Int32).toInt = 0 := by decide
      have hk_m1 : ((-1) : Int32).toInt = (-1) := by decide
      exact hl1927 11 0 0 (-1) _ _ (by omega) (by omega) (by omega) (by omega) (by omega) (by omega) hG hS hf7 _ (lv_sub hl [0, 1, 2, 3, 4, 5, 6, 7, 8] rfl)
    · have hc16 : v9.toInt = 0 := (fi_eq rfl (by decide)).mp c9
      refine lv_iconst (v := 0) hx hb dX5_worthOf_25 (by decide) ?_
      have hk_0 : (0 : Int32).toInt = 0 := by decide
      exact tk_iret (v := 0) hx hb hr rfl hlocks (show (-1000000000) ≤ (0 : Int32).toInt ∧ (0 : Int32).toInt ≤ 100 from ⟨(by omega), (by omega)⟩) hG hS dX5_worthOf_26
set_option maxHeartbeats 4000000 in
set_option maxRecDepth 100000 in
theorem k_X5_worthOf_1 (l : Launch) (D : va_G) (cy : Nat → ClassId) (ld : Nat → Nat) (t : tk_T) (a0 : Nat) (p2 : Int32) (p3 : Int32) (ht_a0 : t a0 = (6, 0, 0)) : Met l yX5_worthOf (wl yX5_worthOf cX5_worthOf 11 (some .int)) ({ frames := 9, cells := 0, slots := 0, locals := 560 }) (tp D cy ld t [] [.ref a0, .int 1, .int p2, .int p3] (fun H => True)) (ti D cy ld t [] (fun r H => (-1000000000) ≤ r.toInt ∧ r.toInt ≤ 1000000000) (tk_w t [(20, 0, 0), (12, 0, 0), (9, 0, 0), (20, 12, 12), (10, 12, 12), (20, 13, 13), (10, 13, 13), (20, 14, 14), (10, 14, 14)])) 0 0 (tk_w t [(20, 0, 0), (12, 0, 0), (9, 0, 0), (20, 12, 12), (10, 12, 12), (20, 13, 13), (10, 13, 13), (20, 14, 14), (10, 14, 14)]) := by
  refine tk_met (y := yX5_worthOf) (cc := cX5_worthOf) (maxL := 11) (ret := (some .int)) (av := [.ref a0, .int 1, .int p2, .int p3]) _ _ (by decide) (Nat.le_of_ble_eq_true rfl) ?_
  intro p e s m args below meth c hx hb hr hml hts htl hown hlocks hK H locs hH hG hS hB hZ ls hl
  have hown : s.vm.findClass RX5 = some m.cls := hown
  have hl : lv_has ls 11 [(0, .ref a0), (1, .int 1), (2, .int p2), (3, .int p3)] := hl
  have hr_p2 := tk_rng p2
  have hr_p3 := tk_rng p3
  refine lv_iload_n hx hb dX5_worthOf_0 rfl (lv_at hl 1 rfl) ?_
  refine lv_aload_n hx hb dX5_worthOf_1 rfl (lv_at hl 0 rfl) ?_
  refine tk_get (ci := 5) (C := RX5) (T := TX5) (N := 11) (sp := (0, (-2147483648), 2147483647, 0)) hx hb htl inX5 hown hK hG ht_a0 (by decide) tk_no rfl 3 (by decide) (htl _ mw_1286) (fun _ h9 => h9) rfl dX5_worthOf_2 (fun v9 hf1 hV9 => ?_)
  obtain ⟨v2, rfl, ha_v2, hb_v2⟩ := hV9
  refine lv_icmp_ge (tgt := 25) hx hb dX5_worthOf_5 (by decide) (fun c9 => ?_) (fun c9 => ?_)
  · have hc3 : v2.toInt ≤ 1 := (fi_le rfl (by decide)).mp c9
    refine lv_iconst (v := 0) hx hb dX5_worthOf_25 (by decide) ?_
    have hk_0 : (0 : Int32).toInt = 0 := by decide
    exact tk_iret (v := 0) hx hb hr rfl hlocks (show (-1000000000) ≤ (0 : Int32).toInt ∧ (0 : Int32).toInt ≤ 1000000000 from ⟨(by omega), (by omega)⟩) hG hS dX5_worthOf_26
  · have hc3 : ¬ (v2.toInt ≤ 1) := fun h9 => c9 ((fi_le rfl (by decide)).mpr h9)
    refine lv_iload_n hx hb dX5_worthOf_8 rfl (lv_at hl 1 rfl) ?_
    refine lv_iconst (v := 4) hx hb dX5_worthOf_9 (by decide) ?_
    refine lv_icmp_ge (tgt := 25) hx hb dX5_worthOf_10 (by decide) (fun c9 => absurd c9 (by decide)) (fun _ => ?_)
    refine lv_aload_n hx hb dX5_worthOf_13 rfl (lv_at hl 0 rfl) ?_
    refine tk_get (ci := 5) (C := RX5) (T := TX5) (N := 11) (sp := (6, 26, 5, 0)) hx hb htl inX5 hown hK hG ht_a0 (by decide) tk_no rfl 2 (by decide) (htl _ mw_149) (fun _ h9 => h9) rfl dX5_worthOf_14 (fun v9 hf4 hV9 => ?_)
    obtain ⟨b5, rfl, ht_b5⟩ := hV9
    have ht_b5 : t b5 = (26, 5, 0) := ht_b5
    refine lv_iload_n hx hb dX5_worthOf_17 rfl (lv_at hl 1 rfl) ?_
    refine tk_aald hx hb hK hG 3 rfl rfl ht_b5 (by decide) (fun _ h => h) tk_no (I := 1) (by decide) (by decide) (by decide) dX5_worthOf_18 (fun o6 ht_o6 => ?_)
    obtain ⟨rfl, ht_ld31⟩ := ht_o6
    have ht_ld31 : t (ld 31) = (10, 0, 11) := ht_ld31
    refine fx_top (v := .ref (ld 31)) rfl ?_
    obtain ⟨v9, hf7, hV9⟩ := tk_peek (ci := 9) (C := RX9) (T := TX9) (N := 11) (sp := (0, (-1), 7, 0)) hG ht_ld31 (by decide) tk_no rfl 5 (by decide) rfl
    obtain ⟨v8, rfl, ha_v8, hb_v8⟩ := hV9
    refine tk_Vi (As := []) (rest := []) (ci := 9) ⟨hx, hb, hml, hown, hts⟩ hK hG hZ hS (k_X9_isDuel l D cy ld t 11 (ld 31) v8 ht_ld31 (by omega) (by omega)) hf7 ⟨callB_of 0 hts (wl_in mw_840) rfl rfl rfl (htl _ mw_76) (htl _ mw_1299) hd_yX9_isDuel ⟨(Nat.le_of_ble_eq_true rfl), (Nat.le_of_ble_eq_true rfl)⟩, htl _ mw_838, htl _ mw_839⟩ ht_ld31 (by decide) tk_no rfl (tk_w.pick [] rfl) rfl hl.1 rfl (Nat.le_of_ble_eq_true rfl) dX5_worthOf_19 ⟨(Nat.le_of_ble_eq_true rfl), (Nat.le_of_ble_eq_true rfl)⟩ (fun v9 H locs hpo hG hS hq9 => ?_)
    have hf7 := hf7.call hq9 tk_w.nil
    obtain ⟨hpo11, hpo12, hpo13, hpo14, hpo15⟩ := hpo
    refine lv_if_ne (tgt := 27) hx hb dX5_worthOf_22 (by decide) (fun c9 => ?_) (fun c9 => ?_)
    · have hc16 : ¬ (v9.toInt = 0) := fun h9 => c9 ((fi_eq rfl (by decide)).mpr h9)
      refine lv_aload_n hx hb dX5_worthOf_27 rfl (lv_at hl 0 rfl) ?_
      refine tk_get (ci := 5) (C := RX5) (T := TX5) (N := 11) (sp := (6, 26, 5, 0)) hx hb htl inX5 hown hK hG ht_a0 (by decide) tk_no rfl 2 (by decide) (htl _ mw_149) (fun _ h9 => h9) rfl dX5_worthOf_28 (fun v9 hf17 hV9 => ?_)
      obtain ⟨b18, rfl, ht_b18⟩ := hV9
      have ht_b18 : t b18 = (26, 5, 0) := ht_b18
      refine lv_iload_n hx hb dX5_worthOf_31 rfl (lv_at hl 1 rfl) ?_
      refine tk_aald hx hb hK hG 3 rfl rfl ht_b18 (by decide) (fun _ h => h) tk_no (I := 1) (by decide) (by decide) (by decide) dX5_worthOf_32 (fun o19 ht_o19 => ?_)
      obtain ⟨rfl, ht_ld31⟩ := ht_o19
      have ht_ld31 : t (ld 31) = (10, 0, 11) := ht_ld31
      refine fx_top (v := .ref (ld 31)) rfl ?_
      refine lv_astore (lv' := [(4, .ref (ld 31)), (0, .ref a0), (1, .int 1), (2, .int p2), (3, .int p3)]) hx hb dX5_worthOf_33 hl (by decide) rfl (fun ls hl => ?_)
      refine lv_aload_n hx hb dX5_worthOf_35 rfl (lv_at hl 1 rfl) ?_
      refine tk_get (ci := 5) (C := RX5) (T := TX5) (N := 11) (sp := (6, 26, 5, 0)) hx hb htl inX5 hown hK hG ht_a0 (by decide) tk_no rfl 2 (by decide) (htl _ mw_149) (fun _ h9 => h9) rfl dX5_worthOf_36 (fun v9 hf20 hV9 => ?_)
      obtain ⟨b21, rfl, ht_b21⟩ := hV9
      have ht_b21 : t b21 = (26, 5, 0) := ht_b21
      refine lv_iload_n hx hb dX5_worthOf_39 rfl (lv_at hl 2 rfl) ?_
      refine lv_iconst (v := 1) hx hb dX5_worthOf_40 (by decide) ?_
      refine lv_iadd hx hb dX5_worthOf_41 ?_
      refine fx_ti (v := 2) (by decide) ?_
      refine tk_aald hx hb hK hG 3 rfl rfl ht_b21 (by decide) (fun _ h => h) tk_no (I := 2) (by decide) (by decide) (by decide) dX5_worthOf_42 (fun o22 ht_o22 => ?_)
      obtain ⟨rfl, ht_ld32⟩ := ht_o22
      have ht_ld32 : t (ld 32) = (10, 0, 12) := ht_ld32
      refine fx_top (v := .ref (ld 32)) rfl ?_
      refine lv_astore (lv' := [(5, .ref (ld 32)), (4, .ref (ld 31)), (0, .ref a0), (1, .int 1), (2, .int p2), (3, .int p3)]) hx hb dX5_worthOf_43 hl (by decide) rfl (fun ls hl => ?_)
      refine lv_iconst (v := (-1)) hx hb dX5_worthOf_45 (by decide) ?_
      refine lv_istore (lv' := [(6, .int (-1)), (5, .ref (ld 32)), (4, .ref (ld 31)), (0, .ref a0), (1, .int 1), (2, .int p2), (3, .int p3)]) hx hb dX5_worthOf_46 hl (by decide) rfl (fun ls hl => ?_)
      refine lv_iconst (v := 0) hx hb dX5_worthOf_48 (by decide) ?_
      refine lv_istore (lv' := [(7, .int 0), (6, .int (-1)), (5, .ref (ld 32)), (4, .ref (ld 31)), (0, .ref a0), (1, .int 1), (2, .int p2), (3, .int p3)]) hx hb dX5_worthOf_49 hl (by decide) rfl (fun ls hl => ?_)
      refine lv_iconst (v := 0) hx hb dX5_worthOf_51 (by decide) ?_
      refine lv_istore (lv' := [(8, .int 0), (7, .int 0), (6, .int (-1)), (5, .ref (ld 32)), (4, .ref (ld 31)), (0, .ref a0), (1, .int 1), (2, .int p2), (3, .int p3)]) hx hb dX5_worthOf_52 hl (by decide) rfl (fun ls hl => ?_)
      have hl1927 : ∀ (N : Nat) (v23 : Int32) (v24 : Int32) (v25 : Int32) (H : Heap) (locs : List Loc), v23.toInt ≤ 10 → (-1) ≤ v25.toInt → 0 ≤ v23.toInt + (-1) * v25.toInt + (-1) → v24.toInt ≤ 1000000000 → (-1000000000) ≤ v24.toInt → (-1) * v23.toInt + 10 < (N : Int) → tk_G D cy ld t [] H → va_S (tk_w t [(20, 0, 0), (12, 0, 0), (9, 0, 0), (20, 12, 12), (10, 12, 12), (20, 13, 13), (10, 13, 13), (20, 14, 14), (10, 14, 14)]) s.heap H locs → tk_f D H (ld 31) 9 5 (.int v8) → ∀ ls : Array Slot, lv_has ls 11 [(8, .int v23), (7, .int v24), (6, .int v25), (5, .ref (ld 32)), (4, .ref (ld 31)), (0, .ref a0), (1, .int 1), (2, .int p2), (3, .int p3)] → W p l e ({ frames := 9, cells := 0, slots := 0, locals := 560 }) s m args below meth c H locs 0 0 (MQ below (ti D cy ld t [] (fun r H => (-1000000000) ≤ r.toInt ∧ r.toInt ≤ 1000000000) (tk_w t [(20, 0, 0), (12, 0, 0), (9, 0, 0), (20, 12, 12), (10, 12, 12), (20, 13, 13), (10, 13, 13), (20, 14, 14), (10, 14, 14)])) args s 0 0 (tk_w t [(20, 0, 0), (12, 0, 0), (9, 0, 0), (20, 12, 12), (10, 12, 12), (20, 13, 13), (10, 13, 13), (20, 14, 14), (10, 14, 14)])) (F0 m 54 ls []) := by
        intro N
        induction N with
        | zero => intro v23 v24 v25 H locs hq0_l1927 hq1_l1927 hq2_l1927 hq3_l1927 hq4_l1927 hm_l1927 hG hS hf7 ls hl; exfalso; omega
        | succ N ih =>
          intro v23 v24 v25 H locs hq0_l1927 hq1_l1927 hq2_l1927 hq3_l1927 hq4_l1927 hm_l1927 hG hS hf7 ls hl
          refine lv_iload hx hb dX5_worthOf_54 (lv_at hl 0 rfl) ?_
          refine lv_aload_n hx hb dX5_worthOf_56 rfl (lv_at hl 5 rfl) ?_
          refine tk_get (ci := 5) (C := RX5) (T := TX5) (N := 11) (sp := (8, 20, 3, 0)) hx hb htl inX5 hown hK hG ht_a0 (by decide) tk_no rfl 0 (by decide) (htl _ mw_155) (fun _ h9 => h9) rfl dX5_worthOf_57 (fun v9 hf1928 hV9 => ?_)
          obtain ⟨rfl, ht_ld20⟩ := hV9
          have ht_ld20 : t (ld 20) = (3, 0, 0) := ht_ld20
          refine fx_top (v := .ref (ld 20)) rfl ?_
          refine tk_get (ci := 2) (C := RX2) (T := TX2) (N := 20) (sp := (0, 0, 10, 0)) hx hb htl inX2 hown hK hG ht_ld20 (by decide) tk_no rfl 4 (by decide) (htl _ mw_1297) (fun _ h9 => h9) rfl dX5_worthOf_60 (fun v9 hf1929 hV9 => ?_)
          obtain ⟨v1930, rfl, ha_v1930, hb_v1930⟩ := hV9
          have hj2076 : ∀ (_ : Unit), ∀ ls : Array Slot, lv_has ls 11 [(7, .int v24), (6, .int v25), (0, .ref a0), (1, .int 1)] → W p l e ({ frames := 9, cells := 0, slots := 0, locals := 560 }) s m args below meth c H locs 0 0 (MQ below (ti D cy ld t [] (fun r H => (-1000000000) ≤ r.toInt ∧ r.toInt ≤ 1000000000) (tk_w t [(20, 0, 0), (12, 0, 0), (9, 0, 0), (20, 12, 12), (10, 12, 12), (20, 13, 13), (10, 13, 13), (20, 14, 14), (10, 14, 14)])) args s 0 0 (tk_w t [(20, 0, 0), (12, 0, 0), (9, 0, 0), (20, 12, 12), (10, 12, 12), (20, 13, 13), (10, 13, 13), (20, 14, 14), (10, 14, 14)])) (F0 m 183 ls []) := by
            intro _  ls hl
            refine lv_iload_n hx hb dX5_worthOf_183 rfl (lv_at hl 3 rfl) ?_
            refine lv_if_ne (tgt := 193) hx hb dX5_worthOf_184 (by decide) (fun _ => ?_) (fun c9 => absurd c9 (by decide))
            refine lv_iload hx hb dX5_worthOf_193 (lv_at hl 0 rfl) ?_
            exact tk_iret (v := v24) hx hb hr rfl hlocks (show (-1000000000) ≤ v24.toInt ∧ v24.toInt ≤ 1000000000 from ⟨(by omega), (by omega)⟩) hG hS dX5_worthOf_195
          refine lv_icmp_ge (tgt := 183) hx hb dX5_worthOf_63 (by decide) (fun c9 => ?_) (fun c9 => ?_)
          · have hc1931 : v1930.toInt ≤ v23.toInt := (fi_le rfl rfl).mp c9
            exact hj2076 () _ (lv_sub hl [1, 2, 5, 6] rfl)
          · have hc1931 : ¬ (v1930.toInt ≤ v23.toInt) := fun h9 => c9 ((fi_le rfl rfl).mpr h9)
            refine lv_iload hx hb dX5_worthOf_66 (lv_at hl 2 rfl) ?_
            refine lv_iconst (v := (-1)) hx hb dX5_worthOf_68 (by decide) ?_
            refine lv_icmp_eq (tgt := 78) hx hb dX5_worthOf_69 (by decide) (fun c9 => ?_) (fun c9 => ?_)
            · have hc2077 : v25.toInt = (-1) := (fi_eq rfl (by decide)).mp c9
              refine lv_aload_n hx hb dX5_worthOf_78 rfl (lv_at hl 5 rfl) ?_
              refine tk_get (ci := 5) (C := RX5) (T := TX5) (N := 11) (sp := (6, 9, 0, 0)) hx hb htl inX5 hown hK hG ht_a0 (by decide) tk_no rfl 1 (by decide) (htl _ mw_156) (fun _ h9 => h9) rfl dX5_worthOf_79 (fun v9 hf2078 hV9 => ?_)
              obtain ⟨b2079, rfl, ht_b2079⟩ := hV9
              have ht_b2079 : t b2079 = (9, 0, 0) := ht_b2079
              refine lv_aload hx hb dX5_worthOf_82 (lv_at hl 4 rfl) ?_
              refine lv_iload hx hb dX5_worthOf_84 (lv_at hl 0 rfl) ?_
              refine tk_Vi (As := [.ref (ld 31), .int v23]) (rest := []) (ci := 8) ⟨hx, hb, hml, hown, hts⟩ hK hG hZ hS (k_X8_isBarred l D cy ld t 11 b2079 (ld 31) v23 v8 ht_b2079 ht_ld31 (by omega) (by omega) (by omega) (by omega)) hf7 ⟨callB_of 2 hts (wl_in mw_901) rfl rfl rfl (htl _ mw_21) (htl _ mw_1300) hd_yX8_isBarred ⟨(Nat.le_of_ble_eq_true rfl), (Nat.le_of_ble_eq_true rfl)⟩, htl _ mw_899, htl _ mw_900⟩ ht_b2079 (by decide) tk_no rfl (tk_w.pick [0, 1, 2] rfl) rfl hl.1 rfl (Nat.le_of_ble_eq_true rfl) dX5_worthOf_86 ⟨(Nat.le_of_ble_eq_true rfl), (Nat.le_of_ble_eq_true rfl)⟩ (fun v2080 H locs hpo hG hS hq9 => ?_)
              have hf7 := hf7.call hq9 (tk_w.no ht_ld31 (by decide))
              have hf1929 := hf1929.call hq9 (tk_w.no ht_ld20 (by decide))
              obtain ⟨hpo2082, hpo2083, hpo2084, hpo2085⟩ := hpo
              have hj2119 : ∀ (v2116 : Int32) (v2117 : Int32) (H : Heap) (locs : List Loc), (-1000000000) ≤ v2116.toInt → v2116.toInt ≤ 1000000000 → 0 ≤ (-1) * v2117.toInt + v23.toInt → 0 ≤ v2117.toInt + (-1) * v25.toInt → tk_G D cy ld t [] H → va_S (tk_w t [(20, 0, 0), (12, 0, 0), (9, 0, 0), (20, 12, 12), (10, 12, 12), (20, 13, 13), (10, 13, 13), (20, 14, 14), (10, 14, 14)]) s.heap H locs → tk_f D H (ld 31) 9 5 (.int v8) → tk_f D H (ld 20) 2 4 (.int v1930) → ∀ ls : Array Slot, lv_has ls 11 [(7, .int v2116), (6, .int v2117), (8, .int v23), (5, .ref (ld 32)), (4, .ref (ld 31)), (0, .ref a0), (1, .int 1), (2, .int p2), (3, .int p3)] → W p l e ({ frames := 9, cells := 0, slots := 0, locals := 560 }) s m args below meth c H locs 0 0 (MQ below (ti D cy ld t [] (fun r H => (-1000000000) ≤ r.toInt ∧ r.toInt ≤ 1000000000) (tk_w t [(20, 0, 0), (12, 0, 0), (9, 0, 0), (20, 12, 12), (10, 12, 12), (20, 13, 13), (10, 13, 13), (20, 14, 14), (10, 14, 14)])) args s 0 0 (tk_w t [(20, 0, 0), (12, 0, 0), (9, 0, 0), (20, 12, 12), (10, 12, 12), (20, 13, 13), (10, 13, 13), (20, 14, 14), (10, 14, 14)])) (F0 m 177 ls []) := by
                intro v2116 v2117 H locs hq0_j2119 hq1_j2119 hq2_j2119 hq3_j2119 hG hS hf7 hf1929 ls hl
                obtain ⟨v2120, h_v2120, e_v2120⟩ := tk_inc v23 1 (by decide) (by omega) (by omega)
                refine lv_iinc (v := v2120) (lv' := [(8, .int v2120), (7, .int v2116), (6, .int v2117), (5, .ref (ld 32)), (4, .ref (ld 31)), (0, .ref a0), (1, .int 1), (2, .int p2), (3, .int p3)]) hx hb dX5_worthOf_177 hl (k := 2) rfl e_v2120 (by decide) rfl (fun ls hl => ?_)
                refine lv_goto (tgt := 54) hx hb dX5_worthOf_180 (by decide) ?_
                exact ih v2120 v2116 v2117 _ _ (by omega) (by omega) (by omega) (by omega) (by omega) (by omega) hG hS hf7 _ (lv_sub hl [0, 1, 2, 3, 4, 5, 6, 7, 8] rfl)
              refine lv_if_eq (tgt := 95) hx hb dX5_worthOf_89 (by decide) (fun c9 => ?_) (fun c9 => ?_)
              · have hc2086 : v2080.toInt = 0 := (fi_eq rfl (by decide)).mp c9
                refine lv_aload hx hb dX5_worthOf_95 (lv_at hl 3 rfl) ?_
                refine lv_aload hx hb dX5_worthOf_97 (lv_at hl 4 rfl) ?_
                refine tk_Vv (As := [.ref (ld 31)]) (rest := []) (ci := 9) ⟨hx, hb, hml, hown, hts⟩ hK hG hZ hS (k_X9_copyFrom l D cy ld t 12 11 (ld 32) (ld 31) v8 ht_ld32 ht_ld31 (by omega) (by omega) (by omega)) hf7 ⟨callB_of 1 hts (wl_in mw_821) rfl rfl rfl (htl _ mw_76) (htl _ mw_1292) hd_yX9_copyFrom ⟨(Nat.le_of_ble_eq_true rfl), (Nat.le_of_ble_eq_true rfl)⟩, htl _ mw_819, htl _ mw_820⟩ ht_ld32 (by decide) tk_no rfl (tk_w.pick [3, 4] rfl) rfl hl.1 rfl (Nat.le_of_ble_eq_true rfl) dX5_worthOf_99 ⟨(Nat.le_of_ble_eq_true rfl), (Nat.le_of_ble_eq_true rfl)⟩ (fun H locs hpo hG hS hq9 => ?_)
                have hf7 := hf7.call hq9 (tk_w.no ht_ld31 (by decide))
                have hf1929 := hf1929.call hq9 (tk_w.no ht_ld20 (by decide))
                have hf2122 := hpo
                refine lv_iload hx hb dX5_worthOf_102 (lv_at hl 2 rfl) ?_
                refine lv_iconst (v := (-1)) hx hb dX5_worthOf_104 (by decide) ?_
                refine lv_icmp_ne (tgt := 112) hx hb dX5_worthOf_105 (by decide) (fun c9 => absurd ((fi_eq rfl (by decide)).mpr (show v25.toInt = (-1) by omega)) c9) (fun _ => ?_)
                refine lv_iload_n hx hb dX5_worthOf_108 rfl (lv_at hl 7 rfl) ?_
                refine lv_goto (tgt := 118) hx hb dX5_worthOf_109 (by decide) ?_
                refine lv_istore (lv' := [(9, .int p2), (8, .int v23), (7, .int v24), (6, .int v25), (5, .ref (ld 32)), (4, .ref (ld 31)), (0, .ref a0), (1, .int 1), (2, .int p2), (3, .int p3)]) hx hb dX5_worthOf_118 hl (by decide) rfl (fun ls hl => ?_)
                refine lv_aload_n hx hb dX5_worthOf_120 rfl (lv_at hl 6 rfl) ?_
                refine tk_get (ci := 5) (C := RX5) (T := TX5) (N := 11) (sp := (6, 9, 0, 0)) hx hb htl inX5 hown hK hG ht_a0 (by decide) tk_no rfl 1 (by decide) (htl _ mw_156) (fun _ h9 => h9) rfl dX5_worthOf_121 (fun v9 hf2123 hV9 => ?_)
                obtain ⟨b2124, rfl, ht_b2124⟩ := hV9
                have ht_b2124 : t b2124 = (9, 0, 0) := ht_b2124
                refine lv_aload hx hb dX5_worthOf_124 (lv_at hl 4 rfl) ?_
                refine lv_iload hx hb dX5_worthOf_126 (lv_at hl 1 rfl) ?_
                refine tk_Vi (As := [.ref (ld 32), .int v23]) (rest := []) (ci := 8) ⟨hx, hb, hml, hown, hts⟩ hK hG hZ hS (k_X8_singOn l D cy ld t 12 b2124 (ld 32) v23 v8 ht_b2124 ht_ld32 (by omega) (by omega) (by omega) (by omega)) hf2122 ⟨callB_of 2 hts (wl_in mw_946) rfl rfl rfl (htl _ mw_21) (htl _ mw_1301) hd_yX8_singOn ⟨(Nat.le_of_ble_eq_true rfl), (Nat.le_of_ble_eq_true rfl)⟩, htl _ mw_944, htl _ mw_945⟩ ht_b2124 (by decide) tk_no rfl (tk_w.pick [0, 1, 2, 3, 4] rfl) rfl hl.1 rfl (Nat.le_of_ble_eq_true rfl) dX5_worthOf_128 ⟨(Nat.le_of_ble_eq_true rfl), (Nat.le_of_ble_eq_true rfl)⟩ (fun v2125 H locs hpo hG hS hq9 => ?_)
                have hf7 := hf7.call hq9 (tk_w.no ht_ld31 (by decide))
                have hf1929 := hf1929.call hq9 (tk_w.no ht_ld20 (by decide))
                have hj2139 : ∀ (v2137 : Int32) (H : Heap) (locs : List Loc), (-100) ≤ v2137.toInt → v2137.toInt ≤ 1000000000 → tk_G D cy ld t [] H → va_S (tk_w t [(20, 0, 0), (12, 0, 0), (9, 0, 0), (20, 12, 12), (10, 12, 12), (20, 13, 13), (10, 13, 13), (20, 14, 14), (10, 14, 14)]) s.heap H locs → tk_f D H (ld 31) 9 5 (.int v8) → tk_f D H (ld 20) 2 4 (.int v1930) → ∀ ls : Array Slot, lv_has ls 11 [(8, .int v23), (7, .int v24), (6, .int v25), (5, .ref (ld 32)), (4, .ref (ld 31)), (0, .ref a0), (1, .int 1), (2, .int p2), (3, .int p3)] → W p l e ({ frames := 9, cells := 0, slots := 0, locals := 560 }) s m args below meth c H locs 0 0 (MQ below (ti D cy ld t [] (fun r H => (-1000000000) ≤ r.toInt ∧ r.toInt ≤ 1000000000) (tk_w t [(20, 0, 0), (12, 0, 0), (9, 0, 0), (20, 12, 12), (10, 12, 12), (20, 13, 13), (10, 13, 13), (20, 14, 14), (10, 14, 14)])) args s 0 0 (tk_w t [(20, 0, 0), (12, 0, 0), (9, 0, 0), (20, 12, 12), (10, 12, 12), (20, 13, 13), (10, 13, 13), (20, 14, 14), (10, 14, 14)])) (F0 m 154 ls [.int v2137]) := by
                  intro v2137 H locs hq0_j2139 hq1_j2139 hG hS hf7 hf1929 ls hl
                  refine lv_istore (lv' := [(10, .int v2137), (8, .int v23), (7, .int v24), (6, .int v25), (5, .ref (ld 32)), (4, .ref (ld 31)), (0, .ref a0), (1, .int 1), (2, .int p2), (3, .int p3)]) hx hb dX5_worthOf_154 hl (by decide) rfl (fun ls hl => ?_)
                  refine lv_iload hx hb dX5_worthOf_156 (lv_at hl 3 rfl) ?_
                  refine lv_iconst (v := (-1)) hx hb dX5_worthOf_158 (by decide) ?_
                  refine lv_icmp_eq (tgt := 169) hx hb dX5_worthOf_159 (by decide) (fun _ => ?_) (fun c9 => absurd ((fi_eq rfl (by decide)).mpr (show v25.toInt = (-1) by omega)) c9)
                  refine lv_iload hx hb dX5_worthOf_169 (lv_at hl 1 rfl) ?_
                  refine lv_istore (lv' := [(6, .int v23), (10, .int v2137), (8, .int v23), (7, .int v24), (5, .ref (ld 32)), (4, .ref (ld 31)), (0, .ref a0), (1, .int 1), (2, .int p2), (3, .int p3)]) hx hb dX5_worthOf_171 hl (by decide) rfl (fun ls hl => ?_)
                  refine lv_iload hx hb dX5_worthOf_173 (lv_at hl 1 rfl) ?_
                  refine lv_istore (lv' := [(7, .int v2137), (6, .int v23), (10, .int v2137), (8, .int v23), (5, .ref (ld 32)), (4, .ref (ld 31)), (0, .ref a0), (1, .int 1), (2, .int p2), (3, .int p3)]) hx hb dX5_worthOf_175 hl (by decide) rfl (fun ls hl => ?_)
                  exact hj2119 v2137 v23 _ _ (by omega) (by omega) (by omega) (by omega) hG hS hf7 hf1929 _ (lv_sub hl [0, 1, 3, 4, 5, 6, 7, 8, 9] rfl)
                refine lv_if_ne (tgt := 141) hx hb dX5_worthOf_131 (by decide) (fun c9 => ?_) (fun c9 => ?_)
                · have hc2127 : ¬ (v2125.toInt = 0) := fun h9 => c9 ((fi_eq rfl (by decide)).mpr h9)
                  refine lv_aload_n hx hb dX5_worthOf_141 rfl (lv_at hl 6 rfl) ?_
                  refine lv_iload_n hx hb dX5_worthOf_142 rfl (lv_at hl 7 rfl) ?_
                  refine lv_iconst (v := 1) hx hb dX5_worthOf_143 (by decide) ?_
                  refine lv_iadd hx hb dX5_worthOf_144 ?_
                  refine fx_ti (v := 2) (by decide) ?_
                  refine lv_iload_n hx hb dX5_worthOf_145 rfl (lv_at hl 9 rfl) ?_
                  refine lv_ineg hx hb dX5_worthOf_146 ?_
                  refine tk_any (fun v2140 => ?_)
                  refine lv_iload hx hb dX5_worthOf_147 (lv_at hl 0 rfl) ?_
                  refine lv_ineg hx hb dX5_worthOf_149 ?_
                  refine tk_any (fun v2141 => ?_)
                  have hk_2 : (2 : Int32).toInt = 2 := by decide
                  refine tk_Vi (As := [.int 2, .int v2140, .int v2141]) (rest := []) (ci := 5) ⟨hx, hb, hml, hown, hts⟩ hK hG hZ hS (k_X5_worthOf_2 l D cy ld t a0 v2140 v2141 ht_a0) trivial ⟨callB_of 3 hts (wl_in mw_1296) rfl rfl rfl (htl _ mw_40) (htl _ mw_1293) hd_yX5_worthOf ⟨(Nat.le_of_ble_eq_true rfl), (Nat.le_of_ble_eq_true rfl)⟩, htl _ mw_1294, htl _ mw_1295⟩ ht_a0 (by decide) tk_no rfl (tk_w.pick [0, 1, 2, 5, 6, 7, 8] rfl) rfl hl.1 rfl (Nat.le_of_ble_eq_true rfl) dX5_worthOf_150 ⟨(Nat.le_of_ble_eq_true rfl), (Nat.le_of_ble_eq_true rfl)⟩ (fun v2142 H locs hpo hG hS hq9 => ?_)
                  have hf7 := hf7.call hq9 (tk_w.no ht_ld31 (by decide))
                  have hf1929 := hf1929.call hq9 (tk_w.no ht_ld20 (by decide))
                  obtain ⟨hpo2144, hpo2145⟩ := hpo
                  refine lv_ineg hx hb dX5_worthOf_153 ?_
                  refine tk_neg rfl (by omega) (by omega) (fun v2146 h_v2146 => ?_)
                  exact hj2139 v2146 _ _ (by omega) (by omega) hG hS hf7 hf1929 _ (lv_sub hl [1, 2, 3, 4, 5, 6, 7, 8, 9] rfl)
                · have hc2127 : v2125.toInt = 0 := (fi_eq rfl (by decide)).mp c9
                  refine lv_bipush (v := 100) hx hb dX5_worthOf_134 (by decide) ?_
                  refine lv_iload_n hx hb dX5_worthOf_136 rfl (lv_at hl 7 rfl) ?_
                  refine lv_isub hx hb dX5_worthOf_137 ?_
                  refine fx_ti (v := 99) (by decide) ?_
                  refine lv_goto (tgt := 154) hx hb dX5_worthOf_138 (by decide) ?_
                  have hk_99 : (99 : Int32).toInt = 99 := by decide
                  exact hj2139 99 _ _ (by omega) (by omega) hG hS hf7 hf1929 _ (lv_sub hl [1, 2, 3, 4, 5, 6, 7, 8, 9] rfl)
              · have hc2086 : ¬ (v2080.toInt = 0) := fun h9 => c9 ((fi_eq rfl (by decide)).mpr h9)
                refine lv_goto (tgt := 177) hx hb dX5_worthOf_92 (by decide) ?_
                exact hj2119 v24 v25 _ _ (by omega) (by omega) (by omega) (by omega) hG hS hf7 hf1929 _ (lv_sub hl [1, 2, 0, 3, 4, 5, 6, 7, 8] rfl)
            · have hc2077 : ¬ (v25.toInt = (-1)) := fun h9 => c9 ((fi_eq rfl (by decide)).mpr h9)
              refine lv_iload hx hb dX5_worthOf_72 (lv_at hl 1 rfl) ?_
              refine lv_iload_n hx hb dX5_worthOf_74 rfl (lv_at hl 8 rfl) ?_
              refine lv_icmp_ge (tgt := 183) hx hb dX5_worthOf_75 (by decide) (fun c9 => ?_) (fun c9 => ?_)
              · have hc2147 : p3.toInt ≤ v24.toInt := (fi_le rfl rfl).mp c9
                exact hj2076 () _ (lv_sub hl [1, 2, 5, 6] rfl)
              · have hc2147 : ¬ (p3.toInt ≤ v24.toInt) := fun h9 => c9 ((fi_le rfl rfl).mpr h9)
                refine lv_aload_n hx hb dX5_worthOf_78 rfl (lv_at hl 5 rfl) ?_
                refine tk_get (ci := 5) (C := RX5) (T := TX5) (N := 11) (sp := (6, 9, 0, 0)) hx hb htl inX5 hown hK hG ht_a0 (by decide) tk_no rfl 1 (by decide) (htl _ mw_156) (fun _ h9 => h9) rfl dX5_worthOf_79 (fun v9 hf2148 hV9 => ?_)
                obtain ⟨b2149, rfl, ht_b2149⟩ := hV9
                have ht_b2149 : t b2149 = (9, 0, 0) := ht_b2149
                refine lv_aload hx hb dX5_worthOf_82 (lv_at hl 4 rfl) ?_
                refine lv_iload hx hb dX5_worthOf_84 (lv_at hl 0 rfl) ?_
                refine tk_Vi (As := [.ref (ld 31), .int v23]) (rest := []) (ci := 8) ⟨hx, hb, hml, hown, hts⟩ hK hG hZ hS (k_X8_isBarred l D cy ld t 11 b2149 (ld 31) v23 v8 ht_b2149 ht_ld31 (by omega) (by omega) (by omega) (by omega)) hf7 ⟨callB_of 2 hts (wl_in mw_901) rfl rfl rfl (htl _ mw_21) (htl _ mw_1300) hd_yX8_isBarred ⟨(Nat.le_of_ble_eq_true rfl), (Nat.le_of_ble_eq_true rfl)⟩, htl _ mw_899, htl _ mw_900⟩ ht_b2149 (by decide) tk_no rfl (tk_w.pick [0, 1, 2] rfl) rfl hl.1 rfl (Nat.le_of_ble_eq_true rfl) dX5_worthOf_86 ⟨(Nat.le_of_ble_eq_true rfl), (Nat.le_of_ble_eq_true rfl)⟩ (fun v2150 H locs hpo hG hS hq9 => ?_)
                have hf7 := hf7.call hq9 (tk_w.no ht_ld31 (by decide))
                have hf1929 := hf1929.call hq9 (tk_w.no ht_ld20 (by decide))
                obtain ⟨hpo2152, hpo2153, hpo2154, hpo2155⟩ := hpo
                have hj2191 : ∀ (v2188 : Int32) (v2189 : Int32) (H : Heap) (locs : List Loc), v2188.toInt ≤ 1000000000 → 0 ≤ v2188.toInt + (-1) * v24.toInt → 0 ≤ (-1) * v2189.toInt + v23.toInt → 0 ≤ v2189.toInt + (-1) * v25.toInt → tk_G D cy ld t [] H → va_S (tk_w t [(20, 0, 0), (12, 0, 0), (9, 0, 0), (20, 12, 12), (10, 12, 12), (20, 13, 13), (10, 13, 13), (20, 14, 14), (10, 14, 14)]) s.heap H locs → tk_f D H (ld 31) 9 5 (.int v8) → tk_f D H (ld 20) 2 4 (.int v1930) → ∀ ls : Array Slot, lv_has ls 11 [(8, .int v23), (7, .int v2188), (6, .int v2189), (5, .ref (ld 32)), (4, .ref (ld 31)), (0, .ref a0), (1, .int 1), (2, .int p2), (3, .int p3)] → W p l e ({ frames := 9, cells := 0, slots := 0, locals := 560 }) s m args below meth c H locs 0 0 (MQ below (ti D cy ld t [] (fun r H => (-1000000000) ≤ r.toInt ∧ r.toInt ≤ 1000000000) (tk_w t [(20, 0, 0), (12, 0, 0), (9, 0, 0), (20, 12, 12), (10, 12, 12), (20, 13, 13), (10, 13, 13), (20, 14, 14), (10, 14, 14)])) args s 0 0 (tk_w t [(20, 0, 0), (12, 0, 0), (9, 0, 0), (20, 12, 12), (10, 12, 12), (20, 13, 13), (10, 13, 13), (20, 14, 14), (10, 14, 14)])) (F0 m 177 ls []) := by
                  intro v2188 v2189 H locs hq0_j2191 hq1_j2191 hq2_j2191 hq3_j2191 hG hS hf7 hf1929 ls hl
                  obtain ⟨v2192, h_v2192, e_v2192⟩ := tk_inc v23 1 (by decide) (by omega) (by omega)
                  refine lv_iinc (v := v2192) (lv' := [(8, .int v2192), (7, .int v2188), (6, .int v2189), (5, .ref (ld 32)), (4, .ref (ld 31)), (0, .ref a0), (1, .int 1), (2, .int p2), (3, .int p3)]) hx hb dX5_worthOf_177 hl (k := 0) rfl e_v2192 (by decide) rfl (fun ls hl => ?_)
                  refine lv_goto (tgt := 54) hx hb dX5_worthOf_180 (by decide) ?_
                  exact ih v2192 v2188 v2189 _ _ (by omega) (by omega) (by omega) (by omega) (by omega) (by omega) hG hS hf7 _ (lv_sub hl [0, 1, 2, 3, 4, 5, 6, 7, 8] rfl)
                refine lv_if_eq (tgt := 95) hx hb dX5_worthOf_89 (by decide) (fun c9 => ?_) (fun c9 => ?_)
                · have hc2156 : v2150.toInt = 0 := (fi_eq rfl (by decide)).mp c9
                  refine lv_aload hx hb dX5_worthOf_95 (lv_at hl 3 rfl) ?_
                  refine lv_aload hx hb dX5_worthOf_97 (lv_at hl 4 rfl) ?_
                  refine tk_Vv (As := [.ref (ld 31)]) (rest := []) (ci := 9) ⟨hx, hb, hml, hown, hts⟩ hK hG hZ hS (k_X9_copyFrom l D cy ld t 12 11 (ld 32) (ld 31) v8 ht_ld32 ht_ld31 (by omega) (by omega) (by omega)) hf7 ⟨callB_of 1 hts (wl_in mw_821) rfl rfl rfl (htl _ mw_76) (htl _ mw_1292) hd_yX9_copyFrom ⟨(Nat.le_of_ble_eq_true rfl), (Nat.le_of_ble_eq_true rfl)⟩, htl _ mw_819, htl _ mw_820⟩ ht_ld32 (by decide) tk_no rfl (tk_w.pick [3, 4] rfl) rfl hl.1 rfl (Nat.le_of_ble_eq_true rfl) dX5_worthOf_99 ⟨(Nat.le_of_ble_eq_true rfl), (Nat.le_of_ble_eq_true rfl)⟩ (fun H locs hpo hG hS hq9 => ?_)
                  have hf7 := hf7.call hq9 (tk_w.no ht_ld31 (by decide))
                  have hf1929 := hf1929.call hq9 (tk_w.no ht_ld20 (by decide))
                  have hf2194 := hpo
                  refine lv_iload hx hb dX5_worthOf_102 (lv_at hl 2 rfl) ?_
                  refine lv_iconst (v := (-1)) hx hb dX5_worthOf_104 (by decide) ?_
                  refine lv_icmp_ne (tgt := 112) hx hb dX5_worthOf_105 (by decide) (fun _ => ?_) (fun c9 => absurd (show v25.toInt = (-1) from (fi_eq rfl (by decide)).mp c9) (by omega))
                  refine lv_iload_n hx hb dX5_worthOf_112 rfl (lv_at hl 7 rfl) ?_
                  refine lv_iload hx hb dX5_worthOf_113 (lv_at hl 1 rfl) ?_
                  refine va_mmax hx hb (by rw [hml]; exact hl.1.symm) hown (htl _ mw_1298) (htl _ mw_948) (htl _ mw_474) (htl _ mw_949) (Nat.le_of_ble_eq_true rfl) (Nat.le_of_ble_eq_true rfl) (Nat.le_of_ble_eq_true rfl) (Nat.le_of_ble_eq_true rfl) dX5_worthOf_115 ?_
                  refine tk_say (P := fun z => p2.toInt ≤ z.toInt ∧ v24.toInt ≤ z.toInt ∧ (z.toInt = p2.toInt ∨ z.toInt = v24.toInt)) (tk_max rfl rfl) (fun v2195 h_v2195 => ?_)
                  refine lv_istore (lv' := [(9, .int v2195), (8, .int v23), (7, .int v24), (6, .int v25), (5, .ref (ld 32)), (4, .ref (ld 31)), (0, .ref a0), (1, .int 1), (2, .int p2), (3, .int p3)]) hx hb dX5_worthOf_118 hl (by decide) rfl (fun ls hl => ?_)
                  refine lv_aload_n hx hb dX5_worthOf_120 rfl (lv_at hl 6 rfl) ?_
                  refine tk_get (ci := 5) (C := RX5) (T := TX5) (N := 11) (sp := (6, 9, 0, 0)) hx hb htl inX5 hown hK hG ht_a0 (by decide) tk_no rfl 1 (by decide) (htl _ mw_156) (fun _ h9 => h9) rfl dX5_worthOf_121 (fun v9 hf2196 hV9 => ?_)
                  obtain ⟨b2197, rfl, ht_b2197⟩ := hV9
                  have ht_b2197 : t b2197 = (9, 0, 0) := ht_b2197
                  refine lv_aload hx hb dX5_worthOf_124 (lv_at hl 4 rfl) ?_
                  refine lv_iload hx hb dX5_worthOf_126 (lv_at hl 1 rfl) ?_
                  refine tk_Vi (As := [.ref (ld 32), .int v23]) (rest := []) (ci := 8) ⟨hx, hb, hml, hown, hts⟩ hK hG hZ hS (k_X8_singOn l D cy ld t 12 b2197 (ld 32) v23 v8 ht_b2197 ht_ld32 (by omega) (by omega) (by omega) (by omega)) hf2194 ⟨callB_of 2 hts (wl_in mw_946) rfl rfl rfl (htl _ mw_21) (htl _ mw_1301) hd_yX8_singOn ⟨(Nat.le_of_ble_eq_true rfl), (Nat.le_of_ble_eq_true rfl)⟩, htl _ mw_944, htl _ mw_945⟩ ht_b2197 (by decide) tk_no rfl (tk_w.pick [0, 1, 2, 3, 4] rfl) rfl hl.1 rfl (Nat.le_of_ble_eq_true rfl) dX5_worthOf_128 ⟨(Nat.le_of_ble_eq_true rfl), (Nat.le_of_ble_eq_true rfl)⟩ (fun v2198 H locs hpo hG hS hq9 => ?_)
                  have hf7 := hf7.call hq9 (tk_w.no ht_ld31 (by decide))
                  have hf1929 := hf1929.call hq9 (tk_w.no ht_ld20 (by decide))
                  have hj2212 : ∀ (v2210 : Int32) (H : Heap) (locs : List Loc), (-100) ≤ v2210.toInt → v2210.toInt ≤ 1000000000 → tk_G D cy ld t [] H → va_S (tk_w t [(20, 0, 0), (12, 0, 0), (9, 0, 0), (20, 12, 12), (10, 12, 12), (20, 13, 13), (10, 13, 13), (20, 14, 14), (10, 14, 14)]) s.heap H locs → tk_f D H (ld 31) 9 5 (.int v8) → tk_f D H (ld 20) 2 4 (.int v1930) → ∀ ls : Array Slot, lv_has ls 11 [(8, .int v23), (7, .int v24), (6, .int v25), (5, .ref (ld 32)), (4, .ref (ld 31)), (0, .ref a0), (1, .int 1), (2, .int p2), (3, .int p3)] → W p l e ({ frames := 9, cells := 0, slots := 0, locals := 560 }) s m args below meth c H locs 0 0 (MQ below (ti D cy ld t [] (fun r H => (-1000000000) ≤ r.toInt ∧ r.toInt ≤ 1000000000) (tk_w t [(20, 0, 0), (12, 0, 0), (9, 0, 0), (20, 12, 12), (10, 12, 12), (20, 13, 13), (10, 13, 13), (20, 14, 14), (10, 14, 14)])) args s 0 0 (tk_w t [(20, 0, 0), (12, 0, 0), (9, 0, 0), (20, 12, 12), (10, 12, 12), (20, 13, 13), (10, 13, 13), (20, 14, 14), (10, 14, 14)])) (F0 m 154 ls [.int v2210]) := by
                    intro v2210 H locs hq0_j2212 hq1_j2212 hG hS hf7 hf1929 ls hl
                    refine lv_istore (lv' := [(10, .int v2210), (8, .int v23), (7, .int v24), (6, .int v25), (5, .ref (ld 32)), (4, .ref (ld 31)), (0, .ref a0), (1, .int 1), (2, .int p2), (3, .int p3)]) hx hb dX5_worthOf_154 hl (by decide) rfl (fun ls hl => ?_)
                    refine lv_iload hx hb dX5_worthOf_156 (lv_at hl 3 rfl) ?_
                    refine lv_iconst (v := (-1)) hx hb dX5_worthOf_158 (by decide) ?_
                    refine lv_icmp_eq (tgt := 169) hx hb dX5_worthOf_159 (by decide) (fun c9 => absurd (show v25.toInt = (-1) from (fi_eq rfl (by decide)).mp c9) (by omega)) (fun _ => ?_)
                    refine lv_iload hx hb dX5_worthOf_162 (lv_at hl 0 rfl) ?_
                    refine lv_iload hx hb dX5_worthOf_164 (lv_at hl 2 rfl) ?_
                    refine lv_icmp_le (tgt := 177) hx hb dX5_worthOf_166 (by decide) (fun c9 => ?_) (fun c9 => ?_)
                    · have hc2213 : v2210.toInt ≤ v24.toInt := (fi_le rfl rfl).mp c9
                      exact hj2191 v24 v25 _ _ (by omega) (by omega) (by omega) (by omega) hG hS hf7 hf1929 _ (lv_sub hl [1, 2, 3, 4, 5, 6, 7, 8, 9] rfl)
                    · have hc2213 : ¬ (v2210.toInt ≤ v24.toInt) := fun h9 => c9 ((fi_le rfl rfl).mpr h9)
                      refine lv_iload hx hb dX5_worthOf_169 (lv_at hl 1 rfl) ?_
                      refine lv_istore (lv' := [(6, .int v23), (10, .int v2210), (8, .int v23), (7, .int v24), (5, .ref (ld 32)), (4, .ref (ld 31)), (0, .ref a0), (1, .int 1), (2, .int p2), (3, .int p3)]) hx hb dX5_worthOf_171 hl (by decide) rfl (fun ls hl => ?_)
                      refine lv_iload hx hb dX5_worthOf_173 (lv_at hl 1 rfl) ?_
                      refine lv_istore (lv' := [(7, .int v2210), (6, .int v23), (10, .int v2210), (8, .int v23), (5, .ref (ld 32)), (4, .ref (ld 31)), (0, .ref a0), (1, .int 1), (2, .int p2), (3, .int p3)]) hx hb dX5_worthOf_175 hl (by decide) rfl (fun ls hl => ?_)
                      exact hj2191 v2210 v23 _ _ (by omega) (by omega) (by omega) (by omega) hG hS hf7 hf1929 _ (lv_sub hl [3, 0, 1, 4, 5, 6, 7, 8, 9] rfl)
                  refine lv_if_ne (tgt := 141) hx hb dX5_worthOf_131 (by decide) (fun c9 => ?_) (fun c9 => ?_)
                  · have hc2200 : ¬ (v2198.toInt = 0) := fun h9 => c9 ((fi_eq rfl (by decide)).mpr h9)
                    refine lv_aload_n hx hb dX5_worthOf_141 rfl (lv_at hl 6 rfl) ?_
                    refine lv_iload_n hx hb dX5_worthOf_142 rfl (lv_at hl 7 rfl) ?_
                    refine lv_iconst (v := 1) hx hb dX5_worthOf_143 (by decide) ?_
                    refine lv_iadd hx hb dX5_worthOf_144 ?_
                    refine fx_ti (v := 2) (by decide) ?_
                    refine lv_iload_n hx hb dX5_worthOf_145 rfl (lv_at hl 9 rfl) ?_
                    refine lv_ineg hx hb dX5_worthOf_146 ?_
                    refine tk_neg rfl (by omega) (by omega) (fun v2214 h_v2214 => ?_)
                    refine lv_iload hx hb dX5_worthOf_147 (lv_at hl 0 rfl) ?_
                    refine lv_ineg hx hb dX5_worthOf_149 ?_
                    refine tk_neg rfl (by omega) (by omega) (fun v2215 h_v2215 => ?_)
                    have hk_2 : (2 : Int32).toInt = 2 := by decide
                    refine tk_Vi (As := [.int 2, .int v2214, .int v2215]) (rest := []) (ci := 5) ⟨hx, hb, hml, hown, hts⟩ hK hG hZ hS (k_X5_worthOf_2 l D cy ld t a0 v2214 v2215 ht_a0) trivial ⟨callB_of 3 hts (wl_in mw_1296) rfl rfl rfl (htl _ mw_40) (htl _ mw_1293) hd_yX5_worthOf ⟨(Nat.le_of_ble_eq_true rfl), (Nat.le_of_ble_eq_true rfl)⟩, htl _ mw_1294, htl _ mw_1295⟩ ht_a0 (by decide) tk_no rfl (tk_w.pick [0, 1, 2, 5, 6, 7, 8] rfl) rfl hl.1 rfl (Nat.le_of_ble_eq_true rfl) dX5_worthOf_150 ⟨(Nat.le_of_ble_eq_true rfl), (Nat.le_of_ble_eq_true rfl)⟩ (fun v2216 H locs hpo hG hS hq9 => ?_)
                    have hf7 := hf7.call hq9 (tk_w.no ht_ld31 (by decide))
                    have hf1929 := hf1929.call hq9 (tk_w.no ht_ld20 (by decide))
                    obtain ⟨hpo2218, hpo2219⟩ := hpo
                    refine lv_ineg hx hb dX5_worthOf_153 ?_
                    refine tk_neg rfl (by omega) (by omega) (fun v2220 h_v2220 => ?_)
                    exact hj2212 v2220 _ _ (by omega) (by omega) hG hS hf7 hf1929 _ (lv_sub hl [1, 2, 3, 4, 5, 6, 7, 8, 9] rfl)
                  · have hc2200 : v2198.toInt = 0 := (fi_eq rfl (by decide)).mp c9
                    refine lv_bipush (v := 100) hx hb dX5_worthOf_134 (by decide) ?_
                    refine lv_iload_n hx hb dX5_worthOf_136 rfl (lv_at hl 7 rfl) ?_
                    refine lv_isub hx hb dX5_worthOf_137 ?_
                    refine fx_ti (v := 99) (by decide) ?_
                    refine lv_goto (tgt := 154) hx hb dX5_worthOf_138 (by decide) ?_
                    have hk_99 : (99 : Int32).toInt = 99 := by decide
                    exact hj2212 99 _ _ (by omega) (by omega) hG hS hf7 hf1929 _ (lv_sub hl [1, 2, 3, 4, 5, 6, 7, 8, 9] rfl)
                · have hc2156 : ¬ (v2150.toInt = 0) := fun h9 => c9 ((fi_eq rfl (by decide)).mpr h9)
                  refine lv_goto (tgt := 177) hx hb dX5_worthOf_92 (by decide) ?_
                  exact hj2191 v24 v25 _ _ (by omega) (by omega) (by omega) (by omega) hG hS hf7 hf1929 _ (lv_sub hl [0, 1, 2, 3, 4, 5, 6, 7, 8] rfl)
      have hk_0 : (0 : Int32).toInt = 0 := by decide
      have hk_0 : (0 : Int32).toInt = 0 := by decide
      have hk_m1 : ((-1) : Int32).toInt = (-1) := by decide
      exact hl1927 11 0 0 (-1) _ _ (by omega) (by omega) (by omega) (by omega) (by omega) (by omega) hG hS hf7 _ (lv_sub hl [0, 1, 2, 3, 4, 5, 6, 7, 8] rfl)
    · have hc16 : v9.toInt = 0 := (fi_eq rfl (by decide)).mp c9
      refine lv_iconst (v := 0) hx hb dX5_worthOf_25 (by decide) ?_
      have hk_0 : (0 : Int32).toInt = 0 := by decide
      exact tk_iret (v := 0) hx hb hr rfl hlocks (show (-1000000000) ≤ (0 : Int32).toInt ∧ (0 : Int32).toInt ≤ 1000000000 from ⟨(by omega), (by omega)⟩) hG hS dX5_worthOf_26
theorem dX5_worthOf_187 : decode cX5_worthOf 187 = .ok (.aload_n 0, 1) := by decide +kernel
theorem dX5_worthOf_188 : decode cX5_worthOf 188 = .ok (.iload 6, 2) := by decide +kernel
theorem dX5_worthOf_190 : decode cX5_worthOf 190 = .ok (.putfield 46, 3) := by decide +kernel
set_option maxHeartbeats 4000000 in
set_option maxRecDepth 100000 in
theorem k_X5_worthOf_0 (l : Launch) (D : va_G) (cy : Nat → ClassId) (ld : Nat → Nat) (t : tk_T) (a0 : Nat) (p2 : Int32) (p3 : Int32) (ht_a0 : t a0 = (6, 0, 0)) : Met l yX5_worthOf (wl yX5_worthOf cX5_worthOf 11 (some .int)) ({ frames := 10, cells := 0, slots := 0, locals := 630 }) (tp D cy ld t [] [.ref a0, .int 0, .int p2, .int p3] (fun H => True)) (ti D cy ld t [] (fun r H => (-1000000000) ≤ r.toInt ∧ r.toInt ≤ 1000000000) (tk_w t [(20, 0, 0), (12, 0, 0), (9, 0, 0), (20, 11, 11), (10, 11, 11), (20, 12, 12), (10, 12, 12), (20, 13, 13), (10, 13, 13), (20, 14, 14), (10, 14, 14), (6, 0, 0)])) 0 0 (tk_w t [(20, 0, 0), (12, 0, 0), (9, 0, 0), (20, 11, 11), (10, 11, 11), (20, 12, 12), (10, 12, 12), (20, 13, 13), (10, 13, 13), (20, 14, 14), (10, 14, 14), (6, 0, 0)]) := by
  refine tk_met (y := yX5_worthOf) (cc := cX5_worthOf) (maxL := 11) (ret := (some .int)) (av := [.ref a0, .int 0, .int p2, .int p3]) _ _ (by decide) (Nat.le_of_ble_eq_true rfl) ?_
  intro p e s m args below meth c hx hb hr hml hts htl hown hlocks hK H locs hH hG hS hB hZ ls hl
  have hown : s.vm.findClass RX5 = some m.cls := hown
  have hl : lv_has ls 11 [(0, .ref a0), (1, .int 0), (2, .int p2), (3, .int p3)] := hl
  have hr_p2 := tk_rng p2
  have hr_p3 := tk_rng p3
  refine lv_iload_n hx hb dX5_worthOf_0 rfl (lv_at hl 1 rfl) ?_
  refine lv_aload_n hx hb dX5_worthOf_1 rfl (lv_at hl 0 rfl) ?_
  refine tk_get (ci := 5) (C := RX5) (T := TX5) (N := 11) (sp := (0, (-2147483648), 2147483647, 0)) hx hb htl inX5 hown hK hG ht_a0 (by decide) tk_no rfl 3 (by decide) (htl _ mw_1286) (fun _ h9 => h9) rfl dX5_worthOf_2 (fun v9 hf1 hV9 => ?_)
  obtain ⟨v2, rfl, ha_v2, hb_v2⟩ := hV9
  refine lv_icmp_ge (tgt := 25) hx hb dX5_worthOf_5 (by decide) (fun c9 => ?_) (fun c9 => ?_)
  · have hc3 : v2.toInt ≤ 0 := (fi_le rfl (by decide)).mp c9
    refine lv_iconst (v := 0) hx hb dX5_worthOf_25 (by decide) ?_
    have hk_0 : (0 : Int32).toInt = 0 := by decide
    exact tk_iret (v := 0) hx hb hr rfl hlocks (show (-1000000000) ≤ (0 : Int32).toInt ∧ (0 : Int32).toInt ≤ 1000000000 from ⟨(by omega), (by omega)⟩) hG hS dX5_worthOf_26
  · have hc3 : ¬ (v2.toInt ≤ 0) := fun h9 => c9 ((fi_le rfl (by decide)).mpr h9)
    refine lv_iload_n hx hb dX5_worthOf_8 rfl (lv_at hl 1 rfl) ?_
    refine lv_iconst (v := 4) hx hb dX5_worthOf_9 (by decide) ?_
    refine lv_icmp_ge (tgt := 25) hx hb dX5_worthOf_10 (by decide) (fun c9 => absurd c9 (by decide)) (fun _ => ?_)
    refine lv_aload_n hx hb dX5_worthOf_13 rfl (lv_at hl 0 rfl) ?_
    refine tk_get (ci := 5) (C := RX5) (T := TX5) (N := 11) (sp := (6, 26, 5, 0)) hx hb htl inX5 hown hK hG ht_a0 (by decide) tk_no rfl 2 (by decide) (htl _ mw_149) (fun _ h9 => h9) rfl dX5_worthOf_14 (fun v9 hf4 hV9 => ?_)
    obtain ⟨b5, rfl, ht_b5⟩ := hV9
    have ht_b5 : t b5 = (26, 5, 0) := ht_b5
    refine lv_iload_n hx hb dX5_worthOf_17 rfl (lv_at hl 1 rfl) ?_
    refine tk_aald hx hb hK hG 3 rfl rfl ht_b5 (by decide) (fun _ h => h) tk_no (I := 0) (by decide) (by decide) (by decide) dX5_worthOf_18 (fun o6 ht_o6 => ?_)
    obtain ⟨rfl, ht_ld30⟩ := ht_o6
    have ht_ld30 : t (ld 30) = (10, 0, 10) := ht_ld30
    refine fx_top (v := .ref (ld 30)) rfl ?_
    obtain ⟨v9, hf7, hV9⟩ := tk_peek (ci := 9) (C := RX9) (T := TX9) (N := 11) (sp := (0, (-1), 7, 0)) hG ht_ld30 (by decide) tk_no rfl 5 (by decide) rfl
    obtain ⟨v8, rfl, ha_v8, hb_v8⟩ := hV9
    refine tk_Vi (As := []) (rest := []) (ci := 9) ⟨hx, hb, hml, hown, hts⟩ hK hG hZ hS (k_X9_isDuel l D cy ld t 10 (ld 30) v8 ht_ld30 (by omega) (by omega)) hf7 ⟨callB_of 0 hts (wl_in mw_840) rfl rfl rfl (htl _ mw_76) (htl _ mw_1299) hd_yX9_isDuel ⟨(Nat.le_of_ble_eq_true rfl), (Nat.le_of_ble_eq_true rfl)⟩, htl _ mw_838, htl _ mw_839⟩ ht_ld30 (by decide) tk_no rfl (tk_w.pick [] rfl) rfl hl.1 rfl (Nat.le_of_ble_eq_true rfl) dX5_worthOf_19 ⟨(Nat.le_of_ble_eq_true rfl), (Nat.le_of_ble_eq_true rfl)⟩ (fun v9 H locs hpo hG hS hq9 => ?_)
    have hf7 := hf7.call hq9 tk_w.nil
    obtain ⟨hpo11, hpo12, hpo13, hpo14, hpo15⟩ := hpo
    refine lv_if_ne (tgt := 27) hx hb dX5_worthOf_22 (by decide) (fun c9 => ?_) (fun c9 => ?_)
    · have hc16 : ¬ (v9.toInt = 0) := fun h9 => c9 ((fi_eq rfl (by decide)).mpr h9)
      refine lv_aload_n hx hb dX5_worthOf_27 rfl (lv_at hl 0 rfl) ?_
      refine tk_get (ci := 5) (C := RX5) (T := TX5) (N := 11) (sp := (6, 26, 5, 0)) hx hb htl inX5 hown hK hG ht_a0 (by decide) tk_no rfl 2 (by decide) (htl _ mw_149) (fun _ h9 => h9) rfl dX5_worthOf_28 (fun v9 hf17 hV9 => ?_)
      obtain ⟨b18, rfl, ht_b18⟩ := hV9
      have ht_b18 : t b18 = (26, 5, 0) := ht_b18
      refine lv_iload_n hx hb dX5_worthOf_31 rfl (lv_at hl 1 rfl) ?_
      refine tk_aald hx hb hK hG 3 rfl rfl ht_b18 (by decide) (fun _ h => h) tk_no (I := 0) (by decide) (by decide) (by decide) dX5_worthOf_32 (fun o19 ht_o19 => ?_)
      obtain ⟨rfl, ht_ld30⟩ := ht_o19
      have ht_ld30 : t (ld 30) = (10, 0, 10) := ht_ld30
      refine fx_top (v := .ref (ld 30)) rfl ?_
      refine lv_astore (lv' := [(4, .ref (ld 30)), (0, .ref a0), (1, .int 0), (2, .int p2), (3, .int p3)]) hx hb dX5_worthOf_33 hl (by decide) rfl (fun ls hl => ?_)
      refine lv_aload_n hx hb dX5_worthOf_35 rfl (lv_at hl 1 rfl) ?_
      refine tk_get (ci := 5) (C := RX5) (T := TX5) (N := 11) (sp := (6, 26, 5, 0)) hx hb htl inX5 hown hK hG ht_a0 (by decide) tk_no rfl 2 (by decide) (htl _ mw_149) (fun _ h9 => h9) rfl dX5_worthOf_36 (fun v9 hf20 hV9 => ?_)
      obtain ⟨b21, rfl, ht_b21⟩ := hV9
      have ht_b21 : t b21 = (26, 5, 0) := ht_b21
      refine lv_iload_n hx hb dX5_worthOf_39 rfl (lv_at hl 2 rfl) ?_
      refine lv_iconst (v := 1) hx hb dX5_worthOf_40 (by decide) ?_
      refine lv_iadd hx hb dX5_worthOf_41 ?_
      refine fx_ti (v := 1) (by decide) ?_
      refine tk_aald hx hb hK hG 3 rfl rfl ht_b21 (by decide) (fun _ h => h) tk_no (I := 1) (by decide) (by decide) (by decide) dX5_worthOf_42 (fun o22 ht_o22 => ?_)
      obtain ⟨rfl, ht_ld31⟩ := ht_o22
      have ht_ld31 : t (ld 31) = (10, 0, 11) := ht_ld31
      refine fx_top (v := .ref (ld 31)) rfl ?_
      refine lv_astore (lv' := [(5, .ref (ld 31)), (4, .ref (ld 30)), (0, .ref a0), (1, .int 0), (2, .int p2), (3, .int p3)]) hx hb dX5_worthOf_43 hl (by decide) rfl (fun ls hl => ?_)
      refine lv_iconst (v := (-1)) hx hb dX5_worthOf_45 (by decide) ?_
      refine lv_istore (lv' := [(6, .int (-1)), (5, .ref (ld 31)), (4, .ref (ld 30)), (0, .ref a0), (1, .int 0), (2, .int p2), (3, .int p3)]) hx hb dX5_worthOf_46 hl (by decide) rfl (fun ls hl => ?_)
      refine lv_iconst (v := 0) hx hb dX5_worthOf_48 (by decide) ?_
      refine lv_istore (lv' := [(7, .int 0), (6, .int (-1)), (5, .ref (ld 31)), (4, .ref (ld 30)), (0, .ref a0), (1, .int 0), (2, .int p2), (3, .int p3)]) hx hb dX5_worthOf_49 hl (by decide) rfl (fun ls hl => ?_)
      refine lv_iconst (v := 0) hx hb dX5_worthOf_51 (by decide) ?_
      refine lv_istore (lv' := [(8, .int 0), (7, .int 0), (6, .int (-1)), (5, .ref (ld 31)), (4, .ref (ld 30)), (0, .ref a0), (1, .int 0), (2, .int p2), (3, .int p3)]) hx hb dX5_worthOf_52 hl (by decide) rfl (fun ls hl => ?_)
      have hl1941 : ∀ (N : Nat) (v23 : Int32) (v24 : Int32) (v25 : Int32) (H : Heap) (locs : List Loc), v23.toInt ≤ 10 → (-1) ≤ v25.toInt → 0 ≤ v23.toInt + (-1) * v25.toInt + (-1) → v24.toInt ≤ 1000000000 → (-1000000000) ≤ v24.toInt → (-1) * v23.toInt + 10 < (N : Int) → tk_G D cy ld t [] H → va_S (tk_w t [(20, 0, 0), (12, 0, 0), (9, 0, 0), (20, 11, 11), (10, 11, 11), (20, 12, 12), (10, 12, 12), (20, 13, 13), (10, 13, 13), (20, 14, 14), (10, 14, 14), (6, 0, 0)]) s.heap H locs → tk_f D H (ld 30) 9 5 (.int v8) → ∀ ls : Array Slot, lv_has ls 11 [(8, .int v23), (7, .int v24), (6, .int v25), (5, .ref (ld 31)), (4, .ref (ld 30)), (0, .ref a0), (1, .int 0), (2, .int p2), (3, .int p3)] → W p l e ({ frames := 10, cells := 0, slots := 0, locals := 630 }) s m args below meth c H locs 0 0 (MQ below (ti D cy ld t [] (fun r H => (-1000000000) ≤ r.toInt ∧ r.toInt ≤ 1000000000) (tk_w t [(20, 0, 0), (12, 0, 0), (9, 0, 0), (20, 11, 11), (10, 11, 11), (20, 12, 12), (10, 12, 12), (20, 13, 13), (10, 13, 13), (20, 14, 14), (10, 14, 14), (6, 0, 0)])) args s 0 0 (tk_w t [(20, 0, 0), (12, 0, 0), (9, 0, 0), (20, 11, 11), (10, 11, 11), (20, 12, 12), (10, 12, 12), (20, 13, 13), (10, 13, 13), (20, 14, 14), (10, 14, 14), (6, 0, 0)])) (F0 m 54 ls []) := by
        intro N
        induction N with
        | zero => intro v23 v24 v25 H locs hq0_l1941 hq1_l1941 hq2_l1941 hq3_l1941 hq4_l1941 hm_l1941 hG hS hf7 ls hl; exfalso; omega
        | succ N ih =>
          intro v23 v24 v25 H locs hq0_l1941 hq1_l1941 hq2_l1941 hq3_l1941 hq4_l1941 hm_l1941 hG hS hf7 ls hl
          refine lv_iload hx hb dX5_worthOf_54 (lv_at hl 0 rfl) ?_
          refine lv_aload_n hx hb dX5_worthOf_56 rfl (lv_at hl 5 rfl) ?_
          refine tk_get (ci := 5) (C := RX5) (T := TX5) (N := 11) (sp := (8, 20, 3, 0)) hx hb htl inX5 hown hK hG ht_a0 (by decide) tk_no rfl 0 (by decide) (htl _ mw_155) (fun _ h9 => h9) rfl dX5_worthOf_57 (fun v9 hf1942 hV9 => ?_)
          obtain ⟨rfl, ht_ld20⟩ := hV9
          have ht_ld20 : t (ld 20) = (3, 0, 0) := ht_ld20
          refine fx_top (v := .ref (ld 20)) rfl ?_
          refine tk_get (ci := 2) (C := RX2) (T := TX2) (N := 20) (sp := (0, 0, 10, 0)) hx hb htl inX2 hown hK hG ht_ld20 (by decide) tk_no rfl 4 (by decide) (htl _ mw_1297) (fun _ h9 => h9) rfl dX5_worthOf_60 (fun v9 hf1943 hV9 => ?_)
          obtain ⟨v1944, rfl, ha_v1944, hb_v1944⟩ := hV9
          have hj2090 : ∀ (_ : Unit), ∀ ls : Array Slot, lv_has ls 11 [(7, .int v24), (6, .int v25), (0, .ref a0), (1, .int 0)] → W p l e ({ frames := 10, cells := 0, slots := 0, locals := 630 }) s m args below meth c H locs 0 0 (MQ below (ti D cy ld t [] (fun r H => (-1000000000) ≤ r.toInt ∧ r.toInt ≤ 1000000000) (tk_w t [(20, 0, 0), (12, 0, 0), (9, 0, 0), (20, 11, 11), (10, 11, 11), (20, 12, 12), (10, 12, 12), (20, 13, 13), (10, 13, 13), (20, 14, 14), (10, 14, 14), (6, 0, 0)])) args s 0 0 (tk_w t [(20, 0, 0), (12, 0, 0), (9, 0, 0), (20, 11, 11), (10, 11, 11), (20, 12, 12), (10, 12, 12), (20, 13, 13), (10, 13, 13), (20, 14, 14), (10, 14, 14), (6, 0, 0)])) (F0 m 183 ls []) := by
            intro _  ls hl
            refine lv_iload_n hx hb dX5_worthOf_183 rfl (lv_at hl 3 rfl) ?_
            refine lv_if_ne (tgt := 193) hx hb dX5_worthOf_184 (by decide) (fun c9 => absurd (by decide) c9) (fun _ => ?_)
            refine lv_aload_n hx hb dX5_worthOf_187 rfl (lv_at hl 2 rfl) ?_
            refine lv_iload hx hb dX5_worthOf_188 (lv_at hl 1 rfl) ?_
            refine tk_put (ci := 5) (v := .int v25) (ty := .int) (C := RX5) (T := TX5) (N := 11) (sp := (0, (-2147483648), 2147483647, 0)) hx hb htl inX5 tyX5 tyX5_ok nmX5 hown hK hG hS ht_a0 (by decide) tk_no rfl 4 (by decide) (htl _ mw_1287) (fun _ h9 => h9) rfl (tyX5_ok 4 (by decide)) rfl rfl rfl (tk_Vi (tk_rng _).1 (tk_rng _).2) (fun _ h => h) (tk_w.of ht_a0 (by decide) (List.mem_of_getElem? (i := 11) rfl) (Nat.le_refl _) (Nat.le_refl _)) dX5_worthOf_190 (fun H locs hG hS hf2091 hq9 hj9 => ?_)
            have hf7 := hf7.kept (hq9 _ (tk_ne ht_ld30 ht_a0 (Or.inl (by decide))))
            have hf1943 := hf1943.kept (hq9 _ (tk_ne ht_ld20 ht_a0 (Or.inl (by decide))))
            refine lv_iload hx hb dX5_worthOf_193 (lv_at hl 0 rfl) ?_
            exact tk_iret (v := v24) hx hb hr rfl hlocks (show (-1000000000) ≤ v24.toInt ∧ v24.toInt ≤ 1000000000 from ⟨(by omega), (by omega)⟩) hG hS dX5_worthOf_195
          refine lv_icmp_ge (tgt := 183) hx hb dX5_worthOf_63 (by decide) (fun c9 => ?_) (fun c9 => ?_)
          · have hc1945 : v1944.toInt ≤ v23.toInt := (fi_le rfl rfl).mp c9
            exact hj2090 () _ (lv_sub hl [1, 2, 5, 6] rfl)
          · have hc1945 : ¬ (v1944.toInt ≤ v23.toInt) := fun h9 => c9 ((fi_le rfl rfl).mpr h9)
            refine lv_iload hx hb dX5_worthOf_66 (lv_at hl 2 rfl) ?_
            refine lv_iconst (v := (-1)) hx hb dX5_worthOf_68 (by decide) ?_
            refine lv_icmp_eq (tgt := 78) hx hb dX5_worthOf_69 (by decide) (fun c9 => ?_) (fun c9 => ?_)
            · have hc2093 : v25.toInt = (-1) := (fi_eq rfl (by decide)).mp c9
              refine lv_aload_n hx hb dX5_worthOf_78 rfl (lv_at hl 5 rfl) ?_
              refine tk_get (ci := 5) (C := RX5) (T := TX5) (N := 11) (sp := (6, 9, 0, 0)) hx hb htl inX5 hown hK hG ht_a0 (by decide) tk_no rfl 1 (by decide) (htl _ mw_156) (fun _ h9 => h9) rfl dX5_worthOf_79 (fun v9 hf2094 hV9 => ?_)
              obtain ⟨b2095, rfl, ht_b2095⟩ := hV9
              have ht_b2095 : t b2095 = (9, 0, 0) := ht_b2095
              refine lv_aload hx hb dX5_worthOf_82 (lv_at hl 4 rfl) ?_
              refine lv_iload hx hb dX5_worthOf_84 (lv_at hl 0 rfl) ?_
              refine tk_Vi (As := [.ref (ld 30), .int v23]) (rest := []) (ci := 8) ⟨hx, hb, hml, hown, hts⟩ hK hG hZ hS (k_X8_isBarred l D cy ld t 10 b2095 (ld 30) v23 v8 ht_b2095 ht_ld30 (by omega) (by omega) (by omega) (by omega)) hf7 ⟨callB_of 2 hts (wl_in mw_901) rfl rfl rfl (htl _ mw_21) (htl _ mw_1300) hd_yX8_isBarred ⟨(Nat.le_of_ble_eq_true rfl), (Nat.le_of_ble_eq_true rfl)⟩, htl _ mw_899, htl _ mw_900⟩ ht_b2095 (by decide) tk_no rfl (tk_w.pick [0, 1, 2] rfl) rfl hl.1 rfl (Nat.le_of_ble_eq_true rfl) dX5_worthOf_86 ⟨(Nat.le_of_ble_eq_true rfl), (Nat.le_of_ble_eq_true rfl)⟩ (fun v2096 H locs hpo hG hS hq9 => ?_)
              have hf7 := hf7.call hq9 (tk_w.no ht_ld30 (by decide))
              have hf1943 := hf1943.call hq9 (tk_w.no ht_ld20 (by decide))
              obtain ⟨hpo2098, hpo2099, hpo2100, hpo2101⟩ := hpo
              have hj2135 : ∀ (v2132 : Int32) (v2133 : Int32) (H : Heap) (locs : List Loc), (-1000000000) ≤ v2132.toInt → v2132.toInt ≤ 1000000000 → 0 ≤ (-1) * v2133.toInt + v23.toInt → 0 ≤ v2133.toInt + (-1) * v25.toInt → tk_G D cy ld t [] H → va_S (tk_w t [(20, 0, 0), (12, 0, 0), (9, 0, 0), (20, 11, 11), (10, 11, 11), (20, 12, 12), (10, 12, 12), (20, 13, 13), (10, 13, 13), (20, 14, 14), (10, 14, 14), (6, 0, 0)]) s.heap H locs → tk_f D H (ld 30) 9 5 (.int v8) → tk_f D H (ld 20) 2 4 (.int v1944) → ∀ ls : Array Slot, lv_has ls 11 [(7, .int v2132), (6, .int v2133), (8, .int v23), (5, .ref (ld 31)), (4, .ref (ld 30)), (0, .ref a0), (1, .int 0), (2, .int p2), (3, .int p3)] → W p l e ({ frames := 10, cells := 0, slots := 0, locals := 630 }) s m args below meth c H locs 0 0 (MQ below (ti D cy ld t [] (fun r H => (-1000000000) ≤ r.toInt ∧ r.toInt ≤ 1000000000) (tk_w t [(20, 0, 0), (12, 0, 0), (9, 0, 0), (20, 11, 11), (10, 11, 11), (20, 12, 12), (10, 12, 12), (20, 13, 13), (10, 13, 13), (20, 14, 14), (10, 14, 14), (6, 0, 0)])) args s 0 0 (tk_w t [(20, 0, 0), (12, 0, 0), (9, 0, 0), (20, 11, 11), (10, 11, 11), (20, 12, 12), (10, 12, 12), (20, 13, 13), (10, 13, 13), (20, 14, 14), (10, 14, 14), (6, 0, 0)])) (F0 m 177 ls []) := by
                intro v2132 v2133 H locs hq0_j2135 hq1_j2135 hq2_j2135 hq3_j2135 hG hS hf7 hf1943 ls hl
                obtain ⟨v2136, h_v2136, e_v2136⟩ := tk_inc v23 1 (by decide) (by omega) (by omega)
                refine lv_iinc (v := v2136) (lv' := [(8, .int v2136), (7, .int v2132), (6, .int v2133), (5, .ref (ld 31)), (4, .ref (ld 30)), (0, .ref a0), (1, .int 0), (2, .int p2), (3, .int p3)]) hx hb dX5_worthOf_177 hl (k := 2) rfl e_v2136 (by decide) rfl (fun ls hl => ?_)
                refine lv_goto (tgt := 54) hx hb dX5_worthOf_180 (by decide) ?_
                exact ih v2136 v2132 v2133 _ _ (by omega) (by omega) (by omega) (by omega) (by omega) (by omega) hG hS hf7 _ (lv_sub hl [0, 1, 2, 3, 4, 5, 6, 7, 8] rfl)
              refine lv_if_eq (tgt := 95) hx hb dX5_worthOf_89 (by decide) (fun c9 => ?_) (fun c9 => ?_)
              · have hc2102 : v2096.toInt = 0 := (fi_eq rfl (by decide)).mp c9
                refine lv_aload hx hb dX5_worthOf_95 (lv_at hl 3 rfl) ?_
                refine lv_aload hx hb dX5_worthOf_97 (lv_at hl 4 rfl) ?_
                refine tk_Vv (As := [.ref (ld 30)]) (rest := []) (ci := 9) ⟨hx, hb, hml, hown, hts⟩ hK hG hZ hS (k_X9_copyFrom l D cy ld t 11 10 (ld 31) (ld 30) v8 ht_ld31 ht_ld30 (by omega) (by omega) (by omega)) hf7 ⟨callB_of 1 hts (wl_in mw_821) rfl rfl rfl (htl _ mw_76) (htl _ mw_1292) hd_yX9_copyFrom ⟨(Nat.le_of_ble_eq_true rfl), (Nat.le_of_ble_eq_true rfl)⟩, htl _ mw_819, htl _ mw_820⟩ ht_ld31 (by decide) tk_no rfl (tk_w.pick [3, 4] rfl) rfl hl.1 rfl (Nat.le_of_ble_eq_true rfl) dX5_worthOf_99 ⟨(Nat.le_of_ble_eq_true rfl), (Nat.le_of_ble_eq_true rfl)⟩ (fun H locs hpo hG hS hq9 => ?_)
                have hf7 := hf7.call hq9 (tk_w.no ht_ld30 (by decide))
                have hf1943 := hf1943.call hq9 (tk_w.no ht_ld20 (by decide))
                have hf2138 := hpo
                refine lv_iload hx hb dX5_worthOf_102 (lv_at hl 2 rfl) ?_
                refine lv_iconst (v := (-1)) hx hb dX5_worthOf_104 (by decide) ?_
                refine lv_icmp_ne (tgt := 112) hx hb dX5_worthOf_105 (by decide) (fun c9 => absurd ((fi_eq rfl (by decide)).mpr (show v25.toInt = (-1) by omega)) c9) (fun _ => ?_)
                refine lv_iload_n hx hb dX5_worthOf_108 rfl (lv_at hl 7 rfl) ?_
                refine lv_goto (tgt := 118) hx hb dX5_worthOf_109 (by decide) ?_
                refine lv_istore (lv' := [(9, .int p2), (8, .int v23), (7, .int v24), (6, .int v25), (5, .ref (ld 31)), (4, .ref (ld 30)), (0, .ref a0), (1, .int 0), (2, .int p2), (3, .int p3)]) hx hb dX5_worthOf_118 hl (by decide) rfl (fun ls hl => ?_)
                refine lv_aload_n hx hb dX5_worthOf_120 rfl (lv_at hl 6 rfl) ?_
                refine tk_get (ci := 5) (C := RX5) (T := TX5) (N := 11) (sp := (6, 9, 0, 0)) hx hb htl inX5 hown hK hG ht_a0 (by decide) tk_no rfl 1 (by decide) (htl _ mw_156) (fun _ h9 => h9) rfl dX5_worthOf_121 (fun v9 hf2139 hV9 => ?_)
                obtain ⟨b2140, rfl, ht_b2140⟩ := hV9
                have ht_b2140 : t b2140 = (9, 0, 0) := ht_b2140
                refine lv_aload hx hb dX5_worthOf_124 (lv_at hl 4 rfl) ?_
                refine lv_iload hx hb dX5_worthOf_126 (lv_at hl 1 rfl) ?_
                refine tk_Vi (As := [.ref (ld 31), .int v23]) (rest := []) (ci := 8) ⟨hx, hb, hml, hown, hts⟩ hK hG hZ hS (k_X8_singOn l D cy ld t 11 b2140 (ld 31) v23 v8 ht_b2140 ht_ld31 (by omega) (by omega) (by omega) (by omega)) hf2138 ⟨callB_of 2 hts (wl_in mw_946) rfl rfl rfl (htl _ mw_21) (htl _ mw_1301) hd_yX8_singOn ⟨(Nat.le_of_ble_eq_true rfl), (Nat.le_of_ble_eq_true rfl)⟩, htl _ mw_944, htl _ mw_945⟩ ht_b2140 (by decide) tk_no rfl (tk_w.pick [0, 1, 2, 3, 4] rfl) rfl hl.1 rfl (Nat.le_of_ble_eq_true rfl) dX5_worthOf_128 ⟨(Nat.le_of_ble_eq_true rfl), (Nat.le_of_ble_eq_true rfl)⟩ (fun v2141 H locs hpo hG hS hq9 => ?_)
                have hf7 := hf7.call hq9 (tk_w.no ht_ld30 (by decide))
                have hf1943 := hf1943.call hq9 (tk_w.no ht_ld20 (by decide))
                have hj2155 : ∀ (v2153 : Int32) (H : Heap) (locs : List Loc), (-1000000000) ≤ v2153.toInt → v2153.toInt ≤ 1000000000 → tk_G D cy ld t [] H → va_S (tk_w t [(20, 0, 0), (12, 0, 0), (9, 0, 0), (20, 11, 11), (10, 11, 11), (20, 12, 12), (10, 12, 12), (20, 13, 13), (10, 13, 13), (20, 14, 14), (10, 14, 14), (6, 0, 0)]) s.heap H locs → tk_f D H (ld 30) 9 5 (.int v8) → tk_f D H (ld 20) 2 4 (.int v1944) → ∀ ls : Array Slot, lv_has ls 11 [(8, .int v23), (7, .int v24), (6, .int v25), (5, .ref (ld 31)), (4, .ref (ld 30)), (0, .ref a0), (1, .int 0), (2, .int p2), (3, .int p3)] → W p l e ({ frames := 10, cells := 0, slots := 0, locals := 630 }) s m args below meth c H locs 0 0 (MQ below (ti D cy ld t [] (fun r H => (-1000000000) ≤ r.toInt ∧ r.toInt ≤ 1000000000) (tk_w t [(20, 0, 0), (12, 0, 0), (9, 0, 0), (20, 11, 11), (10, 11, 11), (20, 12, 12), (10, 12, 12), (20, 13, 13), (10, 13, 13), (20, 14, 14), (10, 14, 14), (6, 0, 0)])) args s 0 0 (tk_w t [(20, 0, 0), (12, 0, 0), (9, 0, 0), (20, 11, 11), (10, 11, 11), (20, 12, 12), (10, 12, 12), (20, 13, 13), (10, 13, 13), (20, 14, 14), (10, 14, 14), (6, 0, 0)])) (F0 m 154 ls [.int v2153]) := by
                  intro v2153 H locs hq0_j2155 hq1_j2155 hG hS hf7 hf1943 ls hl
                  refine lv_istore (lv' := [(10, .int v2153), (8, .int v23), (7, .int v24), (6, .int v25), (5, .ref (ld 31)), (4, .ref (ld 30)), (0, .ref a0), (1, .int 0), (2, .int p2), (3, .int p3)]) hx hb dX5_worthOf_154 hl (by decide) rfl (fun ls hl => ?_)
                  refine lv_iload hx hb dX5_worthOf_156 (lv_at hl 3 rfl) ?_
                  refine lv_iconst (v := (-1)) hx hb dX5_worthOf_158 (by decide) ?_
                  refine lv_icmp_eq (tgt := 169) hx hb dX5_worthOf_159 (by decide) (fun _ => ?_) (fun c9 => absurd ((fi_eq rfl (by decide)).mpr (show v25.toInt = (-1) by omega)) c9)
                  refine lv_iload hx hb dX5_worthOf_169 (lv_at hl 1 rfl) ?_
                  refine lv_istore (lv' := [(6, .int v23), (10, .int v2153), (8, .int v23), (7, .int v24), (5, .ref (ld 31)), (4, .ref (ld 30)), (0, .ref a0), (1, .int 0), (2, .int p2), (3, .int p3)]) hx hb dX5_worthOf_171 hl (by decide) rfl (fun ls hl => ?_)
                  refine lv_iload hx hb dX5_worthOf_173 (lv_at hl 1 rfl) ?_
                  refine lv_istore (lv' := [(7, .int v2153), (6, .int v23), (10, .int v2153), (8, .int v23), (5, .ref (ld 31)), (4, .ref (ld 30)), (0, .ref a0), (1, .int 0), (2, .int p2), (3, .int p3)]) hx hb dX5_worthOf_175 hl (by decide) rfl (fun ls hl => ?_)
                  exact hj2135 v2153 v23 _ _ (by omega) (by omega) (by omega) (by omega) hG hS hf7 hf1943 _ (lv_sub hl [0, 1, 3, 4, 5, 6, 7, 8, 9] rfl)
                refine lv_if_ne (tgt := 141) hx hb dX5_worthOf_131 (by decide) (fun c9 => ?_) (fun c9 => ?_)
                · have hc2143 : ¬ (v2141.toInt = 0) := fun h9 => c9 ((fi_eq rfl (by decide)).mpr h9)
                  refine lv_aload_n hx hb dX5_worthOf_141 rfl (lv_at hl 6 rfl) ?_
                  refine lv_iload_n hx hb dX5_worthOf_142 rfl (lv_at hl 7 rfl) ?_
                  refine lv_iconst (v := 1) hx hb dX5_worthOf_143 (by decide) ?_
                  refine lv_iadd hx hb dX5_worthOf_144 ?_
                  refine fx_ti (v := 1) (by decide) ?_
                  refine lv_iload_n hx hb dX5_worthOf_145 rfl (lv_at hl 9 rfl) ?_
                  refine lv_ineg hx hb dX5_worthOf_146 ?_
                  refine tk_any (fun v2156 => ?_)
                  refine lv_iload hx hb dX5_worthOf_147 (lv_at hl 0 rfl) ?_
                  refine lv_ineg hx hb dX5_worthOf_149 ?_
                  refine tk_any (fun v2157 => ?_)
                  have hk_1 : (1 : Int32).toInt = 1 := by decide
                  refine tk_Vi (As := [.int 1, .int v2156, .int v2157]) (rest := []) (ci := 5) ⟨hx, hb, hml, hown, hts⟩ hK hG hZ hS (k_X5_worthOf_1 l D cy ld t a0 v2156 v2157 ht_a0) trivial ⟨callB_of 3 hts (wl_in mw_1296) rfl rfl rfl (htl _ mw_40) (htl _ mw_1293) hd_yX5_worthOf ⟨(Nat.le_of_ble_eq_true rfl), (Nat.le_of_ble_eq_true rfl)⟩, htl _ mw_1294, htl _ mw_1295⟩ ht_a0 (by decide) tk_no rfl (tk_w.pick [0, 1, 2, 5, 6, 7, 8, 9, 10] rfl) rfl hl.1 rfl (Nat.le_of_ble_eq_true rfl) dX5_worthOf_150 ⟨(Nat.le_of_ble_eq_true rfl), (Nat.le_of_ble_eq_true rfl)⟩ (fun v2158 H locs hpo hG hS hq9 => ?_)
                  have hf7 := hf7.call hq9 (tk_w.no ht_ld30 (by decide))
                  have hf1943 := hf1943.call hq9 (tk_w.no ht_ld20 (by decide))
                  obtain ⟨hpo2160, hpo2161⟩ := hpo
                  refine lv_ineg hx hb dX5_worthOf_153 ?_
                  refine tk_neg rfl (by omega) (by omega) (fun v2162 h_v2162 => ?_)
                  exact hj2155 v2162 _ _ (by omega) (by omega) hG hS hf7 hf1943 _ (lv_sub hl [1, 2, 3, 4, 5, 6, 7, 8, 9] rfl)
                · have hc2143 : v2141.toInt = 0 := (fi_eq rfl (by decide)).mp c9
                  refine lv_bipush (v := 100) hx hb dX5_worthOf_134 (by decide) ?_
                  refine lv_iload_n hx hb dX5_worthOf_136 rfl (lv_at hl 7 rfl) ?_
                  refine lv_isub hx hb dX5_worthOf_137 ?_
                  refine fx_ti (v := 100) (by decide) ?_
                  refine lv_goto (tgt := 154) hx hb dX5_worthOf_138 (by decide) ?_
                  have hk_100 : (100 : Int32).toInt = 100 := by decide
                  exact hj2155 100 _ _ (by omega) (by omega) hG hS hf7 hf1943 _ (lv_sub hl [1, 2, 3, 4, 5, 6, 7, 8, 9] rfl)
              · have hc2102 : ¬ (v2096.toInt = 0) := fun h9 => c9 ((fi_eq rfl (by decide)).mpr h9)
                refine lv_goto (tgt := 177) hx hb dX5_worthOf_92 (by decide) ?_
                exact hj2135 v24 v25 _ _ (by omega) (by omega) (by omega) (by omega) hG hS hf7 hf1943 _ (lv_sub hl [1, 2, 0, 3, 4, 5, 6, 7, 8] rfl)
            · have hc2093 : ¬ (v25.toInt = (-1)) := fun h9 => c9 ((fi_eq rfl (by decide)).mpr h9)
              refine lv_iload hx hb dX5_worthOf_72 (lv_at hl 1 rfl) ?_
              refine lv_iload_n hx hb dX5_worthOf_74 rfl (lv_at hl 8 rfl) ?_
              refine lv_icmp_ge (tgt := 183) hx hb dX5_worthOf_75 (by decide) (fun c9 => ?_) (fun c9 => ?_)
              · have hc2163 : p3.toInt ≤ v24.toInt := (fi_le rfl rfl).mp c9
                exact hj2090 () _ (lv_sub hl [1, 2, 5, 6] rfl)
              · have hc2163 : ¬ (p3.toInt ≤ v24.toInt) := fun h9 => c9 ((fi_le rfl rfl).mpr h9)
                refine lv_aload_n hx hb dX5_worthOf_78 rfl (lv_at hl 5 rfl) ?_
                refine tk_get (ci := 5) (C := RX5) (T := TX5) (N := 11) (sp := (6, 9, 0, 0)) hx hb htl inX5 hown hK hG ht_a0 (by decide) tk_no rfl 1 (by decide) (htl _ mw_156) (fun _ h9 => h9) rfl dX5_worthOf_79 (fun v9 hf2164 hV9 => ?_)
                obtain ⟨b2165, rfl, ht_b2165⟩ := hV9
                have ht_b2165 : t b2165 = (9, 0, 0) := ht_b2165
                refine lv_aload hx hb dX5_worthOf_82 (lv_at hl 4 rfl) ?_
                refine lv_iload hx hb dX5_worthOf_84 (lv_at hl 0 rfl) ?_
                refine tk_Vi (As := [.ref (ld 30), .int v23]) (rest := []) (ci := 8) ⟨hx, hb, hml, hown, hts⟩ hK hG hZ hS (k_X8_isBarred l D cy ld t 10 b2165 (ld 30) v23 v8 ht_b2165 ht_ld30 (by omega) (by omega) (by omega) (by omega)) hf7 ⟨callB_of 2 hts (wl_in mw_901) rfl rfl rfl (htl _ mw_21) (htl _ mw_1300) hd_yX8_isBarred ⟨(Nat.le_of_ble_eq_true rfl), (Nat.le_of_ble_eq_true rfl)⟩, htl _ mw_899, htl _ mw_900⟩ ht_b2165 (by decide) tk_no rfl (tk_w.pick [0, 1, 2] rfl) rfl hl.1 rfl (Nat.le_of_ble_eq_true rfl) dX5_worthOf_86 ⟨(Nat.le_of_ble_eq_true rfl), (Nat.le_of_ble_eq_true rfl)⟩ (fun v2166 H locs hpo hG hS hq9 => ?_)
                have hf7 := hf7.call hq9 (tk_w.no ht_ld30 (by decide))
                have hf1943 := hf1943.call hq9 (tk_w.no ht_ld20 (by decide))
                obtain ⟨hpo2168, hpo2169, hpo2170, hpo2171⟩ := hpo
                have hj2207 : ∀ (v2204 : Int32) (v2205 : Int32) (H : Heap) (locs : List Loc), v2204.toInt ≤ 1000000000 → 0 ≤ v2204.toInt + (-1) * v24.toInt → 0 ≤ (-1) * v2205.toInt + v23.toInt → 0 ≤ v2205.toInt + (-1) * v25.toInt → tk_G D cy ld t [] H → va_S (tk_w t [(20, 0, 0), (12, 0, 0), (9, 0, 0), (20, 11, 11), (10, 11, 11), (20, 12, 12), (10, 12, 12), (20, 13, 13), (10, 13, 13), (20, 14, 14), (10, 14, 14), (6, 0, 0)]) s.heap H locs → tk_f D H (ld 30) 9 5 (.int v8) → tk_f D H (ld 20) 2 4 (.int v1944) → ∀ ls : Array Slot, lv_has ls 11 [(8, .int v23), (7, .int v2204), (6, .int v2205), (5, .ref (ld 31)), (4, .ref (ld 30)), (0, .ref a0), (1, .int 0), (2, .int p2), (3, .int p3)] → W p l e ({ frames := 10, cells := 0, slots := 0, locals := 630 }) s m args below meth c H locs 0 0 (MQ below (ti D cy ld t [] (fun r H => (-1000000000) ≤ r.toInt ∧ r.toInt ≤ 1000000000) (tk_w t [(20, 0, 0), (12, 0, 0), (9, 0, 0), (20, 11, 11), (10, 11, 11), (20, 12, 12), (10, 12, 12), (20, 13, 13), (10, 13, 13), (20, 14, 14), (10, 14, 14), (6, 0, 0)])) args s 0 0 (tk_w t [(20, 0, 0), (12, 0, 0), (9, 0, 0), (20, 11, 11), (10, 11, 11), (20, 12, 12), (10, 12, 12), (20, 13, 13), (10, 13, 13), (20, 14, 14), (10, 14, 14), (6, 0, 0)])) (F0 m 177 ls []) := by
                  intro v2204 v2205 H locs hq0_j2207 hq1_j2207 hq2_j2207 hq3_j2207 hG hS hf7 hf1943 ls hl
                  obtain ⟨v2208, h_v2208, e_v2208⟩ := tk_inc v23 1 (by decide) (by omega) (by omega)
                  refine lv_iinc (v := v2208) (lv' := [(8, .int v2208), (7, .int v2204), (6, .int v2205), (5, .ref (ld 31)), (4, .ref (ld 30)), (0, .ref a0), (1, .int 0), (2, .int p2), (3, .int p3)]) hx hb dX5_worthOf_177 hl (k := 0) rfl e_v2208 (by decide) rfl (fun ls hl => ?_)
                  refine lv_goto (tgt := 54) hx hb dX5_worthOf_180 (by decide) ?_
                  exact ih v2208 v2204 v2205 _ _ (by omega) (by omega) (by omega) (by omega) (by omega) (by omega) hG hS hf7 _ (lv_sub hl [0, 1, 2, 3, 4, 5, 6, 7, 8] rfl)
                refine lv_if_eq (tgt := 95) hx hb dX5_worthOf_89 (by decide) (fun c9 => ?_) (fun c9 => ?_)
                · have hc2172 : v2166.toInt = 0 := (fi_eq rfl (by decide)).mp c9
                  refine lv_aload hx hb dX5_worthOf_95 (lv_at hl 3 rfl) ?_
                  refine lv_aload hx hb dX5_worthOf_97 (lv_at hl 4 rfl) ?_
                  refine tk_Vv (As := [.ref (ld 30)]) (rest := []) (ci := 9) ⟨hx, hb, hml, hown, hts⟩ hK hG hZ hS (k_X9_copyFrom l D cy ld t 11 10 (ld 31) (ld 30) v8 ht_ld31 ht_ld30 (by omega) (by omega) (by omega)) hf7 ⟨callB_of 1 hts (wl_in mw_821) rfl rfl rfl (htl _ mw_76) (htl _ mw_1292) hd_yX9_copyFrom ⟨(Nat.le_of_ble_eq_true rfl), (Nat.le_of_ble_eq_true rfl)⟩, htl _ mw_819, htl _ mw_820⟩ ht_ld31 (by decide) tk_no rfl (tk_w.pick [3, 4] rfl) rfl hl.1 rfl (Nat.le_of_ble_eq_true rfl) dX5_worthOf_99 ⟨(Nat.le_of_ble_eq_true rfl), (Nat.le_of_ble_eq_true rfl)⟩ (fun H locs hpo hG hS hq9 => ?_)
                  have hf7 := hf7.call hq9 (tk_w.no ht_ld30 (by decide))
                  have hf1943 := hf1943.call hq9 (tk_w.no ht_ld20 (by decide))
                  have hf2210 := hpo
                  refine lv_iload hx hb dX5_worthOf_102 (lv_at hl 2 rfl) ?_
                  refine lv_iconst (v := (-1)) hx hb dX5_worthOf_104 (by decide) ?_
                  refine lv_icmp_ne (tgt := 112) hx hb dX5_worthOf_105 (by decide) (fun _ => ?_) (fun c9 => absurd (show v25.toInt = (-1) from (fi_eq rfl (by decide)).mp c9) (by omega))
                  refine lv_iload_n hx hb dX5_worthOf_112 rfl (lv_at hl 7 rfl) ?_
                  refine lv_iload hx hb dX5_worthOf_113 (lv_at hl 1 rfl) ?_
                  refine va_mmax hx hb (by rw [hml]; exact hl.1.symm) hown (htl _ mw_1298) (htl _ mw_948) (htl _ mw_474) (htl _ mw_949) (Nat.le_of_ble_eq_true rfl) (Nat.le_of_ble_eq_true rfl) (Nat.le_of_ble_eq_true rfl) (Nat.le_of_ble_eq_true rfl) dX5_worthOf_115 ?_
                  refine tk_say (P := fun z => p2.toInt ≤ z.toInt ∧ v24.toInt ≤ z.toInt ∧ (z.toInt = p2.toInt ∨ z.toInt = v24.toInt)) (tk_max rfl rfl) (fun v2211 h_v2211 => ?_)
                  refine lv_istore (lv' := [(9, .int v2211), (8, .int v23), (7, .int v24), (6, .int v25), (5, .ref (ld 31)), (4, .ref (ld 30)), (0, .ref a0), (1, .int 0), (2, .int p2), (3, .int p3)]) hx hb dX5_worthOf_118 hl (by decide) rfl (fun ls hl => ?_)
                  refine lv_aload_n hx hb dX5_worthOf_120 rfl (lv_at hl 6 rfl) ?_
                  refine tk_get (ci := 5) (C := RX5) (T := TX5) (N := 11) (sp := (6, 9, 0, 0)) hx hb htl inX5 hown hK hG ht_a0 (by decide) tk_no rfl 1 (by decide) (htl _ mw_156) (fun _ h9 => h9) rfl dX5_worthOf_121 (fun v9 hf2212 hV9 => ?_)
                  obtain ⟨b2213, rfl, ht_b2213⟩ := hV9
                  have ht_b2213 : t b2213 = (9, 0, 0) := ht_b2213
                  refine lv_aload hx hb dX5_worthOf_124 (lv_at hl 4 rfl) ?_
                  refine lv_iload hx hb dX5_worthOf_126 (lv_at hl 1 rfl) ?_
                  refine tk_Vi (As := [.ref (ld 31), .int v23]) (rest := []) (ci := 8) ⟨hx, hb, hml, hown, hts⟩ hK hG hZ hS (k_X8_singOn l D cy ld t 11 b2213 (ld 31) v23 v8 ht_b2213 ht_ld31 (by omega) (by omega) (by omega) (by omega)) hf2210 ⟨callB_of 2 hts (wl_in mw_946) rfl rfl rfl (htl _ mw_21) (htl _ mw_1301) hd_yX8_singOn ⟨(Nat.le_of_ble_eq_true rfl), (Nat.le_of_ble_eq_true rfl)⟩, htl _ mw_944, htl _ mw_945⟩ ht_b2213 (by decide) tk_no rfl (tk_w.pick [0, 1, 2, 3, 4] rfl) rfl hl.1 rfl (Nat.le_of_ble_eq_true rfl) dX5_worthOf_128 ⟨(Nat.le_of_ble_eq_true rfl), (Nat.le_of_ble_eq_true rfl)⟩ (fun v2214 H locs hpo hG hS hq9 => ?_)
                  have hf7 := hf7.call hq9 (tk_w.no ht_ld30 (by decide))
                  have hf1943 := hf1943.call hq9 (tk_w.no ht_ld20 (by decide))
                  have hj2228 : ∀ (v2226 : Int32) (H : Heap) (locs : List Loc), (-1000000000) ≤ v2226.toInt → v2226.toInt ≤ 1000000000 → tk_G D cy ld t [] H → va_S (tk_w t [(20, 0, 0), (12, 0, 0), (9, 0, 0), (20, 11, 11), (10, 11, 11), (20, 12, 12), (10, 12, 12), (20, 13, 13), (10, 13, 13), (20, 14, 14), (10, 14, 14), (6, 0, 0)]) s.heap H locs → tk_f D H (ld 30) 9 5 (.int v8) → tk_f D H (ld 20) 2 4 (.int v1944) → ∀ ls : Array Slot, lv_has ls 11 [(8, .int v23), (7, .int v24), (6, .int v25), (5, .ref (ld 31)), (4, .ref (ld 30)), (0, .ref a0), (1, .int 0), (2, .int p2), (3, .int p3)] → W p l e ({ frames := 10, cells := 0, slots := 0, locals := 630 }) s m args below meth c H locs 0 0 (MQ below (ti D cy ld t [] (fun r H => (-1000000000) ≤ r.toInt ∧ r.toInt ≤ 1000000000) (tk_w t [(20, 0, 0), (12, 0, 0), (9, 0, 0), (20, 11, 11), (10, 11, 11), (20, 12, 12), (10, 12, 12), (20, 13, 13), (10, 13, 13), (20, 14, 14), (10, 14, 14), (6, 0, 0)])) args s 0 0 (tk_w t [(20, 0, 0), (12, 0, 0), (9, 0, 0), (20, 11, 11), (10, 11, 11), (20, 12, 12), (10, 12, 12), (20, 13, 13), (10, 13, 13), (20, 14, 14), (10, 14, 14), (6, 0, 0)])) (F0 m 154 ls [.int v2226]) := by
                    intro v2226 H locs hq0_j2228 hq1_j2228 hG hS hf7 hf1943 ls hl
                    refine lv_istore (lv' := [(10, .int v2226), (8, .int v23), (7, .int v24), (6, .int v25), (5, .ref (ld 31)), (4, .ref (ld 30)), (0, .ref a0), (1, .int 0), (2, .int p2), (3, .int p3)]) hx hb dX5_worthOf_154 hl (by decide) rfl (fun ls hl => ?_)
                    refine lv_iload hx hb dX5_worthOf_156 (lv_at hl 3 rfl) ?_
                    refine lv_iconst (v := (-1)) hx hb dX5_worthOf_158 (by decide) ?_
                    refine lv_icmp_eq (tgt := 169) hx hb dX5_worthOf_159 (by decide) (fun c9 => absurd (show v25.toInt = (-1) from (fi_eq rfl (by decide)).mp c9) (by omega)) (fun _ => ?_)
                    refine lv_iload hx hb dX5_worthOf_162 (lv_at hl 0 rfl) ?_
                    refine lv_iload hx hb dX5_worthOf_164 (lv_at hl 2 rfl) ?_
                    refine lv_icmp_le (tgt := 177) hx hb dX5_worthOf_166 (by decide) (fun c9 => ?_) (fun c9 => ?_)
                    · have hc2229 : v2226.toInt ≤ v24.toInt := (fi_le rfl rfl).mp c9
                      exact hj2207 v24 v25 _ _ (by omega) (by omega) (by omega) (by omega) hG hS hf7 hf1943 _ (lv_sub hl [1, 2, 3, 4, 5, 6, 7, 8, 9] rfl)
                    · have hc2229 : ¬ (v2226.toInt ≤ v24.toInt) := fun h9 => c9 ((fi_le rfl rfl).mpr h9)
                      refine lv_iload hx hb dX5_worthOf_169 (lv_at hl 1 rfl) ?_
                      refine lv_istore (lv' := [(6, .int v23), (10, .int v2226), (8, .int v23), (7, .int v24), (5, .ref (ld 31)), (4, .ref (ld 30)), (0, .ref a0), (1, .int 0), (2, .int p2), (3, .int p3)]) hx hb dX5_worthOf_171 hl (by decide) rfl (fun ls hl => ?_)
                      refine lv_iload hx hb dX5_worthOf_173 (lv_at hl 1 rfl) ?_
                      refine lv_istore (lv' := [(7, .int v2226), (6, .int v23), (10, .int v2226), (8, .int v23), (5, .ref (ld 31)), (4, .ref (ld 30)), (0, .ref a0), (1, .int 0), (2, .int p2), (3, .int p3)]) hx hb dX5_worthOf_175 hl (by decide) rfl (fun ls hl => ?_)
                      exact hj2207 v2226 v23 _ _ (by omega) (by omega) (by omega) (by omega) hG hS hf7 hf1943 _ (lv_sub hl [3, 0, 1, 4, 5, 6, 7, 8, 9] rfl)
                  refine lv_if_ne (tgt := 141) hx hb dX5_worthOf_131 (by decide) (fun c9 => ?_) (fun c9 => ?_)
                  · have hc2216 : ¬ (v2214.toInt = 0) := fun h9 => c9 ((fi_eq rfl (by decide)).mpr h9)
                    refine lv_aload_n hx hb dX5_worthOf_141 rfl (lv_at hl 6 rfl) ?_
                    refine lv_iload_n hx hb dX5_worthOf_142 rfl (lv_at hl 7 rfl) ?_
                    refine lv_iconst (v := 1) hx hb dX5_worthOf_143 (by decide) ?_
                    refine lv_iadd hx hb dX5_worthOf_144 ?_
                    refine fx_ti (v := 1) (by decide) ?_
                    refine lv_iload_n hx hb dX5_worthOf_145 rfl (lv_at hl 9 rfl) ?_
                    refine lv_ineg hx hb dX5_worthOf_146 ?_
                    refine tk_neg rfl (by omega) (by omega) (fun v2230 h_v2230 => ?_)
                    refine lv_iload hx hb dX5_worthOf_147 (lv_at hl 0 rfl) ?_
                    refine lv_ineg hx hb dX5_worthOf_149 ?_
                    refine tk_neg rfl (by omega) (by omega) (fun v2231 h_v2231 => ?_)
                    have hk_1 : (1 : Int32).toInt = 1 := by decide
                    refine tk_Vi (As := [.int 1, .int v2230, .int v2231]) (rest := []) (ci := 5) ⟨hx, hb, hml, hown, hts⟩ hK hG hZ hS (k_X5_worthOf_1 l D cy ld t a0 v2230 v2231 ht_a0) trivial ⟨callB_of 3 hts (wl_in mw_1296) rfl rfl rfl (htl _ mw_40) (htl _ mw_1293) hd_yX5_worthOf ⟨(Nat.le_of_ble_eq_true rfl), (Nat.le_of_ble_eq_true rfl)⟩, htl _ mw_1294, htl _ mw_1295⟩ ht_a0 (by decide) tk_no rfl (tk_w.pick [0, 1, 2, 5, 6, 7, 8, 9, 10] rfl) rfl hl.1 rfl (Nat.le_of_ble_eq_true rfl) dX5_worthOf_150 ⟨(Nat.le_of_ble_eq_true rfl), (Nat.le_of_ble_eq_true rfl)⟩ (fun v2232 H locs hpo hG hS hq9 => ?_)
                    have hf7 := hf7.call hq9 (tk_w.no ht_ld30 (by decide))
                    have hf1943 := hf1943.call hq9 (tk_w.no ht_ld20 (by decide))
                    obtain ⟨hpo2234, hpo2235⟩ := hpo
                    refine lv_ineg hx hb dX5_worthOf_153 ?_
                    refine tk_neg rfl (by omega) (by omega) (fun v2236 h_v2236 => ?_)
                    exact hj2228 v2236 _ _ (by omega) (by omega) hG hS hf7 hf1943 _ (lv_sub hl [1, 2, 3, 4, 5, 6, 7, 8, 9] rfl)
                  · have hc2216 : v2214.toInt = 0 := (fi_eq rfl (by decide)).mp c9
                    refine lv_bipush (v := 100) hx hb dX5_worthOf_134 (by decide) ?_
                    refine lv_iload_n hx hb dX5_worthOf_136 rfl (lv_at hl 7 rfl) ?_
                    refine lv_isub hx hb dX5_worthOf_137 ?_
                    refine fx_ti (v := 100) (by decide) ?_
                    refine lv_goto (tgt := 154) hx hb dX5_worthOf_138 (by decide) ?_
                    have hk_100 : (100 : Int32).toInt = 100 := by decide
                    exact hj2228 100 _ _ (by omega) (by omega) hG hS hf7 hf1943 _ (lv_sub hl [1, 2, 3, 4, 5, 6, 7, 8, 9] rfl)
                · have hc2172 : ¬ (v2166.toInt = 0) := fun h9 => c9 ((fi_eq rfl (by decide)).mpr h9)
                  refine lv_goto (tgt := 177) hx hb dX5_worthOf_92 (by decide) ?_
                  exact hj2207 v24 v25 _ _ (by omega) (by omega) (by omega) (by omega) hG hS hf7 hf1943 _ (lv_sub hl [0, 1, 2, 3, 4, 5, 6, 7, 8] rfl)
      have hk_0 : (0 : Int32).toInt = 0 := by decide
      have hk_0 : (0 : Int32).toInt = 0 := by decide
      have hk_m1 : ((-1) : Int32).toInt = (-1) := by decide
      exact hl1941 11 0 0 (-1) _ _ (by omega) (by omega) (by omega) (by omega) (by omega) (by omega) hG hS hf7 _ (lv_sub hl [0, 1, 2, 3, 4, 5, 6, 7, 8] rfl)
    · have hc16 : v9.toInt = 0 := (fi_eq rfl (by decide)).mp c9
      refine lv_iconst (v := 0) hx hb dX5_worthOf_25 (by decide) ?_
      have hk_0 : (0 : Int32).toInt = 0 := by decide
      exact tk_iret (v := 0) hx hb hr rfl hlocks (show (-1000000000) ≤ (0 : Int32).toInt ∧ (0 : Int32).toInt ≤ 1000000000 from ⟨(by omega), (by omega)⟩) hG hS dX5_worthOf_26
