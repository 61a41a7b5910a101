theorem dX6_noteLawWord_0 : decode cX6_noteLawWord 0 = .ok (.aload_n 0, 1) := by decide +kernel
theorem dX6_noteLawWord_1 : decode cX6_noteLawWord 1 = .ok (.getfield 16, 3) := by decide +kernel
theorem dX6_noteLawWord_4 : decode cX6_noteLawWord 4 = .ok (.getfield 194, 3) := by decide +kernel
theorem dX6_noteLawWord_7 : decode cX6_noteLawWord 7 = .ok (.iconst 1, 1) := by decide +kernel
theorem dX6_noteLawWord_8 : decode cX6_noteLawWord 8 = .ok (.isub, 1) := by decide +kernel
theorem dX6_noteLawWord_9 : decode cX6_noteLawWord 9 = .ok (.istore_n 2, 1) := by decide +kernel
theorem dX6_noteLawWord_10 : decode cX6_noteLawWord 10 = .ok (.iload_n 1, 1) := by decide +kernel
theorem dX6_noteLawWord_11 : decode cX6_noteLawWord 11 = .ok (.iconst 5, 1) := by decide +kernel
theorem dX6_noteLawWord_39 : decode cX6_noteLawWord 39 = .ok (.iload_n 1, 1) := by decide +kernel
theorem dX6_noteLawWord_40 : decode cX6_noteLawWord 40 = .ok (.ireturn, 1) := by decide +kernel
theorem dX6_noteLawWord_12 : decode cX6_noteLawWord 12 = .ok (.if_icmp .ne 27, 3) := by decide +kernel
theorem dX6_noteLawWord_15 : decode cX6_noteLawWord 15 = .ok (.iload_n 2, 1) := by decide +kernel
theorem dX6_noteLawWord_16 : decode cX6_noteLawWord 16 = .ok (.ifCond .lt 23, 3) := by decide +kernel
theorem dX6_noteLawWord_19 : decode cX6_noteLawWord 19 = .ok (.aload_n 0, 1) := by decide +kernel
theorem dX6_noteLawWord_20 : decode cX6_noteLawWord 20 = .ok (.getfield 16, 3) := by decide +kernel
theorem dX6_noteLawWord_23 : decode cX6_noteLawWord 23 = .ok (.getfield 199, 3) := by decide +kernel
theorem dX6_noteLawWord_26 : decode cX6_noteLawWord 26 = .ok (.iload_n 2, 1) := by decide +kernel
theorem dX6_noteLawWord_27 : decode cX6_noteLawWord 27 = .ok (.iaload, 1) := by decide +kernel
theorem dX6_noteLawWord_28 : decode cX6_noteLawWord 28 = .ok (.ifCond .ne 11, 3) := by decide +kernel
theorem dX6_noteLawWord_31 : decode cX6_noteLawWord 31 = .ok (.aload_n 0, 1) := by decide +kernel
theorem dX6_noteLawWord_32 : decode cX6_noteLawWord 32 = .ok (.getfield 16, 3) := by decide +kernel
theorem dX6_noteLawWord_35 : decode cX6_noteLawWord 35 = .ok (.iconst 1, 1) := by decide +kernel
theorem dX6_noteLawWord_36 : decode cX6_noteLawWord 36 = .ok (.putfield 202, 3) := by decide +kernel
set_option maxHeartbeats 4000000 in
set_option maxRecDepth 100000 in
theorem k_X6_noteLawWord (l : Launch) (D : va_G) (cy : Nat → ClassId) (ld : Nat → Nat) (t : tk_T) (a0 : Nat) (p1 : Int32) (ht_a0 : t a0 = (7, 0, 0)) : Met l yX6_noteLawWord (wl yX6_noteLawWord cX6_noteLawWord 3 (some .int)) ({ frames := 3, cells := 0, slots := 0, locals := 140 }) (tp D cy ld t [] [.ref a0, .int p1] (fun H => True)) (ti D cy ld t [] (fun r H => True) (tk_w t [(8, 12, 12)])) 0 0 (tk_w t [(8, 12, 12)]) := by
  refine tk_met (y := yX6_noteLawWord) (cc := cX6_noteLawWord) (maxL := 3) (ret := (some .int)) (av := [.ref a0, .int p1]) _ _ (by decide) (Nat.le_of_ble_eq_true rfl) ?_
  intro p e s m args below meth c hx hb hr hml hts htl hown hlocks hK H locs hH hG hS hB hZ ls hl
  have hown : s.vm.findClass RX6 = some m.cls := hown
  have hl : lv_has ls 3 [(0, .ref a0), (1, .int p1)] := hl
  have hr_p1 := tk_rng p1
  refine lv_aload_n hx hb dX6_noteLawWord_0 rfl (lv_at hl 0 rfl) ?_
  refine tk_get (ci := 6) (C := RX6) (T := TX6) (N := 11) (sp := (6, 8, 512, 12)) hx hb htl inX6 hown hK hG ht_a0 (by decide) tk_no rfl 0 (by decide) (htl _ mw_132) (fun _ h9 => h9) rfl dX6_noteLawWord_1 (fun v9 hf1 hV9 => ?_)
  obtain ⟨b2, rfl, ht_b2⟩ := hV9
  have ht_b2 : t b2 = (8, 512, 12) := ht_b2
  refine tk_get (ci := 7) (C := RX7) (T := TX7) (N := 10) (sp := (5, 0, 0, 0)) hx hb htl inX7 hown hK hG ht_b2 (by decide) tk_no rfl 7 (by decide) (htl _ mw_608) (fun _ h9 => h9) rfl dX6_noteLawWord_4 (fun v9 hf3 hV9 => ?_)
  obtain ⟨v4, rfl, (ha_v4 : 0 ≤ v4.toInt), (hb_v4 : v4.toInt ≤ 12)⟩ := hV9
  refine lv_iconst (v := 1) hx hb dX6_noteLawWord_7 (by decide) ?_
  refine lv_isub hx hb dX6_noteLawWord_8 ?_
  refine tk_sub rfl (show (1 : Int32).toInt = 1 by decide) (by omega) (by omega) (fun v5 h_v5 => ?_)
  refine lv_istore_n (lv' := [(2, .int v5), (0, .ref a0), (1, .int p1)]) hx hb dX6_noteLawWord_9 rfl hl (by decide) rfl (fun ls hl => ?_)
  refine lv_iload_n hx hb dX6_noteLawWord_10 rfl (lv_at hl 2 rfl) ?_
  refine lv_iconst (v := 5) hx hb dX6_noteLawWord_11 (by decide) ?_
  have hj20 : ∀ (H : Heap) (locs : List Loc), tk_G D cy ld t [] H → va_S (tk_w t [(8, 12, 12)]) s.heap H locs → ∀ ls : Array Slot, lv_has ls 3 [(1, .int p1)] → W p l e ({ frames := 3, cells := 0, slots := 0, locals := 140 }) s m args below meth c H locs 0 0 (MQ below (ti D cy ld t [] (fun r H => True) (tk_w t [(8, 12, 12)])) args s 0 0 (tk_w t [(8, 12, 12)])) (F0 m 39 ls []) := by
    intro H locs hG hS ls hl
    refine lv_iload_n hx hb dX6_noteLawWord_39 rfl (lv_at hl 0 rfl) ?_
    exact tk_iret (v := p1) hx hb hr rfl hlocks trivial hG hS dX6_noteLawWord_40
  refine lv_icmp_ne (tgt := 39) hx hb dX6_noteLawWord_12 (by decide) (fun c9 => ?_) (fun c9 => ?_)
  · have hc6 : ¬ (p1.toInt = 5) := fun h9 => c9 ((fi_eq rfl (show (5 : Int32).toInt = 5 by decide)).mpr h9)
    exact hj20 _ _ hG hS _ (lv_sub hl [2] rfl)
  · have hc6 : p1.toInt = 5 := (fi_eq rfl (show (5 : Int32).toInt = 5 by decide)).mp c9
    refine lv_iload_n hx hb dX6_noteLawWord_15 rfl (lv_at hl 0 rfl) ?_
    refine lv_if_lt (tgt := 39) hx hb dX6_noteLawWord_16 (by decide) (fun c9 => ?_) (fun c9 => ?_)
    · have hc21 : v5.toInt < 0 := (fi_lt rfl (show (0 : Int32).toInt = 0 by decide)).mp c9
      exact hj20 _ _ hG hS _ (lv_sub hl [2] rfl)
    · have hc21 : ¬ (v5.toInt < 0) := fun h9 => c9 ((fi_lt rfl (show (0 : Int32).toInt = 0 by decide)).mpr h9)
      refine lv_aload_n hx hb dX6_noteLawWord_19 rfl (lv_at hl 1 rfl) ?_
      refine tk_get (ci := 6) (C := RX6) (T := TX6) (N := 11) (sp := (6, 8, 512, 12)) hx hb htl inX6 hown hK hG ht_a0 (by decide) tk_no rfl 0 (by decide) (htl _ mw_132) (fun _ h9 => h9) rfl dX6_noteLawWord_20 (fun v9 hf22 hV9 => ?_)
      obtain ⟨b23, rfl, ht_b23⟩ := hV9
      have ht_b23 : t b23 = (8, 512, 12) := ht_b23
      refine tk_get (ci := 7) (C := RX7) (T := TX7) (N := 10) (sp := (3, 20, 1, 0)) hx hb htl inX7 hown hK hG ht_b23 (by decide) tk_no rfl 2 (by decide) (htl _ mw_609) (fun _ h9 => h9) rfl dX6_noteLawWord_23 (fun v9 hf24 hV9 => ?_)
      obtain ⟨b25, rfl, ht_b25⟩ := hV9
      have ht_b25 : t b25 = (20, 12, 0) := ht_b25
      refine lv_iload_n hx hb dX6_noteLawWord_26 rfl (lv_at hl 0 rfl) ?_
      refine tk_iald hx hb hK hG ht_b25 (by decide) (fun _ h => h) tk_no rfl (by omega) (by omega) dX6_noteLawWord_27 (fun v26 _ _ => ?_)
      have hr_v26 := tk_rng v26
      refine lv_if_ne (tgt := 39) hx hb dX6_noteLawWord_28 (by decide) (fun c9 => ?_) (fun c9 => ?_)
      · have hc27 : ¬ (v26.toInt = 0) := fun h9 => c9 ((fi_eq rfl (show (0 : Int32).toInt = 0 by decide)).mpr h9)
        exact hj20 _ _ hG hS _ (lv_sub hl [2] rfl)
      · have hc27 : v26.toInt = 0 := (fi_eq rfl (show (0 : Int32).toInt = 0 by decide)).mp c9
        refine lv_aload_n hx hb dX6_noteLawWord_31 rfl (lv_at hl 1 rfl) ?_
        refine tk_get (ci := 6) (C := RX6) (T := TX6) (N := 11) (sp := (6, 8, 512, 12)) hx hb htl inX6 hown hK hG ht_a0 (by decide) tk_no rfl 0 (by decide) (htl _ mw_132) (fun _ h9 => h9) rfl dX6_noteLawWord_32 (fun v9 hf28 hV9 => ?_)
        obtain ⟨b29, rfl, ht_b29⟩ := hV9
        have ht_b29 : t b29 = (8, 512, 12) := ht_b29
        refine lv_iconst (v := 1) hx hb dX6_noteLawWord_35 (by decide) ?_
        refine tk_put (ci := 7) (v := .int 1) (ty := .boolean) (C := RX7) (T := TX7) (N := 10) (sp := (0, 0, 1, 0)) hx hb htl inX7 tyX7 tyX7_ok nmX7 hown hK hG hS ht_b29 (by decide) tk_no rfl 9 (by decide) (htl _ mw_610) (fun _ h9 => h9) rfl (tyX7_ok 9 (by decide)) rfl rfl rfl (tk_V0 (by decide) (by decide)) (fun _ h => h) (tk_w.of ht_b29 (by decide) (List.mem_of_getElem? (i := 0) rfl) (Nat.le_refl _) (Nat.le_refl _)) dX6_noteLawWord_36 (fun H locs hG hS hf30 hq9 hj9 => ?_)
        exact hj20 _ _ hG hS _ (lv_sub hl [2] rfl)
theorem dX6_readOwner_0 : decode cX6_readOwner 0 = .ok (.iload_n 1, 1) := by decide +kernel
theorem dX6_readOwner_1 : decode cX6_readOwner 1 = .ok (.iconst 5, 1) := by decide +kernel
theorem dX6_readOwner_10 : decode cX6_readOwner 10 = .ok (.istore_n 2, 1) := by decide +kernel
theorem dX6_readOwner_11 : decode cX6_readOwner 11 = .ok (.iload_n 2, 1) := by decide +kernel
theorem dX6_readOwner_12 : decode cX6_readOwner 12 = .ok (.ifCond .ne 11, 3) := by decide +kernel
theorem dX6_readOwner_23 : decode cX6_readOwner 23 = .ok (.aload_n 0, 1) := by decide +kernel
theorem dX6_readOwner_24 : decode cX6_readOwner 24 = .ok (.getfield 67, 3) := by decide +kernel
theorem dX6_readOwner_27 : decode cX6_readOwner 27 = .ok (.iconst 2, 1) := by decide +kernel
theorem dX6_readOwner_28 : decode cX6_readOwner 28 = .ok (.if_icmp .ne 20, 3) := by decide +kernel
theorem dX6_readOwner_48 : decode cX6_readOwner 48 = .ok (.aload_n 0, 1) := by decide +kernel
theorem dX6_readOwner_49 : decode cX6_readOwner 49 = .ok (.invokevirtual 60, 3) := by decide +kernel
theorem dX6_readOwner_52 : decode cX6_readOwner 52 = .ok (.iload_n 1, 1) := by decide +kernel
theorem dX6_readOwner_53 : decode cX6_readOwner 53 = .ok (.ireturn, 1) := by decide +kernel
theorem dX6_readOwner_31 : decode cX6_readOwner 31 = .ok (.aload_n 0, 1) := by decide +kernel
theorem dX6_readOwner_32 : decode cX6_readOwner 32 = .ok (.getfield 80, 3) := by decide +kernel
theorem dX6_readOwner_35 : decode cX6_readOwner 35 = .ok (.iload_n 2, 1) := by decide +kernel
theorem dX6_readOwner_36 : decode cX6_readOwner 36 = .ok (.ifCond .eq 8, 3) := by decide +kernel
theorem dX6_readOwner_39 : decode cX6_readOwner 39 = .ok (.bipush 7, 2) := by decide +kernel
theorem dX6_readOwner_41 : decode cX6_readOwner 41 = .ok (.goto 4, 3) := by decide +kernel
theorem dX6_readOwner_45 : decode cX6_readOwner 45 = .ok (.if_icmp .le 9, 3) := by decide +kernel
theorem dX6_readOwner_54 : decode cX6_readOwner 54 = .ok (.aload_n 0, 1) := by decide +kernel
theorem dX6_readOwner_55 : decode cX6_readOwner 55 = .ok (.getfield 80, 3) := by decide +kernel
theorem dX6_readOwner_58 : decode cX6_readOwner 58 = .ok (.istore_n 3, 1) := by decide +kernel
theorem dX6_readOwner_59 : decode cX6_readOwner 59 = .ok (.aload_n 0, 1) := by decide +kernel
theorem dX6_readOwner_60 : decode cX6_readOwner 60 = .ok (.invokevirtual 53, 3) := by decide +kernel
theorem dX6_readOwner_63 : decode cX6_readOwner 63 = .ok (.iload_n 2, 1) := by decide +kernel
theorem dX6_readOwner_64 : decode cX6_readOwner 64 = .ok (.ifCond .eq 7, 3) := by decide +kernel
theorem dX6_readOwner_67 : decode cX6_readOwner 67 = .ok (.iconst 5, 1) := by decide +kernel
theorem dX6_readOwner_68 : decode cX6_readOwner 68 = .ok (.goto 5, 3) := by decide +kernel
theorem dX6_readOwner_73 : decode cX6_readOwner 73 = .ok (.iload_n 3, 1) := by decide +kernel
theorem dX6_readOwner_74 : decode cX6_readOwner 74 = .ok (.iadd, 1) := by decide +kernel
theorem dX6_readOwner_75 : decode cX6_readOwner 75 = .ok (.ireturn, 1) := by decide +kernel
theorem dX6_readOwner_15 : decode cX6_readOwner 15 = .ok (.iload_n 1, 1) := by decide +kernel
theorem dX6_readOwner_16 : decode cX6_readOwner 16 = .ok (.bipush 6, 2) := by decide +kernel
theorem dX6_readOwner_18 : decode cX6_readOwner 18 = .ok (.if_icmp .eq 5, 3) := by decide +kernel
theorem dX6_readOwner_44 : decode cX6_readOwner 44 = .ok (.iconst 1, 1) := by decide +kernel
theorem dX6_readOwner_71 : decode cX6_readOwner 71 = .ok (.bipush 13, 2) := by decide +kernel
theorem dX6_readOwner_21 : decode cX6_readOwner 21 = .ok (.iload_n 1, 1) := by decide +kernel
theorem dX6_readOwner_22 : decode cX6_readOwner 22 = .ok (.ireturn, 1) := by decide +kernel
theorem dX6_readOwner_2 : decode cX6_readOwner 2 = .ok (.if_icmp .ne 7, 3) := by decide +kernel
theorem dX6_readOwner_9 : decode cX6_readOwner 9 = .ok (.iconst 0, 1) := by decide +kernel
theorem dX6_readOwner_5 : decode cX6_readOwner 5 = .ok (.iconst 1, 1) := by decide +kernel
theorem dX6_readOwner_6 : decode cX6_readOwner 6 = .ok (.goto 4, 3) := by decide +kernel
set_option maxHeartbeats 4000000 in
set_option maxRecDepth 100000 in
theorem k_X6_readOwner (l : Launch) (D : va_G) (cy : Nat → ClassId) (ld : Nat → Nat) (t : tk_T) (a0 : Nat) (p1 : Int32) (g9 : Int32) (ht_a0 : t a0 = (7, 0, 0)) (hp_0 : 0 ≤ g9.toInt) (hp_1 : g9.toInt ≤ 8) : Met l yX6_readOwner (wl yX6_readOwner cX6_readOwner 4 (some .int)) ({ frames := 5, cells := 0, slots := 0, locals := 280 }) (tp D cy ld t [] [.ref a0, .int p1] (fun H => tk_f D H a0 6 9 (.int g9))) (ti D cy ld t [] (fun r H => tk_f D H a0 6 9 (.int g9)) (tk_w t [(7, 0, 0)])) 0 0 (tk_w t [(7, 0, 0)]) := by
  refine tk_met (y := yX6_readOwner) (cc := cX6_readOwner) (maxL := 4) (ret := (some .int)) (av := [.ref a0, .int p1]) _ _ (by decide) (Nat.le_of_ble_eq_true rfl) ?_
  intro p e s m args below meth c hx hb hr hml hts htl hown hlocks hK H locs hH hG hS hB hZ ls hl
  have hown : s.vm.findClass RX6 = some m.cls := hown
  have hl : lv_has ls 4 [(0, .ref a0), (1, .int p1)] := hl
  have hg_0 := hB
  have hr_p1 := tk_rng p1
  refine lv_iload_n hx hb dX6_readOwner_0 rfl (lv_at hl 1 rfl) ?_
  refine lv_iconst (v := 5) hx hb dX6_readOwner_1 (by decide) ?_
  have hj4 : ∀ (v3 : Int32), 0 ≤ v3.toInt → v3.toInt ≤ 1 → ∀ ls : Array Slot, lv_has ls 4 [(0, .ref a0), (1, .int p1)] → W p l e ({ frames := 5, cells := 0, slots := 0, locals := 280 }) s m args below meth c H locs 0 0 (MQ below (ti D cy ld t [] (fun r H => tk_f D H a0 6 9 (.int g9)) (tk_w t [(7, 0, 0)])) args s 0 0 (tk_w t [(7, 0, 0)])) (F0 m 10 ls [.int v3]) := by
    intro v3 hq0_j4 hq1_j4 ls hl
    refine lv_istore_n (lv' := [(2, .int v3), (0, .ref a0), (1, .int p1)]) hx hb dX6_readOwner_10 rfl hl (by decide) rfl (fun ls hl => ?_)
    refine lv_iload_n hx hb dX6_readOwner_11 rfl (lv_at hl 0 rfl) ?_
    refine lv_if_ne (tgt := 23) hx hb dX6_readOwner_12 (by decide) (fun c9 => ?_) (fun c9 => ?_)
    · have hc5 : ¬ (v3.toInt = 0) := fun h9 => c9 ((fi_eq rfl (show (0 : Int32).toInt = 0 by decide)).mpr h9)
      refine lv_aload_n hx hb dX6_readOwner_23 rfl (lv_at hl 1 rfl) ?_
      refine tk_get (ci := 6) (C := RX6) (T := TX6) (N := 11) (sp := (0, (-2147483648), 2147483647, 0)) hx hb htl inX6 hown hK hG ht_a0 (by decide) tk_no rfl 6 (by decide) (htl _ mw_482) (fun _ h9 => h9) rfl dX6_readOwner_24 (fun v9 hf6 hV9 => ?_)
      obtain ⟨v7, rfl, (ha_v7 : (-2147483648) ≤ v7.toInt), (hb_v7 : v7.toInt ≤ 2147483647)⟩ := hV9
      refine lv_iconst (v := 2) hx hb dX6_readOwner_27 (by decide) ?_
      refine lv_icmp_ne (tgt := 48) hx hb dX6_readOwner_28 (by decide) (fun c9 => ?_) (fun c9 => ?_)
      · have hc8 : ¬ (v7.toInt = 2) := fun h9 => c9 ((fi_eq rfl (show (2 : Int32).toInt = 2 by decide)).mpr h9)
        refine lv_aload_n hx hb dX6_readOwner_48 rfl (lv_at hl 1 rfl) ?_
        refine tk_Vv (As := []) (rest := []) (ci := 6) ⟨hx, hb, hml, hown, hts⟩ hK hG hZ hS (k_X6_fail l D cy ld t a0 g9 ht_a0 (by omega) (by omega)) hg_0 ⟨callB_of 0 hts (wl_in mw_507) rfl rfl rfl (htl _ mw_36) (htl _ mw_504) hd_yX6_fail ⟨(Nat.le_of_ble_eq_true rfl), (Nat.le_of_ble_eq_true rfl)⟩, htl _ mw_505, htl _ mw_506⟩ ht_a0 (by decide) tk_no rfl (tk_w.pick [0] rfl) rfl hl.1 rfl (Nat.le_of_ble_eq_true rfl) dX6_readOwner_49 ⟨(Nat.le_of_ble_eq_true rfl), (Nat.le_of_ble_eq_true rfl)⟩ (fun H locs hpo hG hS hq9 => ?_)
        have hf10 := hpo
        refine lv_iload_n hx hb dX6_readOwner_52 rfl (lv_at hl 2 rfl) ?_
        exact tk_iret (v := p1) hx hb hr rfl hlocks (show tk_f D H a0 6 9 (.int g9) from hf10) hG hS dX6_readOwner_53
      · have hc8 : v7.toInt = 2 := (fi_eq rfl (show (2 : Int32).toInt = 2 by decide)).mp c9
        refine lv_aload_n hx hb dX6_readOwner_31 rfl (lv_at hl 1 rfl) ?_
        refine tk_get (ci := 6) (C := RX6) (T := TX6) (N := 11) (sp := (0, (-2147483648), 2147483647, 0)) hx hb htl inX6 hown hK hG ht_a0 (by decide) tk_no rfl 7 (by decide) (htl _ mw_496) (fun _ h9 => h9) rfl dX6_readOwner_32 (fun v9 hf11 hV9 => ?_)
        obtain ⟨v12, rfl, (ha_v12 : (-2147483648) ≤ v12.toInt), (hb_v12 : v12.toInt ≤ 2147483647)⟩ := hV9
        refine lv_iload_n hx hb dX6_readOwner_35 rfl (lv_at hl 0 rfl) ?_
        refine lv_if_eq (tgt := 44) hx hb dX6_readOwner_36 (by decide) (fun c9 => absurd (show v3.toInt = 0 from (fi_eq rfl (show (0 : Int32).toInt = 0 by decide)).mp c9) (by omega)) (fun _ => ?_)
        refine lv_bipush (v := 7) hx hb dX6_readOwner_39 (by decide) ?_
        refine lv_goto (tgt := 45) hx hb dX6_readOwner_41 (by decide) ?_
        refine lv_icmp_le (tgt := 54) hx hb dX6_readOwner_45 (by decide) (fun c9 => ?_) (fun c9 => ?_)
        · have hc13 : v12.toInt ≤ 7 := (fi_le rfl (show (7 : Int32).toInt = 7 by decide)).mp c9
          refine lv_aload_n hx hb dX6_readOwner_54 rfl (lv_at hl 1 rfl) ?_
          refine tk_getk (ci := 6) (C := RX6) (T := TX6) (N := 11) (sp := (0, (-2147483648), 2147483647, 0)) hx hb htl inX6 hown hK hG ht_a0 (by decide) tk_no rfl 7 (by decide) (htl _ mw_496) (fun _ h9 => h9) rfl hf11 dX6_readOwner_55 ?_
          refine lv_istore_n (lv' := [(3, .int v12), (2, .int v3), (0, .ref a0), (1, .int p1)]) hx hb dX6_readOwner_58 rfl hl (by decide) rfl (fun ls hl => ?_)
          refine lv_aload_n hx hb dX6_readOwner_59 rfl (lv_at hl 2 rfl) ?_
          refine tk_Vv (As := []) (rest := []) (ci := 6) ⟨hx, hb, hml, hown, hts⟩ hK hG hZ hS (k_X6_step l D cy ld t a0 g9 ht_a0 (by omega) (by omega)) hg_0 ⟨callB_of 0 hts (wl_in mw_494) rfl rfl rfl (htl _ mw_36) (htl _ mw_491) hd_yX6_step ⟨(Nat.le_of_ble_eq_true rfl), (Nat.le_of_ble_eq_true rfl)⟩, htl _ mw_492, htl _ mw_493⟩ ht_a0 (by decide) tk_no rfl (tk_w.pick [0] rfl) rfl hl.1 rfl (Nat.le_of_ble_eq_true rfl) dX6_readOwner_60 ⟨(Nat.le_of_ble_eq_true rfl), (Nat.le_of_ble_eq_true rfl)⟩ (fun H locs hpo hG hS hq9 => ?_)
          have hf15 := hpo
          refine lv_iload_n hx hb dX6_readOwner_63 rfl (lv_at hl 1 rfl) ?_
          refine lv_if_eq (tgt := 71) hx hb dX6_readOwner_64 (by decide) (fun c9 => absurd (show v3.toInt = 0 from (fi_eq rfl (show (0 : Int32).toInt = 0 by decide)).mp c9) (by omega)) (fun _ => ?_)
          refine lv_iconst (v := 5) hx hb dX6_readOwner_67 (by decide) ?_
          refine lv_goto (tgt := 73) hx hb dX6_readOwner_68 (by decide) ?_
          refine lv_iload_n hx hb dX6_readOwner_73 rfl (lv_at hl 0 rfl) ?_
          refine lv_iadd hx hb dX6_readOwner_74 ?_
          refine tk_add (show (5 : Int32).toInt = 5 by decide) rfl (by omega) (by omega) (fun v16 h_v16 => ?_)
          exact tk_iret (v := v16) hx hb hr rfl hlocks (show tk_f D H a0 6 9 (.int g9) from hf15) hG hS dX6_readOwner_75
        · have hc13 : ¬ (v12.toInt ≤ 7) := fun h9 => c9 ((fi_le rfl (show (7 : Int32).toInt = 7 by decide)).mpr h9)
          refine lv_aload_n hx hb dX6_readOwner_48 rfl (lv_at hl 1 rfl) ?_
          refine tk_Vv (As := []) (rest := []) (ci := 6) ⟨hx, hb, hml, hown, hts⟩ hK hG hZ hS (k_X6_fail l D cy ld t a0 g9 ht_a0 (by omega) (by omega)) hg_0 ⟨callB_of 0 hts (wl_in mw_507) rfl rfl rfl (htl _ mw_36) (htl _ mw_504) hd_yX6_fail ⟨(Nat.le_of_ble_eq_true rfl), (Nat.le_of_ble_eq_true rfl)⟩, htl _ mw_505, htl _ mw_506⟩ ht_a0 (by decide) tk_no rfl (tk_w.pick [0] rfl) rfl hl.1 rfl (Nat.le_of_ble_eq_true rfl) dX6_readOwner_49 ⟨(Nat.le_of_ble_eq_true rfl), (Nat.le_of_ble_eq_true rfl)⟩ (fun H locs hpo hG hS hq9 => ?_)
          have hf18 := hpo
          refine lv_iload_n hx hb dX6_readOwner_52 rfl (lv_at hl 2 rfl) ?_
          exact tk_iret (v := p1) hx hb hr rfl hlocks (show tk_f D H a0 6 9 (.int g9) from hf18) hG hS dX6_readOwner_53
    · have hc5 : v3.toInt = 0 := (fi_eq rfl (show (0 : Int32).toInt = 0 by decide)).mp c9
      refine lv_iload_n hx hb dX6_readOwner_15 rfl (lv_at hl 2 rfl) ?_
      refine lv_bipush (v := 6) hx hb dX6_readOwner_16 (by decide) ?_
      refine lv_icmp_eq (tgt := 23) hx hb dX6_readOwner_18 (by decide) (fun c9 => ?_) (fun c9 => ?_)
      · have hc19 : p1.toInt = 6 := (fi_eq rfl (show (6 : Int32).toInt = 6 by decide)).mp c9
        refine lv_aload_n hx hb dX6_readOwner_23 rfl (lv_at hl 1 rfl) ?_
        refine tk_get (ci := 6) (C := RX6) (T := TX6) (N := 11) (sp := (0, (-2147483648), 2147483647, 0)) hx hb htl inX6 hown hK hG ht_a0 (by decide) tk_no rfl 6 (by decide) (htl _ mw_482) (fun _ h9 => h9) rfl dX6_readOwner_24 (fun v9 hf20 hV9 => ?_)
        obtain ⟨v21, rfl, (ha_v21 : (-2147483648) ≤ v21.toInt), (hb_v21 : v21.toInt ≤ 2147483647)⟩ := hV9
        refine lv_iconst (v := 2) hx hb dX6_readOwner_27 (by decide) ?_
        refine lv_icmp_ne (tgt := 48) hx hb dX6_readOwner_28 (by decide) (fun c9 => ?_) (fun c9 => ?_)
        · have hc22 : ¬ (v21.toInt = 2) := fun h9 => c9 ((fi_eq rfl (show (2 : Int32).toInt = 2 by decide)).mpr h9)
          refine lv_aload_n hx hb dX6_readOwner_48 rfl (lv_at hl 1 rfl) ?_
          refine tk_Vv (As := []) (rest := []) (ci := 6) ⟨hx, hb, hml, hown, hts⟩ hK hG hZ hS (k_X6_fail l D cy ld t a0 g9 ht_a0 (by omega) (by omega)) hg_0 ⟨callB_of 0 hts (wl_in mw_507) rfl rfl rfl (htl _ mw_36) (htl _ mw_504) hd_yX6_fail ⟨(Nat.le_of_ble_eq_true rfl), (Nat.le_of_ble_eq_true rfl)⟩, htl _ mw_505, htl _ mw_506⟩ ht_a0 (by decide) tk_no rfl (tk_w.pick [0] rfl) rfl hl.1 rfl (Nat.le_of_ble_eq_true rfl) dX6_readOwner_49 ⟨(Nat.le_of_ble_eq_true rfl), (Nat.le_of_ble_eq_true rfl)⟩ (fun H locs hpo hG hS hq9 => ?_)
          have hf24 := hpo
          refine lv_iload_n hx hb dX6_readOwner_52 rfl (lv_at hl 2 rfl) ?_
          exact tk_iret (v := p1) hx hb hr rfl hlocks (show tk_f D H a0 6 9 (.int g9) from hf24) hG hS dX6_readOwner_53
        · have hc22 : v21.toInt = 2 := (fi_eq rfl (show (2 : Int32).toInt = 2 by decide)).mp c9
          refine lv_aload_n hx hb dX6_readOwner_31 rfl (lv_at hl 1 rfl) ?_
          refine tk_get (ci := 6) (C := RX6) (T := TX6) (N := 11) (sp := (0, (-2147483648), 2147483647, 0)) hx hb htl inX6 hown hK hG ht_a0 (by decide) tk_no rfl 7 (by decide) (htl _ mw_496) (fun _ h9 => h9) rfl dX6_readOwner_32 (fun v9 hf25 hV9 => ?_)
          obtain ⟨v26, rfl, (ha_v26 : (-2147483648) ≤ v26.toInt), (hb_v26 : v26.toInt ≤ 2147483647)⟩ := hV9
          refine lv_iload_n hx hb dX6_readOwner_35 rfl (lv_at hl 0 rfl) ?_
          refine lv_if_eq (tgt := 44) hx hb dX6_readOwner_36 (by decide) (fun _ => ?_) (fun c9 => absurd ((fi_eq rfl (show (0 : Int32).toInt = 0 by decide)).mpr (show v3.toInt = 0 by omega)) c9)
          refine lv_iconst (v := 1) hx hb dX6_readOwner_44 (by decide) ?_
          refine lv_icmp_le (tgt := 54) hx hb dX6_readOwner_45 (by decide) (fun c9 => ?_) (fun c9 => ?_)
          · have hc27 : v26.toInt ≤ 1 := (fi_le rfl (show (1 : Int32).toInt = 1 by decide)).mp c9
            refine lv_aload_n hx hb dX6_readOwner_54 rfl (lv_at hl 1 rfl) ?_
            refine tk_getk (ci := 6) (C := RX6) (T := TX6) (N := 11) (sp := (0, (-2147483648), 2147483647, 0)) hx hb htl inX6 hown hK hG ht_a0 (by decide) tk_no rfl 7 (by decide) (htl _ mw_496) (fun _ h9 => h9) rfl hf25 dX6_readOwner_55 ?_
            refine lv_istore_n (lv' := [(3, .int v26), (2, .int v3), (0, .ref a0), (1, .int p1)]) hx hb dX6_readOwner_58 rfl hl (by decide) rfl (fun ls hl => ?_)
            refine lv_aload_n hx hb dX6_readOwner_59 rfl (lv_at hl 2 rfl) ?_
            refine tk_Vv (As := []) (rest := []) (ci := 6) ⟨hx, hb, hml, hown, hts⟩ hK hG hZ hS (k_X6_step l D cy ld t a0 g9 ht_a0 (by omega) (by omega)) hg_0 ⟨callB_of 0 hts (wl_in mw_494) rfl rfl rfl (htl _ mw_36) (htl _ mw_491) hd_yX6_step ⟨(Nat.le_of_ble_eq_true rfl), (Nat.le_of_ble_eq_true rfl)⟩, htl _ mw_492, htl _ mw_493⟩ ht_a0 (by decide) tk_no rfl (tk_w.pick [0] rfl) rfl hl.1 rfl (Nat.le_of_ble_eq_true rfl) dX6_readOwner_60 ⟨(Nat.le_of_ble_eq_true rfl), (Nat.le_of_ble_eq_true rfl)⟩ (fun H locs hpo hG hS hq9 => ?_)
            have hf29 := hpo
            refine lv_iload_n hx hb dX6_readOwner_63 rfl (lv_at hl 1 rfl) ?_
            refine lv_if_eq (tgt := 71) hx hb dX6_readOwner_64 (by decide) (fun _ => ?_) (fun c9 => absurd ((fi_eq rfl (show (0 : Int32).toInt = 0 by decide)).mpr (show v3.toInt = 0 by omega)) c9)
            refine lv_bipush (v := 13) hx hb dX6_readOwner_71 (by decide) ?_
            refine lv_iload_n hx hb dX6_readOwner_73 rfl (lv_at hl 0 rfl) ?_
            refine lv_iadd hx hb dX6_readOwner_74 ?_
            refine tk_add (show (13 : Int32).toInt = 13 by decide) rfl (by omega) (by omega) (fun v30 h_v30 => ?_)
            exact tk_iret (v := v30) hx hb hr rfl hlocks (show tk_f D H a0 6 9 (.int g9) from hf29) hG hS dX6_readOwner_75
          · have hc27 : ¬ (v26.toInt ≤ 1) := fun h9 => c9 ((fi_le rfl (show (1 : Int32).toInt = 1 by decide)).mpr h9)
            refine lv_aload_n hx hb dX6_readOwner_48 rfl (lv_at hl 1 rfl) ?_
            refine tk_Vv (As := []) (rest := []) (ci := 6) ⟨hx, hb, hml, hown, hts⟩ hK hG hZ hS (k_X6_fail l D cy ld t a0 g9 ht_a0 (by omega) (by omega)) hg_0 ⟨callB_of 0 hts (wl_in mw_507) rfl rfl rfl (htl _ mw_36) (htl _ mw_504) hd_yX6_fail ⟨(Nat.le_of_ble_eq_true rfl), (Nat.le_of_ble_eq_true rfl)⟩, htl _ mw_505, htl _ mw_506⟩ ht_a0 (by decide) tk_no rfl (tk_w.pick [0] rfl) rfl hl.1 rfl (Nat.le_of_ble_eq_true rfl) dX6_readOwner_49 ⟨(Nat.le_of_ble_eq_true rfl), (Nat.le_of_ble_eq_true rfl)⟩ (fun H locs hpo hG hS hq9 => ?_)
            have hf32 := hpo
            refine lv_iload_n hx hb dX6_readOwner_52 rfl (lv_at hl 2 rfl) ?_
            exact tk_iret (v := p1) hx hb hr rfl hlocks (show tk_f D H a0 6 9 (.int g9) from hf32) hG hS dX6_readOwner_53
      · have hc19 : ¬ (p1.toInt = 6) := fun h9 => c9 ((fi_eq rfl (show (6 : Int32).toInt = 6 by decide)).mpr h9)
        refine lv_iload_n hx hb dX6_readOwner_21 rfl (lv_at hl 2 rfl) ?_
        exact tk_iret (v := p1) hx hb hr rfl hlocks (show tk_f D H a0 6 9 (.int g9) from hg_0) hG hS dX6_readOwner_22
  refine lv_icmp_ne (tgt := 9) hx hb dX6_readOwner_2 (by decide) (fun c9 => ?_) (fun c9 => ?_)
  · have hc1 : ¬ (p1.toInt = 5) := fun h9 => c9 ((fi_eq rfl (show (5 : Int32).toInt = 5 by decide)).mpr h9)
    refine lv_iconst (v := 0) hx hb dX6_readOwner_9 (by decide) ?_
    have hk_0 : (0 : Int32).toInt = 0 := by decide
    exact hj4 0 (by omega) (by omega) _ (lv_sub hl [0, 1] rfl)
  · have hc1 : p1.toInt = 5 := (fi_eq rfl (show (5 : Int32).toInt = 5 by decide)).mp c9
    refine lv_iconst (v := 1) hx hb dX6_readOwner_5 (by decide) ?_
    refine lv_goto (tgt := 10) hx hb dX6_readOwner_6 (by decide) ?_
    have hk_1 : (1 : Int32).toInt = 1 := by decide
    exact hj4 1 (by omega) (by omega) _ (lv_sub hl [0, 1] rfl)
set_option maxHeartbeats 4000000 in
set_option maxRecDepth 100000 in
theorem k_X6_goDeeper_1 (l : Launch) (D : va_G) (cy : Nat → ClassId) (ld : Nat → Nat) (t : tk_T) (a0 : Nat) (ht_a0 : t a0 = (7, 0, 0)) : Met l yX6_goDeeper (wl yX6_goDeeper cX6_goDeeper 1 (some .boolean)) ({ frames := 5, cells := 0, slots := 0, locals := 280 }) (tp D cy ld t [] [.ref a0] (fun H => tk_f D H a0 6 9 (.int 1))) (ti D cy ld t [] (fun r H => r.toInt + (-1) = 0 ∧ 0 ≤ r.toInt ∧ r.toInt ≤ 1 ∧ tk_f D H a0 6 9 (.int 2)) (tk_w t [(7, 0, 0)])) 0 0 (tk_w t [(7, 0, 0)]) := by
  refine tk_met (y := yX6_goDeeper) (cc := cX6_goDeeper) (maxL := 1) (ret := (some .boolean)) (av := [.ref a0]) _ _ (by decide) (Nat.le_of_ble_eq_true rfl) ?_
  intro p e s m args below meth c hx hb hr hml hts htl hown hlocks hK H locs hH hG hS hB hZ ls hl
  have hown : s.vm.findClass RX6 = some m.cls := hown
  have hl : lv_has ls 1 [(0, .ref a0)] := hl
  have hg_0 := hB
  refine lv_aload_n hx hb dX6_goDeeper_0 rfl (lv_at hl 0 rfl) ?_
  refine tk_getk (ci := 6) (C := RX6) (T := TX6) (N := 11) (sp := (0, 0, 8, 0)) hx hb htl inX6 hown hK hG ht_a0 (by decide) tk_no rfl 9 (by decide) (htl _ mw_480) (fun _ h9 => h9) rfl hg_0 dX6_goDeeper_1 ?_
  refine lv_bipush (v := 8) hx hb dX6_goDeeper_4 (by decide) ?_
  refine lv_icmp_lt (tgt := 15) hx hb dX6_goDeeper_6 (by decide) (fun _ => ?_) (fun c9 => absurd (by decide) c9)
  refine lv_aload_n hx hb dX6_goDeeper_15 rfl (lv_at hl 0 rfl) ?_
  refine lv_dup hx hb dX6_goDeeper_16 rfl ?_
  refine tk_getk (ci := 6) (C := RX6) (T := TX6) (N := 11) (sp := (0, 0, 8, 0)) hx hb htl inX6 hown hK hG ht_a0 (by decide) tk_no rfl 9 (by decide) (htl _ mw_480) (fun _ h9 => h9) rfl hg_0 dX6_goDeeper_17 ?_
  refine lv_iconst (v := 1) hx hb dX6_goDeeper_20 (by decide) ?_
  refine lv_iadd hx hb dX6_goDeeper_21 ?_
  refine fx_ti (v := 2) (by decide) ?_
  refine tk_put (ci := 6) (v := .int 2) (ty := .int) (C := RX6) (T := TX6) (N := 11) (sp := (0, 0, 8, 0)) hx hb htl inX6 tyX6 tyX6_ok nmX6 hown hK hG hS ht_a0 (by decide) tk_no rfl 9 (by decide) (htl _ mw_480) (fun _ h9 => h9) rfl (tyX6_ok 9 (by decide)) rfl rfl rfl (tk_V0 (by decide) (by decide)) (fun _ h => tk_X7 h (by decide) (by decide)) (tk_w.of ht_a0 (by decide) (List.mem_of_getElem? (i := 0) rfl) (Nat.le_refl _) (Nat.le_refl _)) dX6_goDeeper_22 (fun H locs hG hS hf1 hq9 hj9 => ?_)
  refine lv_aload_n hx hb dX6_goDeeper_25 rfl (lv_at hl 0 rfl) ?_
  have hk_2 : (2 : Int32).toInt = 2 := by decide
  refine tk_Vv (As := []) (rest := []) (ci := 6) ⟨hx, hb, hml, hown, hts⟩ hK hG hZ hS (k_X6_step l D cy ld t a0 2 ht_a0 (by omega) (by omega)) hf1 ⟨callB_of 0 hts (wl_in mw_494) rfl rfl rfl (htl _ mw_36) (htl _ mw_491) hd_yX6_step ⟨(Nat.le_of_ble_eq_true rfl), (Nat.le_of_ble_eq_true rfl)⟩, htl _ mw_492, htl _ mw_493⟩ ht_a0 (by decide) tk_no rfl (tk_w.pick [0] rfl) rfl hl.1 rfl (Nat.le_of_ble_eq_true rfl) dX6_goDeeper_26 ⟨(Nat.le_of_ble_eq_true rfl), (Nat.le_of_ble_eq_true rfl)⟩ (fun H locs hpo hG hS hq9 => ?_)
  have hf4 := hpo
  refine lv_iconst (v := 1) hx hb dX6_goDeeper_29 (by decide) ?_
  have hk_1 : (1 : Int32).toInt = 1 := by decide
  exact tk_iret (v := 1) hx hb hr rfl hlocks (show (1 : Int32).toInt + (-1) = 0 ∧ 0 ≤ (1 : Int32).toInt ∧ (1 : Int32).toInt ≤ 1 ∧ tk_f D H a0 6 9 (.int 2) from ⟨(by omega), (by omega), (by omega), hf4⟩) hG hS dX6_goDeeper_30
set_option maxHeartbeats 4000000 in
set_option maxRecDepth 100000 in
theorem k_X6_goDeeper_2 (l : Launch) (D : va_G) (cy : Nat → ClassId) (ld : Nat → Nat) (t : tk_T) (a0 : Nat) (ht_a0 : t a0 = (7, 0, 0)) : Met l yX6_goDeeper (wl yX6_goDeeper cX6_goDeeper 1 (some .boolean)) ({ frames := 5, cells := 0, slots := 0, locals := 280 }) (tp D cy ld t [] [.ref a0] (fun H => tk_f D H a0 6 9 (.int 2))) (ti D cy ld t [] (fun r H => r.toInt + (-1) = 0 ∧ 0 ≤ r.toInt ∧ r.toInt ≤ 1 ∧ tk_f D H a0 6 9 (.int 3)) (tk_w t [(7, 0, 0)])) 0 0 (tk_w t [(7, 0, 0)]) := by
  refine tk_met (y := yX6_goDeeper) (cc := cX6_goDeeper) (maxL := 1) (ret := (some .boolean)) (av := [.ref a0]) _ _ (by decide) (Nat.le_of_ble_eq_true rfl) ?_
  intro p e s m args below meth c hx hb hr hml hts htl hown hlocks hK H locs hH hG hS hB hZ ls hl
  have hown : s.vm.findClass RX6 = some m.cls := hown
  have hl : lv_has ls 1 [(0, .ref a0)] := hl
  have hg_0 := hB
  refine lv_aload_n hx hb dX6_goDeeper_0 rfl (lv_at hl 0 rfl) ?_
  refine tk_getk (ci := 6) (C := RX6) (T := TX6) (N := 11) (sp := (0, 0, 8, 0)) hx hb htl inX6 hown hK hG ht_a0 (by decide) tk_no rfl 9 (by decide) (htl _ mw_480) (fun _ h9 => h9) rfl hg_0 dX6_goDeeper_1 ?_
  refine lv_bipush (v := 8) hx hb dX6_goDeeper_4 (by decide) ?_
  refine lv_icmp_lt (tgt := 15) hx hb dX6_goDeeper_6 (by decide) (fun _ => ?_) (fun c9 => absurd (by decide) c9)
  refine lv_aload_n hx hb dX6_goDeeper_15 rfl (lv_at hl 0 rfl) ?_
  refine lv_dup hx hb dX6_goDeeper_16 rfl ?_
  refine tk_getk (ci := 6) (C := RX6) (T := TX6) (N := 11) (sp := (0, 0, 8, 0)) hx hb htl inX6 hown hK hG ht_a0 (by decide) tk_no rfl 9 (by decide) (htl _ mw_480) (fun _ h9 => h9) rfl hg_0 dX6_goDeeper_17 ?_
  refine lv_iconst (v := 1) hx hb dX6_goDeeper_20 (by decide) ?_
  refine lv_iadd hx hb dX6_goDeeper_21 ?_
  refine fx_ti (v := 3) (by decide) ?_
  refine tk_put (ci := 6) (v := .int 3) (ty := .int) (C := RX6) (T := TX6) (N := 11) (sp := (0, 0, 8, 0)) hx hb htl inX6 tyX6 tyX6_ok nmX6 hown hK hG hS ht_a0 (by decide) tk_no rfl 9 (by decide) (htl _ mw_480) (fun _ h9 => h9) rfl (tyX6_ok 9 (by decide)) rfl rfl rfl (tk_V0 (by decide) (by decide)) (fun _ h => tk_X7 h (by decide) (by decide)) (tk_w.of ht_a0 (by decide) (List.mem_of_getElem? (i := 0) rfl) (Nat.le_refl _) (Nat.le_refl _)) dX6_goDeeper_22 (fun H locs hG hS hf1 hq9 hj9 => ?_)
  refine lv_aload_n hx hb dX6_goDeeper_25 rfl (lv_at hl 0 rfl) ?_
  have hk_3 : (3 : Int32).toInt = 3 := by decide
  refine tk_Vv (As := []) (rest := []) (ci := 6) ⟨hx, hb, hml, hown, hts⟩ hK hG hZ hS (k_X6_step l D cy ld t a0 3 ht_a0 (by omega) (by omega)) hf1 ⟨callB_of 0 hts (wl_in mw_494) rfl rfl rfl (htl _ mw_36) (htl _ mw_491) hd_yX6_step ⟨(Nat.le_of_ble_eq_true rfl), (Nat.le_of_ble_eq_true rfl)⟩, htl _ mw_492, htl _ mw_493⟩ ht_a0 (by decide) tk_no rfl (tk_w.pick [0] rfl) rfl hl.1 rfl (Nat.le_of_ble_eq_true rfl) dX6_goDeeper_26 ⟨(Nat.le_of_ble_eq_true rfl), (Nat.le_of_ble_eq_true rfl)⟩ (fun H locs hpo hG hS hq9 => ?_)
  have hf4 := hpo
  refine lv_iconst (v := 1) hx hb dX6_goDeeper_29 (by decide) ?_
  have hk_1 : (1 : Int32).toInt = 1 := by decide
  exact tk_iret (v := 1) hx hb hr rfl hlocks (show (1 : Int32).toInt + (-1) = 0 ∧ 0 ≤ (1 : Int32).toInt ∧ (1 : Int32).toInt ≤ 1 ∧ tk_f D H a0 6 9 (.int 3) from ⟨(by omega), (by omega), (by omega), hf4⟩) hG hS dX6_goDeeper_30
set_option maxHeartbeats 4000000 in
set_option maxRecDepth 100000 in
theorem k_X6_goDeeper_3 (l : Launch) (D : va_G) (cy : Nat → ClassId) (ld : Nat → Nat) (t : tk_T) (a0 : Nat) (ht_a0 : t a0 = (7, 0, 0)) : Met l yX6_goDeeper (wl yX6_goDeeper cX6_goDeeper 1 (some .boolean)) ({ frames := 5, cells := 0, slots := 0, locals := 280 }) (tp D cy ld t [] [.ref a0] (fun H => tk_f D H a0 6 9 (.int 3))) (ti D cy ld t [] (fun r H => r.toInt + (-1) = 0 ∧ 0 ≤ r.toInt ∧ r.toInt ≤ 1 ∧ tk_f D H a0 6 9 (.int 4)) (tk_w t [(7, 0, 0)])) 0 0 (tk_w t [(7, 0, 0)]) := by
  refine tk_met (y := yX6_goDeeper) (cc := cX6_goDeeper) (maxL := 1) (ret := (some .boolean)) (av := [.ref a0]) _ _ (by decide) (Nat.le_of_ble_eq_true rfl) ?_
  intro p e s m args below meth c hx hb hr hml hts htl hown hlocks hK H locs hH hG hS hB hZ ls hl
  have hown : s.vm.findClass RX6 = some m.cls := hown
  have hl : lv_has ls 1 [(0, .ref a0)] := hl
  have hg_0 := hB
  refine lv_aload_n hx hb dX6_goDeeper_0 rfl (lv_at hl 0 rfl) ?_
  refine tk_getk (ci := 6) (C := RX6) (T := TX6) (N := 11) (sp := (0, 0, 8, 0)) hx hb htl inX6 hown hK hG ht_a0 (by decide) tk_no rfl 9 (by decide) (htl _ mw_480) (fun _ h9 => h9) rfl hg_0 dX6_goDeeper_1 ?_
  refine lv_bipush (v := 8) hx hb dX6_goDeeper_4 (by decide) ?_
  refine lv_icmp_lt (tgt := 15) hx hb dX6_goDeeper_6 (by decide) (fun _ => ?_) (fun c9 => absurd (by decide) c9)
  refine lv_aload_n hx hb dX6_goDeeper_15 rfl (lv_at hl 0 rfl) ?_
  refine lv_dup hx hb dX6_goDeeper_16 rfl ?_
  refine tk_getk (ci := 6) (C := RX6) (T := TX6) (N := 11) (sp := (0, 0, 8, 0)) hx hb htl inX6 hown hK hG ht_a0 (by decide) tk_no rfl 9 (by decide) (htl _ mw_480) (fun _ h9 => h9) rfl hg_0 dX6_goDeeper_17 ?_
  refine lv_iconst (v := 1) hx hb dX6_goDeeper_20 (by decide) ?_
  refine lv_iadd hx hb dX6_goDeeper_21 ?_
  refine fx_ti (v := 4) (by decide) ?_
  refine tk_put (ci := 6) (v := .int 4) (ty := .int) (C := RX6) (T := TX6) (N := 11) (sp := (0, 0, 8, 0)) hx hb htl inX6 tyX6 tyX6_ok nmX6 hown hK hG hS ht_a0 (by decide) tk_no rfl 9 (by decide) (htl _ mw_480) (fun _ h9 => h9) rfl (tyX6_ok 9 (by decide)) rfl rfl rfl (tk_V0 (by decide) (by decide)) (fun _ h => tk_X7 h (by decide) (by decide)) (tk_w.of ht_a0 (by decide) (List.mem_of_getElem? (i := 0) rfl) (Nat.le_refl _) (Nat.le_refl _)) dX6_goDeeper_22 (fun H locs hG hS hf1 hq9 hj9 => ?_)
  refine lv_aload_n hx hb dX6_goDeeper_25 rfl (lv_at hl 0 rfl) ?_
  have hk_4 : (4 : Int32).toInt = 4 := by decide
  refine tk_Vv (As := []) (rest := []) (ci := 6) ⟨hx, hb, hml, hown, hts⟩ hK hG hZ hS (k_X6_step l D cy ld t a0 4 ht_a0 (by omega) (by omega)) hf1 ⟨callB_of 0 hts (wl_in mw_494) rfl rfl rfl (htl _ mw_36) (htl _ mw_491) hd_yX6_step ⟨(Nat.le_of_ble_eq_true rfl), (Nat.le_of_ble_eq_true rfl)⟩, htl _ mw_492, htl _ mw_493⟩ ht_a0 (by decide) tk_no rfl (tk_w.pick [0] rfl) rfl hl.1 rfl (Nat.le_of_ble_eq_true rfl) dX6_goDeeper_26 ⟨(Nat.le_of_ble_eq_true rfl), (Nat.le_of_ble_eq_true rfl)⟩ (fun H locs hpo hG hS hq9 => ?_)
  have hf4 := hpo
  refine lv_iconst (v := 1) hx hb dX6_goDeeper_29 (by decide) ?_
  have hk_1 : (1 : Int32).toInt = 1 := by decide
  exact tk_iret (v := 1) hx hb hr rfl hlocks (show (1 : Int32).toInt + (-1) = 0 ∧ 0 ≤ (1 : Int32).toInt ∧ (1 : Int32).toInt ≤ 1 ∧ tk_f D H a0 6 9 (.int 4) from ⟨(by omega), (by omega), (by omega), hf4⟩) hG hS dX6_goDeeper_30
set_option maxHeartbeats 4000000 in
set_option maxRecDepth 100000 in
theorem k_X6_goDeeper_4 (l : Launch) (D : va_G) (cy : Nat → ClassId) (ld : Nat → Nat) (t : tk_T) (a0 : Nat) (ht_a0 : t a0 = (7, 0, 0)) : Met l yX6_goDeeper (wl yX6_goDeeper cX6_goDeeper 1 (some .boolean)) ({ frames := 5, cells := 0, slots := 0, locals := 280 }) (tp D cy ld t [] [.ref a0] (fun H => tk_f D H a0 6 9 (.int 4))) (ti D cy ld t [] (fun r H => r.toInt + (-1) = 0 ∧ 0 ≤ r.toInt ∧ r.toInt ≤ 1 ∧ tk_f D H a0 6 9 (.int 5)) (tk_w t [(7, 0, 0)])) 0 0 (tk_w t [(7, 0, 0)]) := by
  refine tk_met (y := yX6_goDeeper) (cc := cX6_goDeeper) (maxL := 1) (ret := (some .boolean)) (av := [.ref a0]) _ _ (by decide) (Nat.le_of_ble_eq_true rfl) ?_
  intro p e s m args below meth c hx hb hr hml hts htl hown hlocks hK H locs hH hG hS hB hZ ls hl
  have hown : s.vm.findClass RX6 = some m.cls := hown
  have hl : lv_has ls 1 [(0, .ref a0)] := hl
  have hg_0 := hB
  refine lv_aload_n hx hb dX6_goDeeper_0 rfl (lv_at hl 0 rfl) ?_
  refine tk_getk (ci := 6) (C := RX6) (T := TX6) (N := 11) (sp := (0, 0, 8, 0)) hx hb htl inX6 hown hK hG ht_a0 (by decide) tk_no rfl 9 (by decide) (htl _ mw_480) (fun _ h9 => h9) rfl hg_0 dX6_goDeeper_1 ?_
  refine lv_bipush (v := 8) hx hb dX6_goDeeper_4 (by decide) ?_
  refine lv_icmp_lt (tgt := 15) hx hb dX6_goDeeper_6 (by decide) (fun _ => ?_) (fun c9 => absurd (by decide) c9)
  refine lv_aload_n hx hb dX6_goDeeper_15 rfl (lv_at hl 0 rfl) ?_
  refine lv_dup hx hb dX6_goDeeper_16 rfl ?_
  refine tk_getk (ci := 6) (C := RX6) (T := TX6) (N := 11) (sp := (0, 0, 8, 0)) hx hb htl inX6 hown hK hG ht_a0 (by decide) tk_no rfl 9 (by decide) (htl _ mw_480) (fun _ h9 => h9) rfl hg_0 dX6_goDeeper_17 ?_
  refine lv_iconst (v := 1) hx hb dX6_goDeeper_20 (by decide) ?_
  refine lv_iadd hx hb dX6_goDeeper_21 ?_
  refine fx_ti (v := 5) (by decide) ?_
  refine tk_put (ci := 6) (v := .int 5) (ty := .int) (C := RX6) (T := TX6) (N := 11) (sp := (0, 0, 8, 0)) hx hb htl inX6 tyX6 tyX6_ok nmX6 hown hK hG hS ht_a0 (by decide) tk_no rfl 9 (by decide) (htl _ mw_480) (fun _ h9 => h9) rfl (tyX6_ok 9 (by decide)) rfl rfl rfl (tk_V0 (by decide) (by decide)) (fun _ h => tk_X7 h (by decide) (by decide)) (tk_w.of ht_a0 (by decide) (List.mem_of_getElem? (i := 0) rfl) (Nat.le_refl _) (Nat.le_refl _)) dX6_goDeeper_22 (fun H locs hG hS hf1 hq9 hj9 => ?_)
  refine lv_aload_n hx hb dX6_goDeeper_25 rfl (lv_at hl 0 rfl) ?_
  have hk_5 : (5 : Int32).toInt = 5 := by decide
  refine tk_Vv (As := []) (rest := []) (ci := 6) ⟨hx, hb, hml, hown, hts⟩ hK hG hZ hS (k_X6_step l D cy ld t a0 5 ht_a0 (by omega) (by omega)) hf1 ⟨callB_of 0 hts (wl_in mw_494) rfl rfl rfl (htl _ mw_36) (htl _ mw_491) hd_yX6_step ⟨(Nat.le_of_ble_eq_true rfl), (Nat.le_of_ble_eq_true rfl)⟩, htl _ mw_492, htl _ mw_493⟩ ht_a0 (by decide) tk_no rfl (tk_w.pick [0] rfl) rfl hl.1 rfl (Nat.le_of_ble_eq_true rfl) dX6_goDeeper_26 ⟨(Nat.le_of_ble_eq_true rfl), (Nat.le_of_ble_eq_true rfl)⟩ (fun H locs hpo hG hS hq9 => ?_)
  have hf4 := hpo
  refine lv_iconst (v := 1) hx hb dX6_goDeeper_29 (by decide) ?_
  have hk_1 : (1 : Int32).toInt = 1 := by decide
  exact tk_iret (v := 1) hx hb hr rfl hlocks (show (1 : Int32).toInt + (-1) = 0 ∧ 0 ≤ (1 : Int32).toInt ∧ (1 : Int32).toInt ≤ 1 ∧ tk_f D H a0 6 9 (.int 5) from ⟨(by omega), (by omega), (by omega), hf4⟩) hG hS dX6_goDeeper_30
set_option maxHeartbeats 4000000 in
set_option maxRecDepth 100000 in
theorem k_X6_goDeeper_5 (l : Launch) (D : va_G) (cy : Nat → ClassId) (ld : Nat → Nat) (t : tk_T) (a0 : Nat) (ht_a0 : t a0 = (7, 0, 0)) : Met l yX6_goDeeper (wl yX6_goDeeper cX6_goDeeper 1 (some .boolean)) ({ frames := 5, cells := 0, slots := 0, locals := 280 }) (tp D cy ld t [] [.ref a0] (fun H => tk_f D H a0 6 9 (.int 5))) (ti D cy ld t [] (fun r H => r.toInt + (-1) = 0 ∧ 0 ≤ r.toInt ∧ r.toInt ≤ 1 ∧ tk_f D H a0 6 9 (.int 6)) (tk_w t [(7, 0, 0)])) 0 0 (tk_w t [(7, 0, 0)]) := by
  refine tk_met (y := yX6_goDeeper) (cc := cX6_goDeeper) (maxL := 1) (ret := (some .boolean)) (av := [.ref a0]) _ _ (by decide) (Nat.le_of_ble_eq_true rfl) ?_
  intro p e s m args below meth c hx hb hr hml hts htl hown hlocks hK H locs hH hG hS hB hZ ls hl
  have hown : s.vm.findClass RX6 = some m.cls := hown
  have hl : lv_has ls 1 [(0, .ref a0)] := hl
  have hg_0 := hB
  refine lv_aload_n hx hb dX6_goDeeper_0 rfl (lv_at hl 0 rfl) ?_
  refine tk_getk (ci := 6) (C := RX6) (T := TX6) (N := 11) (sp := (0, 0, 8, 0)) hx hb htl inX6 hown hK hG ht_a0 (by decide) tk_no rfl 9 (by decide) (htl _ mw_480) (fun _ h9 => h9) rfl hg_0 dX6_goDeeper_1 ?_
  refine lv_bipush (v := 8) hx hb dX6_goDeeper_4 (by decide) ?_
  refine lv_icmp_lt (tgt := 15) hx hb dX6_goDeeper_6 (by decide) (fun _ => ?_) (fun c9 => absurd (by decide) c9)
  refine lv_aload_n hx hb dX6_goDeeper_15 rfl (lv_at hl 0 rfl) ?_
  refine lv_dup hx hb dX6_goDeeper_16 rfl ?_
  refine tk_getk (ci := 6) (C := RX6) (T := TX6) (N := 11) (sp := (0, 0, 8, 0)) hx hb htl inX6 hown hK hG ht_a0 (by decide) tk_no rfl 9 (by decide) (htl _ mw_480) (fun _ h9 => h9) rfl hg_0 dX6_goDeeper_17 ?_
  refine lv_iconst (v := 1) hx hb dX6_goDeeper_20 (by decide) ?_
  refine lv_iadd hx hb dX6_goDeeper_21 ?_
  refine fx_ti (v := 6) (by decide) ?_
  refine tk_put (ci := 6) (v := .int 6) (ty := .int) (C := RX6) (T := TX6) (N := 11) (sp := (0, 0, 8, 0)) hx hb htl inX6 tyX6 tyX6_ok nmX6 hown hK hG hS ht_a0 (by decide) tk_no rfl 9 (by decide) (htl _ mw_480) (fun _ h9 => h9) rfl (tyX6_ok 9 (by decide)) rfl rfl rfl (tk_V0 (by decide) (by decide)) (fun _ h => tk_X7 h (by decide) (by decide)) (tk_w.of ht_a0 (by decide) (List.mem_of_getElem? (i := 0) rfl) (Nat.le_refl _) (Nat.le_refl _)) dX6_goDeeper_22 (fun H locs hG hS hf1 hq9 hj9 => ?_)
  refine lv_aload_n hx hb dX6_goDeeper_25 rfl (lv_at hl 0 rfl) ?_
  have hk_6 : (6 : Int32).toInt = 6 := by decide
  refine tk_Vv (As := []) (rest := []) (ci := 6) ⟨hx, hb, hml, hown, hts⟩ hK hG hZ hS (k_X6_step l D cy ld t a0 6 ht_a0 (by omega) (by omega)) hf1 ⟨callB_of 0 hts (wl_in mw_494) rfl rfl rfl (htl _ mw_36) (htl _ mw_491) hd_yX6_step ⟨(Nat.le_of_ble_eq_true rfl), (Nat.le_of_ble_eq_true rfl)⟩, htl _ mw_492, htl _ mw_493⟩ ht_a0 (by decide) tk_no rfl (tk_w.pick [0] rfl) rfl hl.1 rfl (Nat.le_of_ble_eq_true rfl) dX6_goDeeper_26 ⟨(Nat.le_of_ble_eq_true rfl), (Nat.le_of_ble_eq_true rfl)⟩ (fun H locs hpo hG hS hq9 => ?_)
  have hf4 := hpo
  refine lv_iconst (v := 1) hx hb dX6_goDeeper_29 (by decide) ?_
  have hk_1 : (1 : Int32).toInt = 1 := by decide
  exact tk_iret (v := 1) hx hb hr rfl hlocks (show (1 : Int32).toInt + (-1) = 0 ∧ 0 ≤ (1 : Int32).toInt ∧ (1 : Int32).toInt ≤ 1 ∧ tk_f D H a0 6 9 (.int 6) from ⟨(by omega), (by omega), (by omega), hf4⟩) hG hS dX6_goDeeper_30
set_option maxHeartbeats 4000000 in
set_option maxRecDepth 100000 in
theorem k_X6_goDeeper_6 (l : Launch) (D : va_G) (cy : Nat → ClassId) (ld : Nat → Nat) (t : tk_T) (a0 : Nat) (ht_a0 : t a0 = (7, 0, 0)) : Met l yX6_goDeeper (wl yX6_goDeeper cX6_goDeeper 1 (some .boolean)) ({ frames := 5, cells := 0, slots := 0, locals := 280 }) (tp D cy ld t [] [.ref a0] (fun H => tk_f D H a0 6 9 (.int 6))) (ti D cy ld t [] (fun r H => r.toInt + (-1) = 0 ∧ 0 ≤ r.toInt ∧ r.toInt ≤ 1 ∧ tk_f D H a0 6 9 (.int 7)) (tk_w t [(7, 0, 0)])) 0 0 (tk_w t [(7, 0, 0)]) := by
  refine tk_met (y := yX6_goDeeper) (cc := cX6_goDeeper) (maxL := 1) (ret := (some .boolean)) (av := [.ref a0]) _ _ (by decide) (Nat.le_of_ble_eq_true rfl) ?_
  intro p e s m args below meth c hx hb hr hml hts htl hown hlocks hK H locs hH hG hS hB hZ ls hl
  have hown : s.vm.findClass RX6 = some m.cls := hown
  have hl : lv_has ls 1 [(0, .ref a0)] := hl
  have hg_0 := hB
  refine lv_aload_n hx hb dX6_goDeeper_0 rfl (lv_at hl 0 rfl) ?_
  refine tk_getk (ci := 6) (C := RX6) (T := TX6) (N := 11) (sp := (0, 0, 8, 0)) hx hb htl inX6 hown hK hG ht_a0 (by decide) tk_no rfl 9 (by decide) (htl _ mw_480) (fun _ h9 => h9) rfl hg_0 dX6_goDeeper_1 ?_
  refine lv_bipush (v := 8) hx hb dX6_goDeeper_4 (by decide) ?_
  refine lv_icmp_lt (tgt := 15) hx hb dX6_goDeeper_6 (by decide) (fun _ => ?_) (fun c9 => absurd (by decide) c9)
  refine lv_aload_n hx hb dX6_goDeeper_15 rfl (lv_at hl 0 rfl) ?_
  refine lv_dup hx hb dX6_goDeeper_16 rfl ?_
  refine tk_getk (ci := 6) (C := RX6) (T := TX6) (N := 11) (sp := (0, 0, 8, 0)) hx hb htl inX6 hown hK hG ht_a0 (by decide) tk_no rfl 9 (by decide) (htl _ mw_480) (fun _ h9 => h9) rfl hg_0 dX6_goDeeper_17 ?_
  refine lv_iconst (v := 1) hx hb dX6_goDeeper_20 (by decide) ?_
  refine lv_iadd hx hb dX6_goDeeper_21 ?_
  refine fx_ti (v := 7) (by decide) ?_
  refine tk_put (ci := 6) (v := .int 7) (ty := .int) (C := RX6) (T := TX6) (N := 11) (sp := (0, 0, 8, 0)) hx hb htl inX6 tyX6 tyX6_ok nmX6 hown hK hG hS ht_a0 (by decide) tk_no rfl 9 (by decide) (htl _ mw_480) (fun _ h9 => h9) rfl (tyX6_ok 9 (by decide)) rfl rfl rfl (tk_V0 (by decide) (by decide)) (fun _ h => tk_X7 h (by decide) (by decide)) (tk_w.of ht_a0 (by decide) (List.mem_of_getElem? (i := 0) rfl) (Nat.le_refl _) (Nat.le_refl _)) dX6_goDeeper_22 (fun H locs hG hS hf1 hq9 hj9 => ?_)
  refine lv_aload_n hx hb dX6_goDeeper_25 rfl (lv_at hl 0 rfl) ?_
  have hk_7 : (7 : Int32).toInt = 7 := by decide
  refine tk_Vv (As := []) (rest := []) (ci := 6) ⟨hx, hb, hml, hown, hts⟩ hK hG hZ hS (k_X6_step l D cy ld t a0 7 ht_a0 (by omega) (by omega)) hf1 ⟨callB_of 0 hts (wl_in mw_494) rfl rfl rfl (htl _ mw_36) (htl _ mw_491) hd_yX6_step ⟨(Nat.le_of_ble_eq_true rfl), (Nat.le_of_ble_eq_true rfl)⟩, htl _ mw_492, htl _ mw_493⟩ ht_a0 (by decide) tk_no rfl (tk_w.pick [0] rfl) rfl hl.1 rfl (Nat.le_of_ble_eq_true rfl) dX6_goDeeper_26 ⟨(Nat.le_of_ble_eq_true rfl), (Nat.le_of_ble_eq_true rfl)⟩ (fun H locs hpo hG hS hq9 => ?_)
  have hf4 := hpo
  refine lv_iconst (v := 1) hx hb dX6_goDeeper_29 (by decide) ?_
  have hk_1 : (1 : Int32).toInt = 1 := by decide
  exact tk_iret (v := 1) hx hb hr rfl hlocks (show (1 : Int32).toInt + (-1) = 0 ∧ 0 ≤ (1 : Int32).toInt ∧ (1 : Int32).toInt ≤ 1 ∧ tk_f D H a0 6 9 (.int 7) from ⟨(by omega), (by omega), (by omega), hf4⟩) hG hS dX6_goDeeper_30
set_option maxHeartbeats 4000000 in
set_option maxRecDepth 100000 in
theorem k_X6_goDeeper_7 (l : Launch) (D : va_G) (cy : Nat → ClassId) (ld : Nat → Nat) (t : tk_T) (a0 : Nat) (ht_a0 : t a0 = (7, 0, 0)) : Met l yX6_goDeeper (wl yX6_goDeeper cX6_goDeeper 1 (some .boolean)) ({ frames := 5, cells := 0, slots := 0, locals := 280 }) (tp D cy ld t [] [.ref a0] (fun H => tk_f D H a0 6 9 (.int 7))) (ti D cy ld t [] (fun r H => r.toInt + (-1) = 0 ∧ 0 ≤ r.toInt ∧ r.toInt ≤ 1 ∧ tk_f D H a0 6 9 (.int 8)) (tk_w t [(7, 0, 0)])) 0 0 (tk_w t [(7, 0, 0)]) := by
  refine tk_met (y := yX6_goDeeper) (cc := cX6_goDeeper) (maxL := 1) (ret := (some .boolean)) (av := [.ref a0]) _ _ (by decide) (Nat.le_of_ble_eq_true rfl) ?_
  intro p e s m args below meth c hx hb hr hml hts htl hown hlocks hK H locs hH hG hS hB hZ ls hl
  have hown : s.vm.findClass RX6 = some m.cls := hown
  have hl : lv_has ls 1 [(0, .ref a0)] := hl
  have hg_0 := hB
  refine lv_aload_n hx hb dX6_goDeeper_0 rfl (lv_at hl 0 rfl) ?_
  refine tk_getk (ci := 6) (C := RX6) (T := TX6) (N := 11) (sp := (0, 0, 8, 0)) hx hb htl inX6 hown hK hG ht_a0 (by decide) tk_no rfl 9 (by decide) (htl _ mw_480) (fun _ h9 => h9) rfl hg_0 dX6_goDeeper_1 ?_
  refine lv_bipush (v := 8) hx hb dX6_goDeeper_4 (by decide) ?_
  refine lv_icmp_lt (tgt := 15) hx hb dX6_goDeeper_6 (by decide) (fun _ => ?_) (fun c9 => absurd (by decide) c9)
  refine lv_aload_n hx hb dX6_goDeeper_15 rfl (lv_at hl 0 rfl) ?_
  refine lv_dup hx hb dX6_goDeeper_16 rfl ?_
  refine tk_getk (ci := 6) (C := RX6) (T := TX6) (N := 11) (sp := (0, 0, 8, 0)) hx hb htl inX6 hown hK hG ht_a0 (by decide) tk_no rfl 9 (by decide) (htl _ mw_480) (fun _ h9 => h9) rfl hg_0 dX6_goDeeper_17 ?_
  refine lv_iconst (v := 1) hx hb dX6_goDeeper_20 (by decide) ?_
  refine lv_iadd hx hb dX6_goDeeper_21 ?_
  refine fx_ti (v := 8) (by decide) ?_
  refine tk_put (ci := 6) (v := .int 8) (ty := .int) (C := RX6) (T := TX6) (N := 11) (sp := (0, 0, 8, 0)) hx hb htl inX6 tyX6 tyX6_ok nmX6 hown hK hG hS ht_a0 (by decide) tk_no rfl 9 (by decide) (htl _ mw_480) (fun _ h9 => h9) rfl (tyX6_ok 9 (by decide)) rfl rfl rfl (tk_V0 (by decide) (by decide)) (fun _ h => tk_X7 h (by decide) (by decide)) (tk_w.of ht_a0 (by decide) (List.mem_of_getElem? (i := 0) rfl) (Nat.le_refl _) (Nat.le_refl _)) dX6_goDeeper_22 (fun H locs hG hS hf1 hq9 hj9 => ?_)
  refine lv_aload_n hx hb dX6_goDeeper_25 rfl (lv_at hl 0 rfl) ?_
  have hk_8 : (8 : Int32).toInt = 8 := by decide
  refine tk_Vv (As := []) (rest := []) (ci := 6) ⟨hx, hb, hml, hown, hts⟩ hK hG hZ hS (k_X6_step l D cy ld t a0 8 ht_a0 (by omega) (by omega)) hf1 ⟨callB_of 0 hts (wl_in mw_494) rfl rfl rfl (htl _ mw_36) (htl _ mw_491) hd_yX6_step ⟨(Nat.le_of_ble_eq_true rfl), (Nat.le_of_ble_eq_true rfl)⟩, htl _ mw_492, htl _ mw_493⟩ ht_a0 (by decide) tk_no rfl (tk_w.pick [0] rfl) rfl hl.1 rfl (Nat.le_of_ble_eq_true rfl) dX6_goDeeper_26 ⟨(Nat.le_of_ble_eq_true rfl), (Nat.le_of_ble_eq_true rfl)⟩ (fun H locs hpo hG hS hq9 => ?_)
  have hf4 := hpo
  refine lv_iconst (v := 1) hx hb dX6_goDeeper_29 (by decide) ?_
  have hk_1 : (1 : Int32).toInt = 1 := by decide
  exact tk_iret (v := 1) hx hb hr rfl hlocks (show (1 : Int32).toInt + (-1) = 0 ∧ 0 ≤ (1 : Int32).toInt ∧ (1 : Int32).toInt ≤ 1 ∧ tk_f D H a0 6 9 (.int 8) from ⟨(by omega), (by omega), (by omega), hf4⟩) hG hS dX6_goDeeper_30
theorem dX6_goDeeper_9 : decode cX6_goDeeper 9 = .ok (.aload_n 0, 1) := by decide +kernel
theorem dX6_goDeeper_10 : decode cX6_goDeeper 10 = .ok (.invokevirtual 60, 3) := by decide +kernel
theorem dX6_goDeeper_13 : decode cX6_goDeeper 13 = .ok (.iconst 0, 1) := by decide +kernel
theorem dX6_goDeeper_14 : decode cX6_goDeeper 14 = .ok (.ireturn, 1) := by decide +kernel
set_option maxHeartbeats 4000000 in
set_option maxRecDepth 100000 in
theorem k_X6_goDeeper_8 (l : Launch) (D : va_G) (cy : Nat → ClassId) (ld : Nat → Nat) (t : tk_T) (a0 : Nat) (ht_a0 : t a0 = (7, 0, 0)) : Met l yX6_goDeeper (wl yX6_goDeeper cX6_goDeeper 1 (some .boolean)) ({ frames := 4, cells := 0, slots := 0, locals := 210 }) (tp D cy ld t [] [.ref a0] (fun H => tk_f D H a0 6 9 (.int 8))) (ti D cy ld t [] (fun r H => r.toInt = 0 ∧ 0 ≤ r.toInt ∧ r.toInt ≤ 1 ∧ tk_f D H a0 6 9 (.int 8)) (tk_w t [(7, 0, 0)])) 0 0 (tk_w t [(7, 0, 0)]) := by
  refine tk_met (y := yX6_goDeeper) (cc := cX6_goDeeper) (maxL := 1) (ret := (some .boolean)) (av := [.ref a0]) _ _ (by decide) (Nat.le_of_ble_eq_true rfl) ?_
  intro p e s m args below meth c hx hb hr hml hts htl hown hlocks hK H locs hH hG hS hB hZ ls hl
  have hown : s.vm.findClass RX6 = some m.cls := hown
  have hl : lv_has ls 1 [(0, .ref a0)] := hl
  have hg_0 := hB
  refine lv_aload_n hx hb dX6_goDeeper_0 rfl (lv_at hl 0 rfl) ?_
  refine tk_getk (ci := 6) (C := RX6) (T := TX6) (N := 11) (sp := (0, 0, 8, 0)) hx hb htl inX6 hown hK hG ht_a0 (by decide) tk_no rfl 9 (by decide) (htl _ mw_480) (fun _ h9 => h9) rfl hg_0 dX6_goDeeper_1 ?_
  refine lv_bipush (v := 8) hx hb dX6_goDeeper_4 (by decide) ?_
  refine lv_icmp_lt (tgt := 15) hx hb dX6_goDeeper_6 (by decide) (fun c9 => absurd c9 (by decide)) (fun _ => ?_)
  refine lv_aload_n hx hb dX6_goDeeper_9 rfl (lv_at hl 0 rfl) ?_
  have hk_8 : (8 : Int32).toInt = 8 := by decide
  refine tk_Vv (As := []) (rest := []) (ci := 6) ⟨hx, hb, hml, hown, hts⟩ hK hG hZ hS (k_X6_fail l D cy ld t a0 8 ht_a0 (by omega) (by omega)) hg_0 ⟨callB_of 0 hts (wl_in mw_507) rfl rfl rfl (htl _ mw_36) (htl _ mw_504) hd_yX6_fail ⟨(Nat.le_of_ble_eq_true rfl), (Nat.le_of_ble_eq_true rfl)⟩, htl _ mw_505, htl _ mw_506⟩ ht_a0 (by decide) tk_no rfl (tk_w.pick [0] rfl) rfl hl.1 rfl (Nat.le_of_ble_eq_true rfl) dX6_goDeeper_10 ⟨(Nat.le_of_ble_eq_true rfl), (Nat.le_of_ble_eq_true rfl)⟩ (fun H locs hpo hG hS hq9 => ?_)
  have hf2 := hpo
  refine lv_iconst (v := 0) hx hb dX6_goDeeper_13 (by decide) ?_
  have hk_0 : (0 : Int32).toInt = 0 := by decide
  exact tk_iret (v := 0) hx hb hr rfl hlocks (show (0 : Int32).toInt = 0 ∧ 0 ≤ (0 : Int32).toInt ∧ (0 : Int32).toInt ≤ 1 ∧ tk_f D H a0 6 9 (.int 8) from ⟨(by omega), (by omega), (by omega), hf2⟩) hG hS dX6_goDeeper_14
set_option maxHeartbeats 4000000 in
set_option maxRecDepth 100000 in
theorem k_J0_isLatin1_aae02_2 (l : Launch) (D : va_G) (cy : Nat → ClassId) (ld : Nat → Nat) (t : tk_T) : Met l yJ0_isLatin1_aae02 (wl yJ0_isLatin1_aae02 cJ0_isLatin1_aae02 1 (some .boolean)) ({ frames := 3, cells := 0, slots := 0, locals := 140 }) (tp D cy ld t [] [.ref (ld 2)] (fun H => True)) (ti D cy ld t [] (fun r H => r.toInt + (-1) = 0 ∧ 0 ≤ r.toInt ∧ r.toInt ≤ 1) (tk_w t [])) 0 0 (tk_w t []) := by
  refine tk_met (y := yJ0_isLatin1_aae02) (cc := cJ0_isLatin1_aae02) (maxL := 1) (ret := (some .boolean)) (av := [.ref (ld 2)]) _ _ (by decide) (Nat.le_of_ble_eq_true rfl) ?_
  intro p e s m args below meth c hx hb hr hml hts htl hown hlocks hK H locs hH hG hS hB hZ ls hl
  have hown : s.vm.findClass RJ0 = some m.cls := hown
  have hl : lv_has ls 1 [(0, .ref (ld 2))] := hl
  refine va_gets hx hb (hZ.2.1.narrow (fun _ h => h.1)) hS hown (htl _ mw_528) (fun _ h9 => h9) dJ0_isLatin1_aae02_0 ?_
  refine lv_if_eq (tgt := 17) hx hb dJ0_isLatin1_aae02_3 (by decide) (fun c9 => absurd c9 (by decide)) (fun _ => ?_)
  refine lv_aload_n hx hb dJ0_isLatin1_aae02_6 rfl (lv_at hl 0 rfl) ?_
  refine vk_getf hx hb ((hZ.1.1 2 (by decide)).2.1.narrow (fun _ h => h.1)) hS hown (htl _ mw_529) (fun _ h9 => h9) dJ0_isLatin1_aae02_7 ?_
  refine lv_if_ne (tgt := 17) hx hb dJ0_isLatin1_aae02_10 (by decide) (fun c9 => absurd (by decide) c9) (fun _ => ?_)
  refine lv_iconst (v := 1) hx hb dJ0_isLatin1_aae02_13 (by decide) ?_
  refine lv_goto (tgt := 18) hx hb dJ0_isLatin1_aae02_14 (by decide) ?_
  have hk_1 : (1 : Int32).toInt = 1 := by decide
  exact tk_iret (v := 1) hx hb hr rfl hlocks (show (1 : Int32).toInt + (-1) = 0 ∧ 0 ≤ (1 : Int32).toInt ∧ (1 : Int32).toInt ≤ 1 from ⟨(by omega), (by omega), (by omega)⟩) hG hS dJ0_isLatin1_aae02_18
set_option maxHeartbeats 4000000 in
set_option maxRecDepth 100000 in
theorem k_J1_charAt_3b067_2 (l : Launch) (D : va_G) (cy : Nat → ClassId) (ld : Nat → Nat) (t : tk_T) (p1 : Int32) (hp_0 : 0 ≤ p1.toInt) (hp_1 : p1.toInt ≤ 46) : Met l yJ1_charAt_3b067 (wl yJ1_charAt_3b067 cJ1_charAt_3b067 2 (some .char)) ({ frames := 5, cells := 0, slots := 0, locals := 280 }) (tp D cy ld t [] [.ref (ld 52), .int p1] (fun H => True)) (ti D cy ld t [] (fun r H => 0 ≤ r.toInt ∧ r.toInt ≤ 255) (tk_w t [])) 0 0 (tk_w t []) := by
  refine tk_met (y := yJ1_charAt_3b067) (cc := cJ1_charAt_3b067) (maxL := 2) (ret := (some .char)) (av := [.ref (ld 52), .int p1]) _ _ (by decide) (Nat.le_of_ble_eq_true rfl) ?_
  intro p e s m args below meth c hx hb hr hml hts htl hown hlocks hK H locs hH hG hS hB hZ ls hl
  have hown : s.vm.findClass RJ1 = some m.cls := hown
  have hl : lv_has ls 2 [(0, .ref (ld 52)), (1, .int p1)] := hl
  have hr_p1 := tk_rng p1
  refine lv_iload_n hx hb dJ1_charAt_3b067_0 rfl (lv_at hl 1 rfl) ?_
  refine lv_aload_n hx hb dJ1_charAt_3b067_1 rfl (lv_at hl 0 rfl) ?_
  refine va_tlen (v := 47) hx hb ((hZ.1.1 2 (by decide)).2.2.2.narrow (fun _ h => h.1)) hS rfl dJ1_charAt_3b067_2 ?_
  have hk_47 : (47 : Int32).toInt = 47 := by decide
  refine tk_Sv (As := [.int p1, .int 47]) (rest := []) ⟨hx, hb, hml, hown, hts⟩ hK hG hZ hS (k_J0_checkIndex_df160 l D cy ld t p1 47 (by omega) (by omega) (by omega) (by omega) (by omega)) trivial ⟨callB_of 2 hts (wl_in mw_544) rfl rfl rfl (htl _ mw_521) (htl _ mw_542) hd_yJ0_checkIndex_df160 ⟨(Nat.le_of_ble_eq_true rfl), (Nat.le_of_ble_eq_true rfl)⟩, htl _ mw_543⟩ (tk_w.pick [] rfl) rfl hl.1 rfl (Nat.le_of_ble_eq_true rfl) dJ1_charAt_3b067_3 ⟨(Nat.le_of_ble_eq_true rfl), (Nat.le_of_ble_eq_true rfl)⟩ (fun H locs hpo hG hS hq9 => ?_)
  refine lv_aload_n hx hb dJ1_charAt_3b067_6 rfl (lv_at hl 0 rfl) ?_
  refine lv_iload_n hx hb dJ1_charAt_3b067_7 rfl (lv_at hl 1 rfl) ?_
  refine va_tb hx hb ((hZ.1.1 2 (by decide)).2.2.2.narrow (fun _ h => h.1)) hS (vp_in_iff.mpr ⟨by omega, show _ < ((47 : Nat) : Int) by omega⟩) rfl dJ1_charAt_3b067_8 ?_
  refine tk_any (fun v2 => ?_)
  refine lv_sipush (v := 255) hx hb dJ1_charAt_3b067_9 (by decide) ?_
  refine lv_iand hx hb dJ1_charAt_3b067_12 ?_
  refine tk_say (P := fun z => 0 ≤ z.toInt ∧ z.toInt ≤ 255) (tk_and v2 8 (by decide) (by decide)) (fun v3 h_v3 => ?_)
  obtain ⟨v4, e_v4, h_v4⟩ := tk_i2c (x := v3) (by omega) (by omega)
  refine lv_i2c (v := v4) hx hb dJ1_charAt_3b067_13 e_v4 ?_
  exact tk_iret (v := v4) hx hb hr (tk_nc (by omega) (by omega)) hlocks (show 0 ≤ v4.toInt ∧ v4.toInt ≤ 255 from ⟨(by omega), (by omega)⟩) hG hS dJ1_charAt_3b067_14
set_option maxHeartbeats 4000000 in
set_option maxRecDepth 100000 in
theorem k_J0_charAt_5068e_2 (l : Launch) (D : va_G) (cy : Nat → ClassId) (ld : Nat → Nat) (t : tk_T) (p1 : Int32) (hp_0 : 0 ≤ p1.toInt) (hp_1 : p1.toInt ≤ 46) : Met l yJ0_charAt_5068e (wl yJ0_charAt_5068e cJ0_charAt_5068e 2 (some .char)) ({ frames := 6, cells := 0, slots := 0, locals := 350 }) (tp D cy ld t [] [.ref (ld 2), .int p1] (fun H => True)) (ti D cy ld t [] (fun r H => 0 ≤ r.toInt ∧ r.toInt ≤ 255) (tk_w t [])) 0 0 (tk_w t []) := by
  refine tk_met (y := yJ0_charAt_5068e) (cc := cJ0_charAt_5068e) (maxL := 2) (ret := (some .char)) (av := [.ref (ld 2), .int p1]) _ _ (by decide) (Nat.le_of_ble_eq_true rfl) ?_
  intro p e s m args below meth c hx hb hr hml hts htl hown hlocks hK H locs hH hG hS hB hZ ls hl
  have hown : s.vm.findClass RJ0 = some m.cls := hown
  have hl : lv_has ls 2 [(0, .ref (ld 2)), (1, .int p1)] := hl
  have hr_p1 := tk_rng p1
  refine lv_aload_n hx hb dJ0_charAt_5068e_0 rfl (lv_at hl 0 rfl) ?_
  refine tk_Ti (As := []) (rest := []) (j := 2) ⟨hx, hb, hml, hown, hts⟩ hK hG hZ hS (k_J0_isLatin1_aae02_2 l D cy ld t) trivial ⟨callB_of 0 hts (wl_in mw_537) rfl rfl rfl (htl _ mw_521) (htl _ mw_534) hd_yJ0_isLatin1_aae02 ⟨(Nat.le_of_ble_eq_true rfl), (Nat.le_of_ble_eq_true rfl)⟩, htl _ mw_535, htl _ mw_536⟩ (by decide) (tk_w.pick [] rfl) rfl hl.1 rfl (Nat.le_of_ble_eq_true rfl) dJ0_charAt_5068e_1 ⟨(Nat.le_of_ble_eq_true rfl), (Nat.le_of_ble_eq_true rfl)⟩ (fun v1 H locs hpo hG hS hq9 => ?_)
  obtain ⟨hpo3, hpo4, hpo5⟩ := hpo
  obtain rfl : v1 = 1 := (fi_eq (show v1.toInt = 1 by omega) (by decide)).mpr rfl
  refine lv_if_eq (tgt := 16) hx hb dJ0_charAt_5068e_4 (by decide) (fun c9 => absurd c9 (by decide)) (fun _ => ?_)
  refine lv_aload_n hx hb dJ0_charAt_5068e_7 rfl (lv_at hl 0 rfl) ?_
  refine vk_getf hx hb ((hZ.1.1 2 (by decide)).2.2.1.narrow (fun _ h => h.1)) hS hown (htl _ mw_523) (fun _ h9 => h9) dJ0_charAt_5068e_8 ?_
  refine lv_iload_n hx hb dJ0_charAt_5068e_11 rfl (lv_at hl 1 rfl) ?_
  refine tk_Si (As := [.ref (ld 52), .int p1]) (rest := []) ⟨hx, hb, hml, hown, hts⟩ hK hG hZ hS (k_J1_charAt_3b067_2 l D cy ld t p1 (by omega) (by omega)) trivial ⟨callB_of 2 hts (wl_in mw_541) rfl rfl rfl (htl _ mw_540) (htl _ mw_538) hd_yJ1_charAt_3b067 ⟨(Nat.le_of_ble_eq_true rfl), (Nat.le_of_ble_eq_true rfl)⟩, htl _ mw_539⟩ (tk_w.pick [] rfl) rfl hl.1 rfl (Nat.le_of_ble_eq_true rfl) dJ0_charAt_5068e_12 ⟨(Nat.le_of_ble_eq_true rfl), (Nat.le_of_ble_eq_true rfl)⟩ (fun v6 H locs hpo hG hS hq9 => ?_)
  obtain ⟨hpo8, hpo9⟩ := hpo
  exact tk_iret (v := v6) hx hb hr (tk_nc (by omega) (by omega)) hlocks (show 0 ≤ v6.toInt ∧ v6.toInt ≤ 255 from ⟨(by omega), (by omega)⟩) hG hS dJ0_charAt_5068e_15
set_option maxHeartbeats 4000000 in
set_option maxRecDepth 100000 in
theorem k_J0_coder_7d493_2 (l : Launch) (D : va_G) (cy : Nat → ClassId) (ld : Nat → Nat) (t : tk_T) : Met l yJ0_coder_7d493 (wl yJ0_coder_7d493 cJ0_coder_7d493 1 (some .byte)) ({ frames := 3, cells := 0, slots := 0, locals := 140 }) (tp D cy ld t [] [.ref (ld 2)] (fun H => True)) (ti D cy ld t [] (fun r H => r.toInt = 0) (tk_w t [])) 0 0 (tk_w t []) := by
  refine tk_met (y := yJ0_coder_7d493) (cc := cJ0_coder_7d493) (maxL := 1) (ret := (some .byte)) (av := [.ref (ld 2)]) _ _ (by decide) (Nat.le_of_ble_eq_true rfl) ?_
  intro p e s m args below meth c hx hb hr hml hts htl hown hlocks hK H locs hH hG hS hB hZ ls hl
  have hown : s.vm.findClass RJ0 = some m.cls := hown
  have hl : lv_has ls 1 [(0, .ref (ld 2))] := hl
  refine va_gets hx hb (hZ.2.1.narrow (fun _ h => h.1)) hS hown (htl _ mw_528) (fun _ h9 => h9) dJ0_coder_7d493_0 ?_
  refine lv_if_eq (tgt := 13) hx hb dJ0_coder_7d493_3 (by decide) (fun c9 => absurd c9 (by decide)) (fun _ => ?_)
  refine lv_aload_n hx hb dJ0_coder_7d493_6 rfl (lv_at hl 0 rfl) ?_
  refine vk_getf hx hb ((hZ.1.1 2 (by decide)).2.1.narrow (fun _ h => h.1)) hS hown (htl _ mw_529) (fun _ h9 => h9) dJ0_coder_7d493_7 ?_
  refine lv_goto (tgt := 14) hx hb dJ0_coder_7d493_10 (by decide) ?_
  have hk_0 : (0 : Int32).toInt = 0 := by decide
  exact tk_iret (v := 0) hx hb hr rfl hlocks (show (0 : Int32).toInt = 0 from (by omega)) hG hS dJ0_coder_7d493_14
set_option maxHeartbeats 4000000 in
set_option maxRecDepth 100000 in
theorem k_J0_length_8abf5_2 (l : Launch) (D : va_G) (cy : Nat → ClassId) (ld : Nat → Nat) (t : tk_T) : Met l yJ0_length_8abf5 (wl yJ0_length_8abf5 cJ0_length_8abf5 1 (some .int)) ({ frames := 4, cells := 0, slots := 0, locals := 210 }) (tp D cy ld t [] [.ref (ld 2)] (fun H => True)) (ti D cy ld t [] (fun r H => r.toInt + (-47) = 0) (tk_w t [])) 0 0 (tk_w t []) := by
  refine tk_met (y := yJ0_length_8abf5) (cc := cJ0_length_8abf5) (maxL := 1) (ret := (some .int)) (av := [.ref (ld 2)]) _ _ (by decide) (Nat.le_of_ble_eq_true rfl) ?_
  intro p e s m args below meth c hx hb hr hml hts htl hown hlocks hK H locs hH hG hS hB hZ ls hl
  have hown : s.vm.findClass RJ0 = some m.cls := hown
  have hl : lv_has ls 1 [(0, .ref (ld 2))] := hl
  refine lv_aload_n hx hb dJ0_length_8abf5_0 rfl (lv_at hl 0 rfl) ?_
  refine vk_getf hx hb ((hZ.1.1 2 (by decide)).2.2.1.narrow (fun _ h => h.1)) hS hown (htl _ mw_523) (fun _ h9 => h9) dJ0_length_8abf5_1 ?_
  refine va_tlen (v := 47) hx hb ((hZ.1.1 2 (by decide)).2.2.2.narrow (fun _ h => h.1)) hS rfl dJ0_length_8abf5_4 ?_
  refine lv_aload_n hx hb dJ0_length_8abf5_5 rfl (lv_at hl 0 rfl) ?_
  refine tk_Ti (As := []) (rest := [.int 47]) (j := 2) ⟨hx, hb, hml, hown, hts⟩ hK hG hZ hS (k_J0_coder_7d493_2 l D cy ld t) trivial ⟨callB_of 0 hts (wl_in mw_527) rfl rfl rfl (htl _ mw_521) (htl _ mw_524) hd_yJ0_coder_7d493 ⟨(Nat.le_of_ble_eq_true rfl), (Nat.le_of_ble_eq_true rfl)⟩, htl _ mw_525, htl _ mw_526⟩ (by decide) (tk_w.pick [] rfl) rfl hl.1 rfl (Nat.le_of_ble_eq_true rfl) dJ0_length_8abf5_6 ⟨(Nat.le_of_ble_eq_true rfl), (Nat.le_of_ble_eq_true rfl)⟩ (fun v1 H locs hpo hG hS hq9 => ?_)
  have hpo3 := hpo
  obtain rfl : v1 = 0 := (fi_eq (show v1.toInt = 0 by omega) (by decide)).mpr rfl
  refine lv_ishr hx hb dJ0_length_8abf5_9 ?_
  refine fx_ti (v := 47) (by decide) ?_
  have hk_47 : (47 : Int32).toInt = 47 := by decide
  exact tk_iret (v := 47) hx hb hr rfl hlocks (show (47 : Int32).toInt + (-47) = 0 from (by omega)) hG hS dJ0_length_8abf5_10
set_option maxHeartbeats 4000000 in
set_option maxRecDepth 100000 in
theorem k_X6_isToken_2 (l : Launch) (D : va_G) (cy : Nat → ClassId) (ld : Nat → Nat) (t : tk_T) (a0 : Nat) (p2 : Int32) (p3 : Int32) (ht_a0 : t a0 = (7, 0, 0)) (hp_0 : 0 ≤ p2.toInt) (hp_1 : p2.toInt ≤ 47) (hp_2 : 0 ≤ p3.toInt) (hp_3 : p3.toInt ≤ 47) : Met l yX6_isToken (wl yX6_isToken cX6_isToken 5 (some .boolean)) ({ frames := 7, cells := 0, slots := 0, locals := 420 }) (tp D cy ld t [] [.ref a0, .ref (ld 2), .int p2, .int p3] (fun H => True)) (ti D cy ld t [] (fun r H => 0 ≤ r.toInt ∧ r.toInt ≤ 1 ∧ 0 ≤ r.toInt ∧ r.toInt ≤ 1) (tk_w t [])) 0 0 (tk_w t []) := by
  refine tk_met (y := yX6_isToken) (cc := cX6_isToken) (maxL := 5) (ret := (some .boolean)) (av := [.ref a0, .ref (ld 2), .int p2, .int p3]) _ _ (by decide) (Nat.le_of_ble_eq_true rfl) ?_
  intro p e s m args below meth c hx hb hr hml hts htl hown hlocks hK H locs hH hG hS hB hZ ls hl
  have hown : s.vm.findClass RX6 = some m.cls := hown
  have hl : lv_has ls 5 [(0, .ref a0), (1, .ref (ld 2)), (2, .int p2), (3, .int p3)] := hl
  have hr_p2 := tk_rng p2
  have hr_p3 := tk_rng p3
  refine lv_iload_n hx hb dX6_isToken_0 rfl (lv_at hl 3 rfl) ?_
  refine lv_iload_n hx hb dX6_isToken_1 rfl (lv_at hl 2 rfl) ?_
  refine lv_isub hx hb dX6_isToken_2 ?_
  refine tk_sub rfl rfl (by omega) (by omega) (fun v1 h_v1 => ?_)
  refine lv_aload_n hx hb dX6_isToken_3 rfl (lv_at hl 0 rfl) ?_
  refine tk_get (ci := 6) (C := RX6) (T := TX6) (N := 11) (sp := (0, 0, 400, 0)) hx hb htl inX6 hown hK hG ht_a0 (by decide) tk_no rfl 5 (by decide) (htl _ mw_478) (fun _ h9 => h9) rfl dX6_isToken_4 (fun v9 hf2 hV9 => ?_)
  obtain ⟨v3, rfl, (ha_v3 : 0 ≤ v3.toInt), (hb_v3 : v3.toInt ≤ 400)⟩ := hV9
  refine lv_aload_n hx hb dX6_isToken_7 rfl (lv_at hl 0 rfl) ?_
  refine tk_get (ci := 6) (C := RX6) (T := TX6) (N := 11) (sp := (0, 0, 400, 0)) hx hb htl inX6 hown hK hG ht_a0 (by decide) tk_no rfl 4 (by decide) (htl _ mw_495) (fun _ h9 => h9) rfl dX6_isToken_8 (fun v9 hf4 hV9 => ?_)
  obtain ⟨v5, rfl, (ha_v5 : 0 ≤ v5.toInt), (hb_v5 : v5.toInt ≤ 400)⟩ := hV9
  refine lv_isub hx hb dX6_isToken_11 ?_
  refine tk_sub rfl rfl (by omega) (by omega) (fun v6 h_v6 => ?_)
  refine lv_icmp_eq (tgt := 17) hx hb dX6_isToken_12 (by decide) (fun c9 => ?_) (fun c9 => ?_)
  · have hc7 : v1.toInt = v6.toInt := (fi_eq rfl rfl).mp c9
    refine lv_iload_n hx hb dX6_isToken_17 rfl (lv_at hl 2 rfl) ?_
    refine lv_istore (lv' := [(4, .int p2), (0, .ref a0), (1, .ref (ld 2)), (2, .int p2), (3, .int p3)]) hx hb dX6_isToken_18 hl (by decide) rfl (fun ls hl => ?_)
    have hl82 : ∀ (N_l82 : Nat) (v8 : Int32) (H : Heap) (locs : List Loc), v8.toInt ≤ 48 → 0 ≤ (-1) * p2.toInt + v8.toInt → (-1) * v8.toInt + 48 < (N_l82 : Int) → tk_G D cy ld t [] H → va_S (tk_w t []) s.heap H locs → tk_f D H a0 6 5 (.int v3) → tk_f D H a0 6 4 (.int v5) → ∀ ls : Array Slot, lv_has ls 5 [(4, .int v8), (0, .ref a0), (1, .ref (ld 2)), (2, .int p2), (3, .int p3)] → W p l e ({ frames := 7, cells := 0, slots := 0, locals := 420 }) s m args below meth c H locs 0 0 (MQ below (ti D cy ld t [] (fun r H => 0 ≤ r.toInt ∧ r.toInt ≤ 1 ∧ 0 ≤ r.toInt ∧ r.toInt ≤ 1) (tk_w t [])) args s 0 0 (tk_w t [])) (F0 m 20 ls []) := by
      intro N_l82
      induction N_l82 with
      | zero => intro v8 H locs hq0_l82 hq1_l82 hm_l82 hG hS hf2 hf4 ls hl; exfalso; omega
      | succ N_l82 ih_l82 =>
        intro v8 H locs hq0_l82 hq1_l82 hm_l82 hG hS hf2 hf4 ls hl
        refine lv_iload hx hb dX6_isToken_20 (lv_at hl 0 rfl) ?_
        refine lv_iload_n hx hb dX6_isToken_22 rfl (lv_at hl 4 rfl) ?_
        refine lv_icmp_ge (tgt := 57) hx hb dX6_isToken_23 (by decide) (fun c9 => ?_) (fun c9 => ?_)
        · have hc83 : p3.toInt ≤ v8.toInt := (fi_le rfl rfl).mp c9
          refine lv_iconst (v := 1) hx hb dX6_isToken_57 (by decide) ?_
          have hk_1 : (1 : Int32).toInt = 1 := by decide
          exact tk_iret (v := 1) hx hb hr rfl hlocks (show 0 ≤ (1 : Int32).toInt ∧ (1 : Int32).toInt ≤ 1 ∧ 0 ≤ (1 : Int32).toInt ∧ (1 : Int32).toInt ≤ 1 from ⟨(by omega), (by omega), (by omega), (by omega)⟩) hG hS dX6_isToken_58
        · have hc83 : ¬ (p3.toInt ≤ v8.toInt) := fun h9 => c9 ((fi_le rfl rfl).mpr h9)
          refine lv_aload_n hx hb dX6_isToken_26 rfl (lv_at hl 2 rfl) ?_
          refine lv_iload hx hb dX6_isToken_27 (lv_at hl 0 rfl) ?_
          refine tk_Ti (As := [.int v8]) (rest := []) (j := 2) ⟨hx, hb, hml, hown, hts⟩ hK hG hZ hS (k_J0_charAt_5068e_2 l D cy ld t v8 (by omega) (by omega)) trivial ⟨callB_of 1 hts (wl_in mw_533) rfl rfl rfl (htl _ mw_521) (htl _ mw_530) hd_yJ0_charAt_5068e ⟨(Nat.le_of_ble_eq_true rfl), (Nat.le_of_ble_eq_true rfl)⟩, htl _ mw_531, htl _ mw_532⟩ (by decide) (tk_w.pick [] rfl) rfl hl.1 rfl (Nat.le_of_ble_eq_true rfl) dX6_isToken_29 ⟨(Nat.le_of_ble_eq_true rfl), (Nat.le_of_ble_eq_true rfl)⟩ (fun v84 H locs hpo hG hS hq9 => ?_)
          have hf2 := hf2.call hq9 tk_w.nil
          have hf4 := hf4.call hq9 tk_w.nil
          obtain ⟨hpo86, hpo87⟩ := hpo
          refine lv_aload_n hx hb dX6_isToken_32 rfl (lv_at hl 1 rfl) ?_
          refine tk_get (ci := 6) (C := RX6) (T := TX6) (N := 11) (sp := (6, 20, 400, 9)) hx hb htl inX6 hown hK hG ht_a0 (by decide) tk_no rfl 1 (by decide) (htl _ mw_133) (fun _ h9 => h9) rfl dX6_isToken_33 (fun v9 hf88 hV9 => ?_)
          obtain ⟨b89, rfl, ht_b89⟩ := hV9
          have ht_b89 : t b89 = (20, 400, 9) := ht_b89
          refine lv_aload_n hx hb dX6_isToken_36 rfl (lv_at hl 1 rfl) ?_
          refine tk_getk (ci := 6) (C := RX6) (T := TX6) (N := 11) (sp := (0, 0, 400, 0)) hx hb htl inX6 hown hK hG ht_a0 (by decide) tk_no rfl 4 (by decide) (htl _ mw_495) (fun _ h9 => h9) rfl hf4 dX6_isToken_37 ?_
          refine lv_iload hx hb dX6_isToken_40 (lv_at hl 0 rfl) ?_
          refine lv_iadd hx hb dX6_isToken_42 ?_
          refine tk_add rfl rfl (by omega) (by omega) (fun v90 h_v90 => ?_)
          refine lv_iload_n hx hb dX6_isToken_43 rfl (lv_at hl 3 rfl) ?_
          refine lv_isub hx hb dX6_isToken_44 ?_
          refine tk_sub rfl rfl (by omega) (by omega) (fun v91 h_v91 => ?_)
          refine tk_iald hx hb hK hG ht_b89 (by decide) (fun _ h => h) tk_no rfl (by omega) (by omega) dX6_isToken_45 (fun v92 _ _ => ?_)
          have hr_v92 := tk_rng v92
          refine lv_icmp_eq (tgt := 51) hx hb dX6_isToken_46 (by decide) (fun c9 => ?_) (fun c9 => ?_)
          · have hc93 : v84.toInt = v92.toInt := (fi_eq rfl rfl).mp c9
            obtain ⟨v94, h_v94, e_v94⟩ := tk_inc v8 1 (by decide) (by omega) (by omega)
            refine lv_iinc (v := v94) (lv' := [(4, .int v94), (0, .ref a0), (1, .ref (ld 2)), (2, .int p2), (3, .int p3)]) hx hb dX6_isToken_51 hl (k := 0) rfl e_v94 (by decide) rfl (fun ls hl => ?_)
            refine lv_goto (tgt := 20) hx hb dX6_isToken_54 (by decide) ?_
            exact ih_l82 v94 _ _ (by omega) (by omega) (by omega) hG hS hf2 hf4 _ (lv_sub hl [0, 1, 2, 3, 4] rfl)
          · have hc93 : ¬ (v84.toInt = v92.toInt) := fun h9 => c9 ((fi_eq rfl rfl).mpr h9)
            refine lv_iconst (v := 0) hx hb dX6_isToken_49 (by decide) ?_
            have hk_0 : (0 : Int32).toInt = 0 := by decide
            exact tk_iret (v := 0) hx hb hr rfl hlocks (show 0 ≤ (0 : Int32).toInt ∧ (0 : Int32).toInt ≤ 1 ∧ 0 ≤ (0 : Int32).toInt ∧ (0 : Int32).toInt ≤ 1 from ⟨(by omega), (by omega), (by omega), (by omega)⟩) hG hS dX6_isToken_50
    exact hl82 49 p2 _ _ (by omega) (by omega) (by omega) hG hS hf2 hf4 _ (lv_sub hl [0, 1, 2, 3, 4] rfl)
  · have hc7 : ¬ (v1.toInt = v6.toInt) := fun h9 => c9 ((fi_eq rfl rfl).mpr h9)
    refine lv_iconst (v := 0) hx hb dX6_isToken_15 (by decide) ?_
    have hk_0 : (0 : Int32).toInt = 0 := by decide
    exact tk_iret (v := 0) hx hb hr rfl hlocks (show 0 ≤ (0 : Int32).toInt ∧ (0 : Int32).toInt ≤ 1 ∧ 0 ≤ (0 : Int32).toInt ∧ (0 : Int32).toInt ≤ 1 from ⟨(by omega), (by omega), (by omega), (by omega)⟩) hG hS dX6_isToken_16
set_option maxHeartbeats 4000000 in
set_option maxRecDepth 100000 in
theorem k_X6_wordAmong_2 (l : Launch) (D : va_G) (cy : Nat → ClassId) (ld : Nat → Nat) (t : tk_T) (a0 : Nat) (ht_a0 : t a0 = (7, 0, 0)) : Met l yX6_wordAmong (wl yX6_wordAmong cX6_wordAmong 5 (some .int)) ({ frames := 8, cells := 0, slots := 0, locals := 490 }) (tp D cy ld t [] [.ref a0, .ref (ld 2)] (fun H => True)) (ti D cy ld t [] (fun r H => (-1) ≤ r.toInt ∧ r.toInt ≤ 48) (tk_w t [])) 0 0 (tk_w t []) := by
  refine tk_met (y := yX6_wordAmong) (cc := cX6_wordAmong) (maxL := 5) (ret := (some .int)) (av := [.ref a0, .ref (ld 2)]) _ _ (by decide) (Nat.le_of_ble_eq_true rfl) ?_
  intro p e s m args below meth c hx hb hr hml hts htl hown hlocks hK H locs hH hG hS hB hZ ls hl
  have hown : s.vm.findClass RX6 = some m.cls := hown
  have hl : lv_has ls 5 [(0, .ref a0), (1, .ref (ld 2))] := hl
  refine lv_aload_n hx hb dX6_wordAmong_0 rfl (lv_at hl 0 rfl) ?_
  refine tk_Vi (As := []) (rest := []) (ci := 6) ⟨hx, hb, hml, hown, hts⟩ hK hG hZ hS (k_X6_isGood l D cy ld t a0 ht_a0) trivial ⟨callB_of 0 hts (wl_in mw_503) rfl rfl rfl (htl _ mw_36) (htl _ mw_500) hd_yX6_isGood ⟨(Nat.le_of_ble_eq_true rfl), (Nat.le_of_ble_eq_true rfl)⟩, htl _ mw_501, htl _ mw_502⟩ ht_a0 (by decide) tk_no rfl (tk_w.pick [] rfl) rfl hl.1 rfl (Nat.le_of_ble_eq_true rfl) dX6_wordAmong_1 ⟨(Nat.le_of_ble_eq_true rfl), (Nat.le_of_ble_eq_true rfl)⟩ (fun v1 H locs hpo hG hS hq9 => ?_)
  obtain ⟨hpo3, hpo4, hpo5, hpo6⟩ := hpo
  refine lv_if_eq (tgt := 15) hx hb dX6_wordAmong_4 (by decide) (fun c9 => ?_) (fun c9 => ?_)
  · have hc7 : v1.toInt = 0 := (fi_eq rfl (show (0 : Int32).toInt = 0 by decide)).mp c9
    refine lv_iconst (v := (-1)) hx hb dX6_wordAmong_15 (by decide) ?_
    have hk_m1 : ((-1) : Int32).toInt = (-1) := by decide
    exact tk_iret (v := (-1)) hx hb hr rfl hlocks (show (-1) ≤ ((-1) : Int32).toInt ∧ ((-1) : Int32).toInt ≤ 48 from ⟨(by omega), (by omega)⟩) hG hS dX6_wordAmong_16
  · have hc7 : ¬ (v1.toInt = 0) := fun h9 => c9 ((fi_eq rfl (show (0 : Int32).toInt = 0 by decide)).mpr h9)
    refine lv_aload_n hx hb dX6_wordAmong_7 rfl (lv_at hl 0 rfl) ?_
    refine tk_get (ci := 6) (C := RX6) (T := TX6) (N := 11) (sp := (0, (-2147483648), 2147483647, 0)) hx hb htl inX6 hown hK hG ht_a0 (by decide) tk_no rfl 6 (by decide) (htl _ mw_482) (fun _ h9 => h9) rfl dX6_wordAmong_8 (fun v9 hf8 hV9 => ?_)
    obtain ⟨v9, rfl, (ha_v9 : (-2147483648) ≤ v9.toInt), (hb_v9 : v9.toInt ≤ 2147483647)⟩ := hV9
    refine lv_iconst (v := 1) hx hb dX6_wordAmong_11 (by decide) ?_
    refine lv_icmp_eq (tgt := 17) hx hb dX6_wordAmong_12 (by decide) (fun c9 => ?_) (fun c9 => ?_)
    · have hc10 : v9.toInt = 1 := (fi_eq rfl (show (1 : Int32).toInt = 1 by decide)).mp c9
      refine lv_iconst (v := 0) hx hb dX6_wordAmong_17 (by decide) ?_
      refine lv_istore_n (lv' := [(2, .int 0), (0, .ref a0), (1, .ref (ld 2))]) hx hb dX6_wordAmong_18 rfl hl (by decide) rfl (fun ls hl => ?_)
      refine lv_iconst (v := 0) hx hb dX6_wordAmong_19 (by decide) ?_
      refine lv_istore_n (lv' := [(3, .int 0), (2, .int 0), (0, .ref a0), (1, .ref (ld 2))]) hx hb dX6_wordAmong_20 rfl hl (by decide) rfl (fun ls hl => ?_)
      refine lv_iconst (v := 0) hx hb dX6_wordAmong_21 (by decide) ?_
      refine lv_istore (lv' := [(4, .int 0), (3, .int 0), (2, .int 0), (0, .ref a0), (1, .ref (ld 2))]) hx hb dX6_wordAmong_22 hl (by decide) rfl (fun ls hl => ?_)
      have hl263 : ∀ (N_l263 : Nat) (v11 : Int32) (v12 : Int32) (v13 : Int32) (H : Heap) (locs : List Loc), v11.toInt ≤ 48 → 0 ≤ v13.toInt → 0 ≤ v11.toInt + (-1) * v12.toInt → 0 ≤ v12.toInt + (-1) * v13.toInt → (-1) * v11.toInt + 48 < (N_l263 : Int) → tk_G D cy ld t [] H → va_S (tk_w t []) s.heap H locs → tk_f D H a0 6 6 (.int v9) → ∀ ls : Array Slot, lv_has ls 5 [(4, .int v11), (3, .int v12), (2, .int v13), (0, .ref a0), (1, .ref (ld 2))] → W p l e ({ frames := 8, cells := 0, slots := 0, locals := 490 }) s m args below meth c H locs 0 0 (MQ below (ti D cy ld t [] (fun r H => (-1) ≤ r.toInt ∧ r.toInt ≤ 48) (tk_w t [])) args s 0 0 (tk_w t [])) (F0 m 24 ls []) := by
        intro N_l263
        induction N_l263 with
        | zero => intro v11 v12 v13 H locs hq0_l263 hq1_l263 hq2_l263 hq3_l263 hm_l263 hG hS hf8 ls hl; exfalso; omega
        | succ N_l263 ih_l263 =>
          intro v11 v12 v13 H locs hq0_l263 hq1_l263 hq2_l263 hq3_l263 hm_l263 hG hS hf8 ls hl
          refine lv_iload hx hb dX6_wordAmong_24 (lv_at hl 0 rfl) ?_
          refine lv_aload_n hx hb dX6_wordAmong_26 rfl (lv_at hl 4 rfl) ?_
          refine tk_Ti (As := []) (rest := [.int v11]) (j := 2) ⟨hx, hb, hml, hown, hts⟩ hK hG hZ hS (k_J0_length_8abf5_2 l D cy ld t) trivial ⟨callB_of 0 hts (wl_in mw_522) rfl rfl rfl (htl _ mw_521) (htl _ mw_518) hd_yJ0_length_8abf5 ⟨(Nat.le_of_ble_eq_true rfl), (Nat.le_of_ble_eq_true rfl)⟩, htl _ mw_519, htl _ mw_520⟩ (by decide) (tk_w.pick [] rfl) rfl hl.1 rfl (Nat.le_of_ble_eq_true rfl) dX6_wordAmong_27 ⟨(Nat.le_of_ble_eq_true rfl), (Nat.le_of_ble_eq_true rfl)⟩ (fun v264 H locs hpo hG hS hq9 => ?_)
          have hf8 := hf8.call hq9 tk_w.nil
          have hpo266 := hpo
          obtain rfl : v264 = 47 := (fi_eq (show v264.toInt = 47 by omega) (by decide)).mpr rfl
          refine lv_icmp_gt (tgt := 80) hx hb dX6_wordAmong_30 (by decide) (fun c9 => ?_) (fun c9 => ?_)
          · have hc267 : 47 < v11.toInt := (fi_lt (show (47 : Int32).toInt = 47 by decide) rfl).mp c9
            refine lv_iconst (v := (-1)) hx hb dX6_wordAmong_80 (by decide) ?_
            have hk_m1 : ((-1) : Int32).toInt = (-1) := by decide
            exact tk_iret (v := (-1)) hx hb hr rfl hlocks (show (-1) ≤ ((-1) : Int32).toInt ∧ ((-1) : Int32).toInt ≤ 48 from ⟨(by omega), (by omega)⟩) hG hS dX6_wordAmong_81
          · have hc267 : ¬ (47 < v11.toInt) := fun h9 => c9 ((fi_lt (show (47 : Int32).toInt = 47 by decide) rfl).mpr h9)
            refine lv_iload hx hb dX6_wordAmong_33 (lv_at hl 0 rfl) ?_
            refine lv_aload_n hx hb dX6_wordAmong_35 rfl (lv_at hl 4 rfl) ?_
            refine tk_Ti (As := []) (rest := [.int v11]) (j := 2) ⟨hx, hb, hml, hown, hts⟩ hK hG hZ hS (k_J0_length_8abf5_2 l D cy ld t) trivial ⟨callB_of 0 hts (wl_in mw_522) rfl rfl rfl (htl _ mw_521) (htl _ mw_518) hd_yJ0_length_8abf5 ⟨(Nat.le_of_ble_eq_true rfl), (Nat.le_of_ble_eq_true rfl)⟩, htl _ mw_519, htl _ mw_520⟩ (by decide) (tk_w.pick [] rfl) rfl hl.1 rfl (Nat.le_of_ble_eq_true rfl) dX6_wordAmong_36 ⟨(Nat.le_of_ble_eq_true rfl), (Nat.le_of_ble_eq_true rfl)⟩ (fun v268 H locs hpo hG hS hq9 => ?_)
            have hf8 := hf8.call hq9 tk_w.nil
            have hpo270 := hpo
            obtain rfl : v268 = 47 := (fi_eq (show v268.toInt = 47 by omega) (by decide)).mpr rfl
            refine lv_icmp_eq (tgt := 53) hx hb dX6_wordAmong_39 (by decide) (fun c9 => ?_) (fun c9 => ?_)
            · have hc271 : v11.toInt = 47 := (fi_eq rfl (show (47 : Int32).toInt = 47 by decide)).mp c9
              refine lv_aload_n hx hb dX6_wordAmong_53 rfl (lv_at hl 3 rfl) ?_
              refine lv_aload_n hx hb dX6_wordAmong_54 rfl (lv_at hl 4 rfl) ?_
              refine lv_iload_n hx hb dX6_wordAmong_55 rfl (lv_at hl 1 rfl) ?_
              refine lv_iload hx hb dX6_wordAmong_56 (lv_at hl 0 rfl) ?_
              refine tk_Vi (As := [.ref (ld 2), .int v12, .int v11]) (rest := []) (ci := 6) ⟨hx, hb, hml, hown, hts⟩ hK hG hZ hS (k_X6_isToken_2 l D cy ld t a0 v12 v11 ht_a0 (by omega) (by omega) (by omega) (by omega)) trivial ⟨callB_of 3 hts (wl_in mw_570) rfl rfl rfl (htl _ mw_36) (htl _ mw_567) hd_yX6_isToken ⟨(Nat.le_of_ble_eq_true rfl), (Nat.le_of_ble_eq_true rfl)⟩, htl _ mw_568, htl _ mw_569⟩ ht_a0 (by decide) tk_no rfl (tk_w.pick [] rfl) rfl hl.1 rfl (Nat.le_of_ble_eq_true rfl) dX6_wordAmong_58 ⟨(Nat.le_of_ble_eq_true rfl), (Nat.le_of_ble_eq_true rfl)⟩ (fun v272 H locs hpo hG hS hq9 => ?_)
              have hf8 := hf8.call hq9 tk_w.nil
              obtain ⟨hpo274, hpo275, hpo276, hpo277⟩ := hpo
              refine lv_if_eq (tgt := 66) hx hb dX6_wordAmong_61 (by decide) (fun c9 => ?_) (fun c9 => ?_)
              · have hc278 : v272.toInt = 0 := (fi_eq rfl (show (0 : Int32).toInt = 0 by decide)).mp c9
                obtain ⟨v279, h_v279, e_v279⟩ := tk_inc v13 1 (by decide) (by omega) (by omega)
                refine lv_iinc (v := v279) (lv' := [(2, .int v279), (4, .int v11), (3, .int v12), (0, .ref a0), (1, .ref (ld 2))]) hx hb dX6_wordAmong_66 hl (k := 2) rfl e_v279 (by decide) rfl (fun ls hl => ?_)
                refine lv_iload hx hb dX6_wordAmong_69 (lv_at hl 1 rfl) ?_
                refine lv_iconst (v := 1) hx hb dX6_wordAmong_71 (by decide) ?_
                refine lv_iadd hx hb dX6_wordAmong_72 ?_
                refine tk_add rfl (show (1 : Int32).toInt = 1 by decide) (by omega) (by omega) (fun v280 h_v280 => ?_)
                refine lv_istore_n (lv' := [(3, .int v280), (2, .int v279), (4, .int v11), (0, .ref a0), (1, .ref (ld 2))]) hx hb dX6_wordAmong_73 rfl hl (by decide) rfl (fun ls hl => ?_)
                obtain ⟨v281, h_v281, e_v281⟩ := tk_inc v11 1 (by decide) (by omega) (by omega)
                refine lv_iinc (v := v281) (lv' := [(4, .int v281), (3, .int v280), (2, .int v279), (0, .ref a0), (1, .ref (ld 2))]) hx hb dX6_wordAmong_74 hl (k := 2) rfl e_v281 (by decide) rfl (fun ls hl => ?_)
                refine lv_goto (tgt := 24) hx hb dX6_wordAmong_77 (by decide) ?_
                exact ih_l263 v281 v280 v279 _ _ (by omega) (by omega) (by omega) (by omega) (by omega) hG hS hf8 _ (lv_sub hl [0, 1, 2, 3, 4] rfl)
              · have hc278 : ¬ (v272.toInt = 0) := fun h9 => c9 ((fi_eq rfl (show (0 : Int32).toInt = 0 by decide)).mpr h9)
                refine lv_iload_n hx hb dX6_wordAmong_64 rfl (lv_at hl 2 rfl) ?_
                exact tk_iret (v := v13) hx hb hr rfl hlocks (show (-1) ≤ v13.toInt ∧ v13.toInt ≤ 48 from ⟨(by omega), (by omega)⟩) hG hS dX6_wordAmong_65
            · have hc271 : ¬ (v11.toInt = 47) := fun h9 => c9 ((fi_eq rfl (show (47 : Int32).toInt = 47 by decide)).mpr h9)
              refine lv_aload_n hx hb dX6_wordAmong_42 rfl (lv_at hl 4 rfl) ?_
              refine lv_iload hx hb dX6_wordAmong_43 (lv_at hl 0 rfl) ?_
              refine tk_Ti (As := [.int v11]) (rest := []) (j := 2) ⟨hx, hb, hml, hown, hts⟩ hK hG hZ hS (k_J0_charAt_5068e_2 l D cy ld t v11 (by omega) (by omega)) trivial ⟨callB_of 1 hts (wl_in mw_533) rfl rfl rfl (htl _ mw_521) (htl _ mw_530) hd_yJ0_charAt_5068e ⟨(Nat.le_of_ble_eq_true rfl), (Nat.le_of_ble_eq_true rfl)⟩, htl _ mw_531, htl _ mw_532⟩ (by decide) (tk_w.pick [] rfl) rfl hl.1 rfl (Nat.le_of_ble_eq_true rfl) dX6_wordAmong_45 ⟨(Nat.le_of_ble_eq_true rfl), (Nat.le_of_ble_eq_true rfl)⟩ (fun v282 H locs hpo hG hS hq9 => ?_)
              have hf8 := hf8.call hq9 tk_w.nil
              obtain ⟨hpo284, hpo285⟩ := hpo
              refine lv_bipush (v := 32) hx hb dX6_wordAmong_48 (by decide) ?_
              refine lv_icmp_ne (tgt := 74) hx hb dX6_wordAmong_50 (by decide) (fun c9 => ?_) (fun c9 => ?_)
              · have hc286 : ¬ (v282.toInt = 32) := fun h9 => c9 ((fi_eq rfl (show (32 : Int32).toInt = 32 by decide)).mpr h9)
                obtain ⟨v287, h_v287, e_v287⟩ := tk_inc v11 1 (by decide) (by omega) (by omega)
                refine lv_iinc (v := v287) (lv' := [(4, .int v287), (3, .int v12), (2, .int v13), (0, .ref a0), (1, .ref (ld 2))]) hx hb dX6_wordAmong_74 hl (k := 0) rfl e_v287 (by decide) rfl (fun ls hl => ?_)
                refine lv_goto (tgt := 24) hx hb dX6_wordAmong_77 (by decide) ?_
                exact ih_l263 v287 v12 v13 _ _ (by omega) (by omega) (by omega) (by omega) (by omega) hG hS hf8 _ (lv_sub hl [0, 1, 2, 3, 4] rfl)
              · have hc286 : v282.toInt = 32 := (fi_eq rfl (show (32 : Int32).toInt = 32 by decide)).mp c9
                refine lv_aload_n hx hb dX6_wordAmong_53 rfl (lv_at hl 3 rfl) ?_
                refine lv_aload_n hx hb dX6_wordAmong_54 rfl (lv_at hl 4 rfl) ?_
                refine lv_iload_n hx hb dX6_wordAmong_55 rfl (lv_at hl 1 rfl) ?_
                refine lv_iload hx hb dX6_wordAmong_56 (lv_at hl 0 rfl) ?_
                refine tk_Vi (As := [.ref (ld 2), .int v12, .int v11]) (rest := []) (ci := 6) ⟨hx, hb, hml, hown, hts⟩ hK hG hZ hS (k_X6_isToken_2 l D cy ld t a0 v12 v11 ht_a0 (by omega) (by omega) (by omega) (by omega)) trivial ⟨callB_of 3 hts (wl_in mw_570) rfl rfl rfl (htl _ mw_36) (htl _ mw_567) hd_yX6_isToken ⟨(Nat.le_of_ble_eq_true rfl), (Nat.le_of_ble_eq_true rfl)⟩, htl _ mw_568, htl _ mw_569⟩ ht_a0 (by decide) tk_no rfl (tk_w.pick [] rfl) rfl hl.1 rfl (Nat.le_of_ble_eq_true rfl) dX6_wordAmong_58 ⟨(Nat.le_of_ble_eq_true rfl), (Nat.le_of_ble_eq_true rfl)⟩ (fun v288 H locs hpo hG hS hq9 => ?_)
                have hf8 := hf8.call hq9 tk_w.nil
                obtain ⟨hpo290, hpo291, hpo292, hpo293⟩ := hpo
                refine lv_if_eq (tgt := 66) hx hb dX6_wordAmong_61 (by decide) (fun c9 => ?_) (fun c9 => ?_)
                · have hc294 : v288.toInt = 0 := (fi_eq rfl (show (0 : Int32).toInt = 0 by decide)).mp c9
                  obtain ⟨v295, h_v295, e_v295⟩ := tk_inc v13 1 (by decide) (by omega) (by omega)
                  refine lv_iinc (v := v295) (lv' := [(2, .int v295), (4, .int v11), (3, .int v12), (0, .ref a0), (1, .ref (ld 2))]) hx hb dX6_wordAmong_66 hl (k := 2) rfl e_v295 (by decide) rfl (fun ls hl => ?_)
                  refine lv_iload hx hb dX6_wordAmong_69 (lv_at hl 1 rfl) ?_
                  refine lv_iconst (v := 1) hx hb dX6_wordAmong_71 (by decide) ?_
                  refine lv_iadd hx hb dX6_wordAmong_72 ?_
                  refine tk_add rfl (show (1 : Int32).toInt = 1 by decide) (by omega) (by omega) (fun v296 h_v296 => ?_)
                  refine lv_istore_n (lv' := [(3, .int v296), (2, .int v295), (4, .int v11), (0, .ref a0), (1, .ref (ld 2))]) hx hb dX6_wordAmong_73 rfl hl (by decide) rfl (fun ls hl => ?_)
                  obtain ⟨v297, h_v297, e_v297⟩ := tk_inc v11 1 (by decide) (by omega) (by omega)
                  refine lv_iinc (v := v297) (lv' := [(4, .int v297), (3, .int v296), (2, .int v295), (0, .ref a0), (1, .ref (ld 2))]) hx hb dX6_wordAmong_74 hl (k := 2) rfl e_v297 (by decide) rfl (fun ls hl => ?_)
                  refine lv_goto (tgt := 24) hx hb dX6_wordAmong_77 (by decide) ?_
                  exact ih_l263 v297 v296 v295 _ _ (by omega) (by omega) (by omega) (by omega) (by omega) hG hS hf8 _ (lv_sub hl [0, 1, 2, 3, 4] rfl)
                · have hc294 : ¬ (v288.toInt = 0) := fun h9 => c9 ((fi_eq rfl (show (0 : Int32).toInt = 0 by decide)).mpr h9)
                  refine lv_iload_n hx hb dX6_wordAmong_64 rfl (lv_at hl 2 rfl) ?_
                  exact tk_iret (v := v13) hx hb hr rfl hlocks (show (-1) ≤ v13.toInt ∧ v13.toInt ≤ 48 from ⟨(by omega), (by omega)⟩) hG hS dX6_wordAmong_65
      have hk_0 : (0 : Int32).toInt = 0 := by decide
      have hk_0 : (0 : Int32).toInt = 0 := by decide
      have hk_0 : (0 : Int32).toInt = 0 := by decide
      exact hl263 49 0 0 0 _ _ (by omega) (by omega) (by omega) (by omega) (by omega) hG hS hf8 _ (lv_sub hl [0, 1, 2, 3, 4] rfl)
    · have hc10 : ¬ (v9.toInt = 1) := fun h9 => c9 ((fi_eq rfl (show (1 : Int32).toInt = 1 by decide)).mpr h9)
      refine lv_iconst (v := (-1)) hx hb dX6_wordAmong_15 (by decide) ?_
      have hk_m1 : ((-1) : Int32).toInt = (-1) := by decide
      exact tk_iret (v := (-1)) hx hb hr rfl hlocks (show (-1) ≤ ((-1) : Int32).toInt ∧ ((-1) : Int32).toInt ≤ 48 from ⟨(by omega), (by omega)⟩) hG hS dX6_wordAmong_16
set_option maxHeartbeats 4000000 in
set_option maxRecDepth 100000 in
theorem k_J0_isLatin1_aae02_3 (l : Launch) (D : va_G) (cy : Nat → ClassId) (ld : Nat → Nat) (t : tk_T) : Met l yJ0_isLatin1_aae02 (wl yJ0_isLatin1_aae02 cJ0_isLatin1_aae02 1 (some .boolean)) ({ frames := 3, cells := 0, slots := 0, locals := 140 }) (tp D cy ld t [] [.ref (ld 3)] (fun H => True)) (ti D cy ld t [] (fun r H => r.toInt + (-1) = 0 ∧ 0 ≤ r.toInt ∧ r.toInt ≤ 1) (tk_w t [])) 0 0 (tk_w t []) := by
  refine tk_met (y := yJ0_isLatin1_aae02) (cc := cJ0_isLatin1_aae02) (maxL := 1) (ret := (some .boolean)) (av := [.ref (ld 3)]) _ _ (by decide) (Nat.le_of_ble_eq_true rfl) ?_
  intro p e s m args below meth c hx hb hr hml hts htl hown hlocks hK H locs hH hG hS hB hZ ls hl
  have hown : s.vm.findClass RJ0 = some m.cls := hown
  have hl : lv_has ls 1 [(0, .ref (ld 3))] := hl
  refine va_gets hx hb (hZ.2.1.narrow (fun _ h => h.1)) hS hown (htl _ mw_528) (fun _ h9 => h9) dJ0_isLatin1_aae02_0 ?_
  refine lv_if_eq (tgt := 17) hx hb dJ0_isLatin1_aae02_3 (by decide) (fun c9 => absurd c9 (by decide)) (fun _ => ?_)
  refine lv_aload_n hx hb dJ0_isLatin1_aae02_6 rfl (lv_at hl 0 rfl) ?_
  refine vk_getf hx hb ((hZ.1.1 3 (by decide)).2.1.narrow (fun _ h => h.1)) hS hown (htl _ mw_529) (fun _ h9 => h9) dJ0_isLatin1_aae02_7 ?_
  refine lv_if_ne (tgt := 17) hx hb dJ0_isLatin1_aae02_10 (by decide) (fun c9 => absurd (by decide) c9) (fun _ => ?_)
  refine lv_iconst (v := 1) hx hb dJ0_isLatin1_aae02_13 (by decide) ?_
  refine lv_goto (tgt := 18) hx hb dJ0_isLatin1_aae02_14 (by decide) ?_
  have hk_1 : (1 : Int32).toInt = 1 := by decide
  exact tk_iret (v := 1) hx hb hr rfl hlocks (show (1 : Int32).toInt + (-1) = 0 ∧ 0 ≤ (1 : Int32).toInt ∧ (1 : Int32).toInt ≤ 1 from ⟨(by omega), (by omega), (by omega)⟩) hG hS dJ0_isLatin1_aae02_18
set_option maxHeartbeats 4000000 in
set_option maxRecDepth 100000 in
theorem k_J1_charAt_3b067_3 (l : Launch) (D : va_G) (cy : Nat → ClassId) (ld : Nat → Nat) (t : tk_T) (p1 : Int32) (hp_0 : 0 ≤ p1.toInt) (hp_1 : p1.toInt ≤ 32) : Met l yJ1_charAt_3b067 (wl yJ1_charAt_3b067 cJ1_charAt_3b067 2 (some .char)) ({ frames := 5, cells := 0, slots := 0, locals := 280 }) (tp D cy ld t [] [.ref (ld 53), .int p1] (fun H => True)) (ti D cy ld t [] (fun r H => 0 ≤ r.toInt ∧ r.toInt ≤ 255) (tk_w t [])) 0 0 (tk_w t []) := by
  refine tk_met (y := yJ1_charAt_3b067) (cc := cJ1_charAt_3b067) (maxL := 2) (ret := (some .char)) (av := [.ref (ld 53), .int p1]) _ _ (by decide) (Nat.le_of_ble_eq_true rfl) ?_
  intro p e s m args below meth c hx hb hr hml hts htl hown hlocks hK H locs hH hG hS hB hZ ls hl
  have hown : s.vm.findClass RJ1 = some m.cls := hown
  have hl : lv_has ls 2 [(0, .ref (ld 53)), (1, .int p1)] := hl
  have hr_p1 := tk_rng p1
  refine lv_iload_n hx hb dJ1_charAt_3b067_0 rfl (lv_at hl 1 rfl) ?_
  refine lv_aload_n hx hb dJ1_charAt_3b067_1 rfl (lv_at hl 0 rfl) ?_
  refine va_tlen (v := 33) hx hb ((hZ.1.1 3 (by decide)).2.2.2.narrow (fun _ h => h.1)) hS rfl dJ1_charAt_3b067_2 ?_
  have hk_33 : (33 : Int32).toInt = 33 := by decide
  refine tk_Sv (As := [.int p1, .int 33]) (rest := []) ⟨hx, hb, hml, hown, hts⟩ hK hG hZ hS (k_J0_checkIndex_df160 l D cy ld t p1 33 (by omega) (by omega) (by omega) (by omega) (by omega)) trivial ⟨callB_of 2 hts (wl_in mw_544) rfl rfl rfl (htl _ mw_521) (htl _ mw_542) hd_yJ0_checkIndex_df160 ⟨(Nat.le_of_ble_eq_true rfl), (Nat.le_of_ble_eq_true rfl)⟩, htl _ mw_543⟩ (tk_w.pick [] rfl) rfl hl.1 rfl (Nat.le_of_ble_eq_true rfl) dJ1_charAt_3b067_3 ⟨(Nat.le_of_ble_eq_true rfl), (Nat.le_of_ble_eq_true rfl)⟩ (fun H locs hpo hG hS hq9 => ?_)
  refine lv_aload_n hx hb dJ1_charAt_3b067_6 rfl (lv_at hl 0 rfl) ?_
  refine lv_iload_n hx hb dJ1_charAt_3b067_7 rfl (lv_at hl 1 rfl) ?_
  refine va_tb hx hb ((hZ.1.1 3 (by decide)).2.2.2.narrow (fun _ h => h.1)) hS (vp_in_iff.mpr ⟨by omega, show _ < ((33 : Nat) : Int) by omega⟩) rfl dJ1_charAt_3b067_8 ?_
  refine tk_any (fun v2 => ?_)
  refine lv_sipush (v := 255) hx hb dJ1_charAt_3b067_9 (by decide) ?_
  refine lv_iand hx hb dJ1_charAt_3b067_12 ?_
  refine tk_say (P := fun z => 0 ≤ z.toInt ∧ z.toInt ≤ 255) (tk_and v2 8 (by decide) (by decide)) (fun v3 h_v3 => ?_)
  obtain ⟨v4, e_v4, h_v4⟩ := tk_i2c (x := v3) (by omega) (by omega)
  refine lv_i2c (v := v4) hx hb dJ1_charAt_3b067_13 e_v4 ?_
  exact tk_iret (v := v4) hx hb hr (tk_nc (by omega) (by omega)) hlocks (show 0 ≤ v4.toInt ∧ v4.toInt ≤ 255 from ⟨(by omega), (by omega)⟩) hG hS dJ1_charAt_3b067_14
set_option maxHeartbeats 4000000 in
set_option maxRecDepth 100000 in
theorem k_J0_charAt_5068e_3 (l : Launch) (D : va_G) (cy : Nat → ClassId) (ld : Nat → Nat) (t : tk_T) (p1 : Int32) (hp_0 : 0 ≤ p1.toInt) (hp_1 : p1.toInt ≤ 32) : Met l yJ0_charAt_5068e (wl yJ0_charAt_5068e cJ0_charAt_5068e 2 (some .char)) ({ frames := 6, cells := 0, slots := 0, locals := 350 }) (tp D cy ld t [] [.ref (ld 3), .int p1] (fun H => True)) (ti D cy ld t [] (fun r H => 0 ≤ r.toInt ∧ r.toInt ≤ 255) (tk_w t [])) 0 0 (tk_w t []) := by
  refine tk_met (y := yJ0_charAt_5068e) (cc := cJ0_charAt_5068e) (maxL := 2) (ret := (some .char)) (av := [.ref (ld 3), .int p1]) _ _ (by decide) (Nat.le_of_ble_eq_true rfl) ?_
  intro p e s m args below meth c hx hb hr hml hts htl hown hlocks hK H locs hH hG hS hB hZ ls hl
  have hown : s.vm.findClass RJ0 = some m.cls := hown
  have hl : lv_has ls 2 [(0, .ref (ld 3)), (1, .int p1)] := hl
  have hr_p1 := tk_rng p1
  refine lv_aload_n hx hb dJ0_charAt_5068e_0 rfl (lv_at hl 0 rfl) ?_
  refine tk_Ti (As := []) (rest := []) (j := 3) ⟨hx, hb, hml, hown, hts⟩ hK hG hZ hS (k_J0_isLatin1_aae02_3 l D cy ld t) trivial ⟨callB_of 0 hts (wl_in mw_537) rfl rfl rfl (htl _ mw_521) (htl _ mw_534) hd_yJ0_isLatin1_aae02 ⟨(Nat.le_of_ble_eq_true rfl), (Nat.le_of_ble_eq_true rfl)⟩, htl _ mw_535, htl _ mw_536⟩ (by decide) (tk_w.pick [] rfl) rfl hl.1 rfl (Nat.le_of_ble_eq_true rfl) dJ0_charAt_5068e_1 ⟨(Nat.le_of_ble_eq_true rfl), (Nat.le_of_ble_eq_true rfl)⟩ (fun v1 H locs hpo hG hS hq9 => ?_)
  obtain ⟨hpo3, hpo4, hpo5⟩ := hpo
  obtain rfl : v1 = 1 := (fi_eq (show v1.toInt = 1 by omega) (by decide)).mpr rfl
  refine lv_if_eq (tgt := 16) hx hb dJ0_charAt_5068e_4 (by decide) (fun c9 => absurd c9 (by decide)) (fun _ => ?_)
  refine lv_aload_n hx hb dJ0_charAt_5068e_7 rfl (lv_at hl 0 rfl) ?_
  refine vk_getf hx hb ((hZ.1.1 3 (by decide)).2.2.1.narrow (fun _ h => h.1)) hS hown (htl _ mw_523) (fun _ h9 => h9) dJ0_charAt_5068e_8 ?_
  refine lv_iload_n hx hb dJ0_charAt_5068e_11 rfl (lv_at hl 1 rfl) ?_
  refine tk_Si (As := [.ref (ld 53), .int p1]) (rest := []) ⟨hx, hb, hml, hown, hts⟩ hK hG hZ hS (k_J1_charAt_3b067_3 l D cy ld t p1 (by omega) (by omega)) trivial ⟨callB_of 2 hts (wl_in mw_541) rfl rfl rfl (htl _ mw_540) (htl _ mw_538) hd_yJ1_charAt_3b067 ⟨(Nat.le_of_ble_eq_true rfl), (Nat.le_of_ble_eq_true rfl)⟩, htl _ mw_539⟩ (tk_w.pick [] rfl) rfl hl.1 rfl (Nat.le_of_ble_eq_true rfl) dJ0_charAt_5068e_12 ⟨(Nat.le_of_ble_eq_true rfl), (Nat.le_of_ble_eq_true rfl)⟩ (fun v6 H locs hpo hG hS hq9 => ?_)
  obtain ⟨hpo8, hpo9⟩ := hpo
  exact tk_iret (v := v6) hx hb hr (tk_nc (by omega) (by omega)) hlocks (show 0 ≤ v6.toInt ∧ v6.toInt ≤ 255 from ⟨(by omega), (by omega)⟩) hG hS dJ0_charAt_5068e_15
set_option maxHeartbeats 4000000 in
set_option maxRecDepth 100000 in
theorem k_J0_coder_7d493_3 (l : Launch) (D : va_G) (cy : Nat → ClassId) (ld : Nat → Nat) (t : tk_T) : Met l yJ0_coder_7d493 (wl yJ0_coder_7d493 cJ0_coder_7d493 1 (some .byte)) ({ frames := 3, cells := 0, slots := 0, locals := 140 }) (tp D cy ld t [] [.ref (ld 3)] (fun H => True)) (ti D cy ld t [] (fun r H => r.toInt = 0) (tk_w t [])) 0 0 (tk_w t []) := by
  refine tk_met (y := yJ0_coder_7d493) (cc := cJ0_coder_7d493) (maxL := 1) (ret := (some .byte)) (av := [.ref (ld 3)]) _ _ (by decide) (Nat.le_of_ble_eq_true rfl) ?_
  intro p e s m args below meth c hx hb hr hml hts htl hown hlocks hK H locs hH hG hS hB hZ ls hl
  have hown : s.vm.findClass RJ0 = some m.cls := hown
  have hl : lv_has ls 1 [(0, .ref (ld 3))] := hl
  refine va_gets hx hb (hZ.2.1.narrow (fun _ h => h.1)) hS hown (htl _ mw_528) (fun _ h9 => h9) dJ0_coder_7d493_0 ?_
  refine lv_if_eq (tgt := 13) hx hb dJ0_coder_7d493_3 (by decide) (fun c9 => absurd c9 (by decide)) (fun _ => ?_)
  refine lv_aload_n hx hb dJ0_coder_7d493_6 rfl (lv_at hl 0 rfl) ?_
  refine vk_getf hx hb ((hZ.1.1 3 (by decide)).2.1.narrow (fun _ h => h.1)) hS hown (htl _ mw_529) (fun _ h9 => h9) dJ0_coder_7d493_7 ?_
  refine lv_goto (tgt := 14) hx hb dJ0_coder_7d493_10 (by decide) ?_
  have hk_0 : (0 : Int32).toInt = 0 := by decide
  exact tk_iret (v := 0) hx hb hr rfl hlocks (show (0 : Int32).toInt = 0 from (by omega)) hG hS dJ0_coder_7d493_14
set_option maxHeartbeats 4000000 in
set_option maxRecDepth 100000 in
theorem k_J0_length_8abf5_3 (l : Launch) (D : va_G) (cy : Nat → ClassId) (ld : Nat → Nat) (t : tk_T) : Met l yJ0_length_8abf5 (wl yJ0_length_8abf5 cJ0_length_8abf5 1 (some .int)) ({ frames := 4, cells := 0, slots := 0, locals := 210 }) (tp D cy ld t [] [.ref (ld 3)] (fun H => True)) (ti D cy ld t [] (fun r H => r.toInt + (-33) = 0) (tk_w t [])) 0 0 (tk_w t []) := by
  refine tk_met (y := yJ0_length_8abf5) (cc := cJ0_length_8abf5) (maxL := 1) (ret := (some .int)) (av := [.ref (ld 3)]) _ _ (by decide) (Nat.le_of_ble_eq_true rfl) ?_
  intro p e s m args below meth c hx hb hr hml hts htl hown hlocks hK H locs hH hG hS hB hZ ls hl
  have hown : s.vm.findClass RJ0 = some m.cls := hown
  have hl : lv_has ls 1 [(0, .ref (ld 3))] := hl
  refine lv_aload_n hx hb dJ0_length_8abf5_0 rfl (lv_at hl 0 rfl) ?_
  refine vk_getf hx hb ((hZ.1.1 3 (by decide)).2.2.1.narrow (fun _ h => h.1)) hS hown (htl _ mw_523) (fun _ h9 => h9) dJ0_length_8abf5_1 ?_
  refine va_tlen (v := 33) hx hb ((hZ.1.1 3 (by decide)).2.2.2.narrow (fun _ h => h.1)) hS rfl dJ0_length_8abf5_4 ?_
  refine lv_aload_n hx hb dJ0_length_8abf5_5 rfl (lv_at hl 0 rfl) ?_
  refine tk_Ti (As := []) (rest := [.int 33]) (j := 3) ⟨hx, hb, hml, hown, hts⟩ hK hG hZ hS (k_J0_coder_7d493_3 l D cy ld t) trivial ⟨callB_of 0 hts (wl_in mw_527) rfl rfl rfl (htl _ mw_521) (htl _ mw_524) hd_yJ0_coder_7d493 ⟨(Nat.le_of_ble_eq_true rfl), (Nat.le_of_ble_eq_true rfl)⟩, htl _ mw_525, htl _ mw_526⟩ (by decide) (tk_w.pick [] rfl) rfl hl.1 rfl (Nat.le_of_ble_eq_true rfl) dJ0_length_8abf5_6 ⟨(Nat.le_of_ble_eq_true rfl), (Nat.le_of_ble_eq_true rfl)⟩ (fun v1 H locs hpo hG hS hq9 => ?_)
  have hpo3 := hpo
  obtain rfl : v1 = 0 := (fi_eq (show v1.toInt = 0 by omega) (by decide)).mpr rfl
  refine lv_ishr hx hb dJ0_length_8abf5_9 ?_
  refine fx_ti (v := 33) (by decide) ?_
  have hk_33 : (33 : Int32).toInt = 33 := by decide
  exact tk_iret (v := 33) hx hb hr rfl hlocks (show (33 : Int32).toInt + (-33) = 0 from (by omega)) hG hS dJ0_length_8abf5_10
set_option maxHeartbeats 4000000 in
set_option maxRecDepth 100000 in
theorem k_X6_isToken_3 (l : Launch) (D : va_G) (cy : Nat → ClassId) (ld : Nat → Nat) (t : tk_T) (a0 : Nat) (p2 : Int32) (p3 : Int32) (ht_a0 : t a0 = (7, 0, 0)) (hp_0 : 0 ≤ p2.toInt) (hp_1 : p2.toInt ≤ 33) (hp_2 : 0 ≤ p3.toInt) (hp_3 : p3.toInt ≤ 33) : Met l yX6_isToken (wl yX6_isToken cX6_isToken 5 (some .boolean)) ({ frames := 7, cells := 0, slots := 0, locals := 420 }) (tp D cy ld t [] [.ref a0, .ref (ld 3), .int p2, .int p3] (fun H => True)) (ti D cy ld t [] (fun r H => 0 ≤ r.toInt ∧ r.toInt ≤ 1 ∧ 0 ≤ r.toInt ∧ r.toInt ≤ 1) (tk_w t [])) 0 0 (tk_w t []) := by
  refine tk_met (y := yX6_isToken) (cc := cX6_isToken) (maxL := 5) (ret := (some .boolean)) (av := [.ref a0, .ref (ld 3), .int p2, .int p3]) _ _ (by decide) (Nat.le_of_ble_eq_true rfl) ?_
  intro p e s m args below meth c hx hb hr hml hts htl hown hlocks hK H locs hH hG hS hB hZ ls hl
  have hown : s.vm.findClass RX6 = some m.cls := hown
  have hl : lv_has ls 5 [(0, .ref a0), (1, .ref (ld 3)), (2, .int p2), (3, .int p3)] := hl
  have hr_p2 := tk_rng p2
  have hr_p3 := tk_rng p3
  refine lv_iload_n hx hb dX6_isToken_0 rfl (lv_at hl 3 rfl) ?_
  refine lv_iload_n hx hb dX6_isToken_1 rfl (lv_at hl 2 rfl) ?_
  refine lv_isub hx hb dX6_isToken_2 ?_
  refine tk_sub rfl rfl (by omega) (by omega) (fun v1 h_v1 => ?_)
  refine lv_aload_n hx hb dX6_isToken_3 rfl (lv_at hl 0 rfl) ?_
  refine tk_get (ci := 6) (C := RX6) (T := TX6) (N := 11) (sp := (0, 0, 400, 0)) hx hb htl inX6 hown hK hG ht_a0 (by decide) tk_no rfl 5 (by decide) (htl _ mw_478) (fun _ h9 => h9) rfl dX6_isToken_4 (fun v9 hf2 hV9 => ?_)
  obtain ⟨v3, rfl, (ha_v3 : 0 ≤ v3.toInt), (hb_v3 : v3.toInt ≤ 400)⟩ := hV9
  refine lv_aload_n hx hb dX6_isToken_7 rfl (lv_at hl 0 rfl) ?_
  refine tk_get (ci := 6) (C := RX6) (T := TX6) (N := 11) (sp := (0, 0, 400, 0)) hx hb htl inX6 hown hK hG ht_a0 (by decide) tk_no rfl 4 (by decide) (htl _ mw_495) (fun _ h9 => h9) rfl dX6_isToken_8 (fun v9 hf4 hV9 => ?_)
  obtain ⟨v5, rfl, (ha_v5 : 0 ≤ v5.toInt), (hb_v5 : v5.toInt ≤ 400)⟩ := hV9
  refine lv_isub hx hb dX6_isToken_11 ?_
  refine tk_sub rfl rfl (by omega) (by omega) (fun v6 h_v6 => ?_)
  refine lv_icmp_eq (tgt := 17) hx hb dX6_isToken_12 (by decide) (fun c9 => ?_) (fun c9 => ?_)
  · have hc7 : v1.toInt = v6.toInt := (fi_eq rfl rfl).mp c9
    refine lv_iload_n hx hb dX6_isToken_17 rfl (lv_at hl 2 rfl) ?_
    refine lv_istore (lv' := [(4, .int p2), (0, .ref a0), (1, .ref (ld 3)), (2, .int p2), (3, .int p3)]) hx hb dX6_isToken_18 hl (by decide) rfl (fun ls hl => ?_)
    have hl82 : ∀ (N_l82 : Nat) (v8 : Int32) (H : Heap) (locs : List Loc), v8.toInt ≤ 33 → 0 ≤ (-1) * p2.toInt + v8.toInt → (-1) * v8.toInt + 33 < (N_l82 : Int) → tk_G D cy ld t [] H → va_S (tk_w t []) s.heap H locs → tk_f D H a0 6 5 (.int v3) → tk_f D H a0 6 4 (.int v5) → ∀ ls : Array Slot, lv_has ls 5 [(4, .int v8), (0, .ref a0), (1, .ref (ld 3)), (2, .int p2), (3, .int p3)] → W p l e ({ frames := 7, cells := 0, slots := 0, locals := 420 }) s m args below meth c H locs 0 0 (MQ below (ti D cy ld t [] (fun r H => 0 ≤ r.toInt ∧ r.toInt ≤ 1 ∧ 0 ≤ r.toInt ∧ r.toInt ≤ 1) (tk_w t [])) args s 0 0 (tk_w t [])) (F0 m 20 ls []) := by
      intro N_l82
      induction N_l82 with
      | zero => intro v8 H locs hq0_l82 hq1_l82 hm_l82 hG hS hf2 hf4 ls hl; exfalso; omega
      | succ N_l82 ih_l82 =>
        intro v8 H locs hq0_l82 hq1_l82 hm_l82 hG hS hf2 hf4 ls hl
        refine lv_iload hx hb dX6_isToken_20 (lv_at hl 0 rfl) ?_
        refine lv_iload_n hx hb dX6_isToken_22 rfl (lv_at hl 4 rfl) ?_
        refine lv_icmp_ge (tgt := 57) hx hb dX6_isToken_23 (by decide) (fun c9 => ?_) (fun c9 => ?_)
        · have hc83 : p3.toInt ≤ v8.toInt := (fi_le rfl rfl).mp c9
          refine lv_iconst (v := 1) hx hb dX6_isToken_57 (by decide) ?_
          have hk_1 : (1 : Int32).toInt = 1 := by decide
          exact tk_iret (v := 1) hx hb hr rfl hlocks (show 0 ≤ (1 : Int32).toInt ∧ (1 : Int32).toInt ≤ 1 ∧ 0 ≤ (1 : Int32).toInt ∧ (1 : Int32).toInt ≤ 1 from ⟨(by omega), (by omega), (by omega), (by omega)⟩) hG hS dX6_isToken_58
        · have hc83 : ¬ (p3.toInt ≤ v8.toInt) := fun h9 => c9 ((fi_le rfl rfl).mpr h9)
          refine lv_aload_n hx hb dX6_isToken_26 rfl (lv_at hl 2 rfl) ?_
          refine lv_iload hx hb dX6_isToken_27 (lv_at hl 0 rfl) ?_
          refine tk_Ti (As := [.int v8]) (rest := []) (j := 3) ⟨hx, hb, hml, hown, hts⟩ hK hG hZ hS (k_J0_charAt_5068e_3 l D cy ld t v8 (by omega) (by omega)) trivial ⟨callB_of 1 hts (wl_in mw_533) rfl rfl rfl (htl _ mw_521) (htl _ mw_530) hd_yJ0_charAt_5068e ⟨(Nat.le_of_ble_eq_true rfl), (Nat.le_of_ble_eq_true rfl)⟩, htl _ mw_531, htl _ mw_532⟩ (by decide) (tk_w.pick [] rfl) rfl hl.1 rfl (Nat.le_of_ble_eq_true rfl) dX6_isToken_29 ⟨(Nat.le_of_ble_eq_true rfl), (Nat.le_of_ble_eq_true rfl)⟩ (fun v84 H locs hpo hG hS hq9 => ?_)
          have hf2 := hf2.call hq9 tk_w.nil
          have hf4 := hf4.call hq9 tk_w.nil
          obtain ⟨hpo86, hpo87⟩ := hpo
          refine lv_aload_n hx hb dX6_isToken_32 rfl (lv_at hl 1 rfl) ?_
          refine tk_get (ci := 6) (C := RX6) (T := TX6) (N := 11) (sp := (6, 20, 400, 9)) hx hb htl inX6 hown hK hG ht_a0 (by decide) tk_no rfl 1 (by decide) (htl _ mw_133) (fun _ h9 => h9) rfl dX6_isToken_33 (fun v9 hf88 hV9 => ?_)
          obtain ⟨b89, rfl, ht_b89⟩ := hV9
          have ht_b89 : t b89 = (20, 400, 9) := ht_b89
          refine lv_aload_n hx hb dX6_isToken_36 rfl (lv_at hl 1 rfl) ?_
          refine tk_getk (ci := 6) (C := RX6) (T := TX6) (N := 11) (sp := (0, 0, 400, 0)) hx hb htl inX6 hown hK hG ht_a0 (by decide) tk_no rfl 4 (by decide) (htl _ mw_495) (fun _ h9 => h9) rfl hf4 dX6_isToken_37 ?_
          refine lv_iload hx hb dX6_isToken_40 (lv_at hl 0 rfl) ?_
          refine lv_iadd hx hb dX6_isToken_42 ?_
          refine tk_add rfl rfl (by omega) (by omega) (fun v90 h_v90 => ?_)
          refine lv_iload_n hx hb dX6_isToken_43 rfl (lv_at hl 3 rfl) ?_
          refine lv_isub hx hb dX6_isToken_44 ?_
          refine tk_sub rfl rfl (by omega) (by omega) (fun v91 h_v91 => ?_)
          refine tk_iald hx hb hK hG ht_b89 (by decide) (fun _ h => h) tk_no rfl (by omega) (by omega) dX6_isToken_45 (fun v92 _ _ => ?_)
          have hr_v92 := tk_rng v92
          refine lv_icmp_eq (tgt := 51) hx hb dX6_isToken_46 (by decide) (fun c9 => ?_) (fun c9 => ?_)
          · have hc93 : v84.toInt = v92.toInt := (fi_eq rfl rfl).mp c9
            obtain ⟨v94, h_v94, e_v94⟩ := tk_inc v8 1 (by decide) (by omega) (by omega)
            refine lv_iinc (v := v94) (lv' := [(4, .int v94), (0, .ref a0), (1, .ref (ld 3)), (2, .int p2), (3, .int p3)]) hx hb dX6_isToken_51 hl (k := 0) rfl e_v94 (by decide) rfl (fun ls hl => ?_)
            refine lv_goto (tgt := 20) hx hb dX6_isToken_54 (by decide) ?_
            exact ih_l82 v94 _ _ (by omega) (by omega) (by omega) hG hS hf2 hf4 _ (lv_sub hl [0, 1, 2, 3, 4] rfl)
          · have hc93 : ¬ (v84.toInt = v92.toInt) := fun h9 => c9 ((fi_eq rfl rfl).mpr h9)
            refine lv_iconst (v := 0) hx hb dX6_isToken_49 (by decide) ?_
            have hk_0 : (0 : Int32).toInt = 0 := by decide
            exact tk_iret (v := 0) hx hb hr rfl hlocks (show 0 ≤ (0 : Int32).toInt ∧ (0 : Int32).toInt ≤ 1 ∧ 0 ≤ (0 : Int32).toInt ∧ (0 : Int32).toInt ≤ 1 from ⟨(by omega), (by omega), (by omega), (by omega)⟩) hG hS dX6_isToken_50
    exact hl82 34 p2 _ _ (by omega) (by omega) (by omega) hG hS hf2 hf4 _ (lv_sub hl [0, 1, 2, 3, 4] rfl)
  · have hc7 : ¬ (v1.toInt = v6.toInt) := fun h9 => c9 ((fi_eq rfl rfl).mpr h9)
    refine lv_iconst (v := 0) hx hb dX6_isToken_15 (by decide) ?_
    have hk_0 : (0 : Int32).toInt = 0 := by decide
    exact tk_iret (v := 0) hx hb hr rfl hlocks (show 0 ≤ (0 : Int32).toInt ∧ (0 : Int32).toInt ≤ 1 ∧ 0 ≤ (0 : Int32).toInt ∧ (0 : Int32).toInt ≤ 1 from ⟨(by omega), (by omega), (by omega), (by omega)⟩) hG hS dX6_isToken_16
set_option maxHeartbeats 4000000 in
set_option maxRecDepth 100000 in
theorem k_X6_wordAmong_3 (l : Launch) (D : va_G) (cy : Nat → ClassId) (ld : Nat → Nat) (t : tk_T) (a0 : Nat) (ht_a0 : t a0 = (7, 0, 0)) : Met l yX6_wordAmong (wl yX6_wordAmong cX6_wordAmong 5 (some .int)) ({ frames := 8, cells := 0, slots := 0, locals := 490 }) (tp D cy ld t [] [.ref a0, .ref (ld 3)] (fun H => True)) (ti D cy ld t [] (fun r H => (-1) ≤ r.toInt ∧ r.toInt ≤ 33) (tk_w t [])) 0 0 (tk_w t []) := by
  refine tk_met (y := yX6_wordAmong) (cc := cX6_wordAmong) (maxL := 5) (ret := (some .int)) (av := [.ref a0, .ref (ld 3)]) _ _ (by decide) (Nat.le_of_ble_eq_true rfl) ?_
  intro p e s m args below meth c hx hb hr hml hts htl hown hlocks hK H locs hH hG hS hB hZ ls hl
  have hown : s.vm.findClass RX6 = some m.cls := hown
  have hl : lv_has ls 5 [(0, .ref a0), (1, .ref (ld 3))] := hl
  refine lv_aload_n hx hb dX6_wordAmong_0 rfl (lv_at hl 0 rfl) ?_
  refine tk_Vi (As := []) (rest := []) (ci := 6) ⟨hx, hb, hml, hown, hts⟩ hK hG hZ hS (k_X6_isGood l D cy ld t a0 ht_a0) trivial ⟨callB_of 0 hts (wl_in mw_503) rfl rfl rfl (htl _ mw_36) (htl _ mw_500) hd_yX6_isGood ⟨(Nat.le_of_ble_eq_true rfl), (Nat.le_of_ble_eq_true rfl)⟩, htl _ mw_501, htl _ mw_502⟩ ht_a0 (by decide) tk_no rfl (tk_w.pick [] rfl) rfl hl.1 rfl (Nat.le_of_ble_eq_true rfl) dX6_wordAmong_1 ⟨(Nat.le_of_ble_eq_true rfl), (Nat.le_of_ble_eq_true rfl)⟩ (fun v1 H locs hpo hG hS hq9 => ?_)
  obtain ⟨hpo3, hpo4, hpo5, hpo6⟩ := hpo
  refine lv_if_eq (tgt := 15) hx hb dX6_wordAmong_4 (by decide) (fun c9 => ?_) (fun c9 => ?_)
  · have hc7 : v1.toInt = 0 := (fi_eq rfl (show (0 : Int32).toInt = 0 by decide)).mp c9
    refine lv_iconst (v := (-1)) hx hb dX6_wordAmong_15 (by decide) ?_
    have hk_m1 : ((-1) : Int32).toInt = (-1) := by decide
    exact tk_iret (v := (-1)) hx hb hr rfl hlocks (show (-1) ≤ ((-1) : Int32).toInt ∧ ((-1) : Int32).toInt ≤ 33 from ⟨(by omega), (by omega)⟩) hG hS dX6_wordAmong_16
  · have hc7 : ¬ (v1.toInt = 0) := fun h9 => c9 ((fi_eq rfl (show (0 : Int32).toInt = 0 by decide)).mpr h9)
    refine lv_aload_n hx hb dX6_wordAmong_7 rfl (lv_at hl 0 rfl) ?_
    refine tk_get (ci := 6) (C := RX6) (T := TX6) (N := 11) (sp := (0, (-2147483648), 2147483647, 0)) hx hb htl inX6 hown hK hG ht_a0 (by decide) tk_no rfl 6 (by decide) (htl _ mw_482) (fun _ h9 => h9) rfl dX6_wordAmong_8 (fun v9 hf8 hV9 => ?_)
    obtain ⟨v9, rfl, (ha_v9 : (-2147483648) ≤ v9.toInt), (hb_v9 : v9.toInt ≤ 2147483647)⟩ := hV9
    refine lv_iconst (v := 1) hx hb dX6_wordAmong_11 (by decide) ?_
    refine lv_icmp_eq (tgt := 17) hx hb dX6_wordAmong_12 (by decide) (fun c9 => ?_) (fun c9 => ?_)
    · have hc10 : v9.toInt = 1 := (fi_eq rfl (show (1 : Int32).toInt = 1 by decide)).mp c9
      refine lv_iconst (v := 0) hx hb dX6_wordAmong_17 (by decide) ?_
      refine lv_istore_n (lv' := [(2, .int 0), (0, .ref a0), (1, .ref (ld 3))]) hx hb dX6_wordAmong_18 rfl hl (by decide) rfl (fun ls hl => ?_)
      refine lv_iconst (v := 0) hx hb dX6_wordAmong_19 (by decide) ?_
      refine lv_istore_n (lv' := [(3, .int 0), (2, .int 0), (0, .ref a0), (1, .ref (ld 3))]) hx hb dX6_wordAmong_20 rfl hl (by decide) rfl (fun ls hl => ?_)
      refine lv_iconst (v := 0) hx hb dX6_wordAmong_21 (by decide) ?_
      refine lv_istore (lv' := [(4, .int 0), (3, .int 0), (2, .int 0), (0, .ref a0), (1, .ref (ld 3))]) hx hb dX6_wordAmong_22 hl (by decide) rfl (fun ls hl => ?_)
      have hl263 : ∀ (N_l263 : Nat) (v11 : Int32) (v12 : Int32) (v13 : Int32) (H : Heap) (locs : List Loc), v11.toInt ≤ 34 → 0 ≤ v13.toInt → 0 ≤ v11.toInt + (-1) * v12.toInt → 0 ≤ v12.toInt + (-1) * v13.toInt → (-1) * v11.toInt + 34 < (N_l263 : Int) → tk_G D cy ld t [] H → va_S (tk_w t []) s.heap H locs → tk_f D H a0 6 6 (.int v9) → ∀ ls : Array Slot, lv_has ls 5 [(4, .int v11), (3, .int v12), (2, .int v13), (0, .ref a0), (1, .ref (ld 3))] → W p l e ({ frames := 8, cells := 0, slots := 0, locals := 490 }) s m args below meth c H locs 0 0 (MQ below (ti D cy ld t [] (fun r H => (-1) ≤ r.toInt ∧ r.toInt ≤ 33) (tk_w t [])) args s 0 0 (tk_w t [])) (F0 m 24 ls []) := by
        intro N_l263
        induction N_l263 with
        | zero => intro v11 v12 v13 H locs hq0_l263 hq1_l263 hq2_l263 hq3_l263 hm_l263 hG hS hf8 ls hl; exfalso; omega
        | succ N_l263 ih_l263 =>
          intro v11 v12 v13 H locs hq0_l263 hq1_l263 hq2_l263 hq3_l263 hm_l263 hG hS hf8 ls hl
          refine lv_iload hx hb dX6_wordAmong_24 (lv_at hl 0 rfl) ?_
          refine lv_aload_n hx hb dX6_wordAmong_26 rfl (lv_at hl 4 rfl) ?_
          refine tk_Ti (As := []) (rest := [.int v11]) (j := 3) ⟨hx, hb, hml, hown, hts⟩ hK hG hZ hS (k_J0_length_8abf5_3 l D cy ld t) trivial ⟨callB_of 0 hts (wl_in mw_522) rfl rfl rfl (htl _ mw_521) (htl _ mw_518) hd_yJ0_length_8abf5 ⟨(Nat.le_of_ble_eq_true rfl), (Nat.le_of_ble_eq_true rfl)⟩, htl _ mw_519, htl _ mw_520⟩ (by decide) (tk_w.pick [] rfl) rfl hl.1 rfl (Nat.le_of_ble_eq_true rfl) dX6_wordAmong_27 ⟨(Nat.le_of_ble_eq_true rfl), (Nat.le_of_ble_eq_true rfl)⟩ (fun v264 H locs hpo hG hS hq9 => ?_)
          have hf8 := hf8.call hq9 tk_w.nil
          have hpo266 := hpo
          obtain rfl : v264 = 33 := (fi_eq (show v264.toInt = 33 by omega) (by decide)).mpr rfl
          refine lv_icmp_gt (tgt := 80) hx hb dX6_wordAmong_30 (by decide) (fun c9 => ?_) (fun c9 => ?_)
          · have hc267 : 33 < v11.toInt := (fi_lt (show (33 : Int32).toInt = 33 by decide) rfl).mp c9
            refine lv_iconst (v := (-1)) hx hb dX6_wordAmong_80 (by decide) ?_
            have hk_m1 : ((-1) : Int32).toInt = (-1) := by decide
            exact tk_iret (v := (-1)) hx hb hr rfl hlocks (show (-1) ≤ ((-1) : Int32).toInt ∧ ((-1) : Int32).toInt ≤ 33 from ⟨(by omega), (by omega)⟩) hG hS dX6_wordAmong_81
          · have hc267 : ¬ (33 < v11.toInt) := fun h9 => c9 ((fi_lt (show (33 : Int32).toInt = 33 by decide) rfl).mpr h9)
            refine lv_iload hx hb dX6_wordAmong_33 (lv_at hl 0 rfl) ?_
            refine lv_aload_n hx hb dX6_wordAmong_35 rfl (lv_at hl 4 rfl) ?_
            refine tk_Ti (As := []) (rest := [.int v11]) (j := 3) ⟨hx, hb, hml, hown, hts⟩ hK hG hZ hS (k_J0_length_8abf5_3 l D cy ld t) trivial ⟨callB_of 0 hts (wl_in mw_522) rfl rfl rfl (htl _ mw_521) (htl _ mw_518) hd_yJ0_length_8abf5 ⟨(Nat.le_of_ble_eq_true rfl), (Nat.le_of_ble_eq_true rfl)⟩, htl _ mw_519, htl _ mw_520⟩ (by decide) (tk_w.pick [] rfl) rfl hl.1 rfl (Nat.le_of_ble_eq_true rfl) dX6_wordAmong_36 ⟨(Nat.le_of_ble_eq_true rfl), (Nat.le_of_ble_eq_true rfl)⟩ (fun v268 H locs hpo hG hS hq9 => ?_)
            have hf8 := hf8.call hq9 tk_w.nil
            have hpo270 := hpo
            obtain rfl : v268 = 33 := (fi_eq (show v268.toInt = 33 by omega) (by decide)).mpr rfl
            refine lv_icmp_eq (tgt := 53) hx hb dX6_wordAmong_39 (by decide) (fun c9 => ?_) (fun c9 => ?_)
            · have hc271 : v11.toInt = 33 := (fi_eq rfl (show (33 : Int32).toInt = 33 by decide)).mp c9
              refine lv_aload_n hx hb dX6_wordAmong_53 rfl (lv_at hl 3 rfl) ?_
              refine lv_aload_n hx hb dX6_wordAmong_54 rfl (lv_at hl 4 rfl) ?_
              refine lv_iload_n hx hb dX6_wordAmong_55 rfl (lv_at hl 1 rfl) ?_
              refine lv_iload hx hb dX6_wordAmong_56 (lv_at hl 0 rfl) ?_
              refine tk_Vi (As := [.ref (ld 3), .int v12, .int v11]) (rest := []) (ci := 6) ⟨hx, hb, hml, hown, hts⟩ hK hG hZ hS (k_X6_isToken_3 l D cy ld t a0 v12 v11 ht_a0 (by omega) (by omega) (by omega) (by omega)) trivial ⟨callB_of 3 hts (wl_in mw_570) rfl rfl rfl (htl _ mw_36) (htl _ mw_567) hd_yX6_isToken ⟨(Nat.le_of_ble_eq_true rfl), (Nat.le_of_ble_eq_true rfl)⟩, htl _ mw_568, htl _ mw_569⟩ ht_a0 (by decide) tk_no rfl (tk_w.pick [] rfl) rfl hl.1 rfl (Nat.le_of_ble_eq_true rfl) dX6_wordAmong_58 ⟨(Nat.le_of_ble_eq_true rfl), (Nat.le_of_ble_eq_true rfl)⟩ (fun v272 H locs hpo hG hS hq9 => ?_)
              have hf8 := hf8.call hq9 tk_w.nil
              obtain ⟨hpo274, hpo275, hpo276, hpo277⟩ := hpo
              refine lv_if_eq (tgt := 66) hx hb dX6_wordAmong_61 (by decide) (fun c9 => ?_) (fun c9 => ?_)
              · have hc278 : v272.toInt = 0 := (fi_eq rfl (show (0 : Int32).toInt = 0 by decide)).mp c9
                obtain ⟨v279, h_v279, e_v279⟩ := tk_inc v13 1 (by decide) (by omega) (by omega)
                refine lv_iinc (v := v279) (lv' := [(2, .int v279), (4, .int v11), (3, .int v12), (0, .ref a0), (1, .ref (ld 3))]) hx hb dX6_wordAmong_66 hl (k := 2) rfl e_v279 (by decide) rfl (fun ls hl => ?_)
                refine lv_iload hx hb dX6_wordAmong_69 (lv_at hl 1 rfl) ?_
                refine lv_iconst (v := 1) hx hb dX6_wordAmong_71 (by decide) ?_
                refine lv_iadd hx hb dX6_wordAmong_72 ?_
                refine tk_add rfl (show (1 : Int32).toInt = 1 by decide) (by omega) (by omega) (fun v280 h_v280 => ?_)
                refine lv_istore_n (lv' := [(3, .int v280), (2, .int v279), (4, .int v11), (0, .ref a0), (1, .ref (ld 3))]) hx hb dX6_wordAmong_73 rfl hl (by decide) rfl (fun ls hl => ?_)
                obtain ⟨v281, h_v281, e_v281⟩ := tk_inc v11 1 (by decide) (by omega) (by omega)
                refine lv_iinc (v := v281) (lv' := [(4, .int v281), (3, .int v280), (2, .int v279), (0, .ref a0), (1, .ref (ld 3))]) hx hb dX6_wordAmong_74 hl (k := 2) rfl e_v281 (by decide) rfl (fun ls hl => ?_)
                refine lv_goto (tgt := 24) hx hb dX6_wordAmong_77 (by decide) ?_
                exact ih_l263 v281 v280 v279 _ _ (by omega) (by omega) (by omega) (by omega) (by omega) hG hS hf8 _ (lv_sub hl [0, 1, 2, 3, 4] rfl)
              · have hc278 : ¬ (v272.toInt = 0) := fun h9 => c9 ((fi_eq rfl (show (0 : Int32).toInt = 0 by decide)).mpr h9)
                refine lv_iload_n hx hb dX6_wordAmong_64 rfl (lv_at hl 2 rfl) ?_
                exact tk_iret (v := v13) hx hb hr rfl hlocks (show (-1) ≤ v13.toInt ∧ v13.toInt ≤ 33 from ⟨(by omega), (by omega)⟩) hG hS dX6_wordAmong_65
            · have hc271 : ¬ (v11.toInt = 33) := fun h9 => c9 ((fi_eq rfl (show (33 : Int32).toInt = 33 by decide)).mpr h9)
              refine lv_aload_n hx hb dX6_wordAmong_42 rfl (lv_at hl 4 rfl) ?_
              refine lv_iload hx hb dX6_wordAmong_43 (lv_at hl 0 rfl) ?_
              refine tk_Ti (As := [.int v11]) (rest := []) (j := 3) ⟨hx, hb, hml, hown, hts⟩ hK hG hZ hS (k_J0_charAt_5068e_3 l D cy ld t v11 (by omega) (by omega)) trivial ⟨callB_of 1 hts (wl_in mw_533) rfl rfl rfl (htl _ mw_521) (htl _ mw_530) hd_yJ0_charAt_5068e ⟨(Nat.le_of_ble_eq_true rfl), (Nat.le_of_ble_eq_true rfl)⟩, htl _ mw_531, htl _ mw_532⟩ (by decide) (tk_w.pick [] rfl) rfl hl.1 rfl (Nat.le_of_ble_eq_true rfl) dX6_wordAmong_45 ⟨(Nat.le_of_ble_eq_true rfl), (Nat.le_of_ble_eq_true rfl)⟩ (fun v282 H locs hpo hG hS hq9 => ?_)
              have hf8 := hf8.call hq9 tk_w.nil
              obtain ⟨hpo284, hpo285⟩ := hpo
              refine lv_bipush (v := 32) hx hb dX6_wordAmong_48 (by decide) ?_
              refine lv_icmp_ne (tgt := 74) hx hb dX6_wordAmong_50 (by decide) (fun c9 => ?_) (fun c9 => ?_)
              · have hc286 : ¬ (v282.toInt = 32) := fun h9 => c9 ((fi_eq rfl (show (32 : Int32).toInt = 32 by decide)).mpr h9)
                obtain ⟨v287, h_v287, e_v287⟩ := tk_inc v11 1 (by decide) (by omega) (by omega)
                refine lv_iinc (v := v287) (lv' := [(4, .int v287), (3, .int v12), (2, .int v13), (0, .ref a0), (1, .ref (ld 3))]) hx hb dX6_wordAmong_74 hl (k := 0) rfl e_v287 (by decide) rfl (fun ls hl => ?_)
                refine lv_goto (tgt := 24) hx hb dX6_wordAmong_77 (by decide) ?_
                exact ih_l263 v287 v12 v13 _ _ (by omega) (by omega) (by omega) (by omega) (by omega) hG hS hf8 _ (lv_sub hl [0, 1, 2, 3, 4] rfl)
              · have hc286 : v282.toInt = 32 := (fi_eq rfl (show (32 : Int32).toInt = 32 by decide)).mp c9
                refine lv_aload_n hx hb dX6_wordAmong_53 rfl (lv_at hl 3 rfl) ?_
                refine lv_aload_n hx hb dX6_wordAmong_54 rfl (lv_at hl 4 rfl) ?_
                refine lv_iload_n hx hb dX6_wordAmong_55 rfl (lv_at hl 1 rfl) ?_
                refine lv_iload hx hb dX6_wordAmong_56 (lv_at hl 0 rfl) ?_
                refine tk_Vi (As := [.ref (ld 3), .int v12, .int v11]) (rest := []) (ci := 6) ⟨hx, hb, hml, hown, hts⟩ hK hG hZ hS (k_X6_isToken_3 l D cy ld t a0 v12 v11 ht_a0 (by omega) (by omega) (by omega) (by omega)) trivial ⟨callB_of 3 hts (wl_in mw_570) rfl rfl rfl (htl _ mw_36) (htl _ mw_567) hd_yX6_isToken ⟨(Nat.le_of_ble_eq_true rfl), (Nat.le_of_ble_eq_true rfl)⟩, htl _ mw_568, htl _ mw_569⟩ ht_a0 (by decide) tk_no rfl (tk_w.pick [] rfl) rfl hl.1 rfl (Nat.le_of_ble_eq_true rfl) dX6_wordAmong_58 ⟨(Nat.le_of_ble_eq_true rfl), (Nat.le_of_ble_eq_true rfl)⟩ (fun v288 H locs hpo hG hS hq9 => ?_)
                have hf8 := hf8.call hq9 tk_w.nil
                obtain ⟨hpo290, hpo291, hpo292, hpo293⟩ := hpo
                refine lv_if_eq (tgt := 66) hx hb dX6_wordAmong_61 (by decide) (fun c9 => ?_) (fun c9 => ?_)
                · have hc294 : v288.toInt = 0 := (fi_eq rfl (show (0 : Int32).toInt = 0 by decide)).mp c9
                  obtain ⟨v295, h_v295, e_v295⟩ := tk_inc v13 1 (by decide) (by omega) (by omega)
                  refine lv_iinc (v := v295) (lv' := [(2, .int v295), (4, .int v11), (3, .int v12), (0, .ref a0), (1, .ref (ld 3))]) hx hb dX6_wordAmong_66 hl (k := 2) rfl e_v295 (by decide) rfl (fun ls hl => ?_)
                  refine lv_iload hx hb dX6_wordAmong_69 (lv_at hl 1 rfl) ?_
                  refine lv_iconst (v := 1) hx hb dX6_wordAmong_71 (by decide) ?_
                  refine lv_iadd hx hb dX6_wordAmong_72 ?_
                  refine tk_add rfl (show (1 : Int32).toInt = 1 by decide) (by omega) (by omega) (fun v296 h_v296 => ?_)
                  refine lv_istore_n (lv' := [(3, .int v296), (2, .int v295), (4, .int v11), (0, .ref a0), (1, .ref (ld 3))]) hx hb dX6_wordAmong_73 rfl hl (by decide) rfl (fun ls hl => ?_)
                  obtain ⟨v297, h_v297, e_v297⟩ := tk_inc v11 1 (by decide) (by omega) (by omega)
                  refine lv_iinc (v := v297) (lv' := [(4, .int v297), (3, .int v296), (2, .int v295), (0, .ref a0), (1, .ref (ld 3))]) hx hb dX6_wordAmong_74 hl (k := 2) rfl e_v297 (by decide) rfl (fun ls hl => ?_)
                  refine lv_goto (tgt := 24) hx hb dX6_wordAmong_77 (by decide) ?_
                  exact ih_l263 v297 v296 v295 _ _ (by omega) (by omega) (by omega) (by omega) (by omega) hG hS hf8 _ (lv_sub hl [0, 1, 2, 3, 4] rfl)
                · have hc294 : ¬ (v288.toInt = 0) := fun h9 => c9 ((fi_eq rfl (show (0 : Int32).toInt = 0 by decide)).mpr h9)
                  refine lv_iload_n hx hb dX6_wordAmong_64 rfl (lv_at hl 2 rfl) ?_
                  exact tk_iret (v := v13) hx hb hr rfl hlocks (show (-1) ≤ v13.toInt ∧ v13.toInt ≤ 33 from ⟨(by omega), (by omega)⟩) hG hS dX6_wordAmong_65
      have hk_0 : (0 : Int32).toInt = 0 := by decide
      have hk_0 : (0 : Int32).toInt = 0 := by decide
      have hk_0 : (0 : Int32).toInt = 0 := by decide
      exact hl263 35 0 0 0 _ _ (by omega) (by omega) (by omega) (by omega) (by omega) hG hS hf8 _ (lv_sub hl [0, 1, 2, 3, 4] rfl)
    · have hc10 : ¬ (v9.toInt = 1) := fun h9 => c9 ((fi_eq rfl (show (1 : Int32).toInt = 1 by decide)).mpr h9)
      refine lv_iconst (v := (-1)) hx hb dX6_wordAmong_15 (by decide) ?_
      have hk_m1 : ((-1) : Int32).toInt = (-1) := by decide
      exact tk_iret (v := (-1)) hx hb hr rfl hlocks (show (-1) ≤ ((-1) : Int32).toInt ∧ ((-1) : Int32).toInt ≤ 33 from ⟨(by omega), (by omega)⟩) hG hS dX6_wordAmong_16
theorem dX7_put_0 : decode cX7_put 0 = .ok (.aload_n 0, 1) := by decide +kernel
theorem dX7_put_1 : decode cX7_put 1 = .ok (.getfield 30, 3) := by decide +kernel
theorem dX7_put_4 : decode cX7_put 4 = .ok (.aload_n 0, 1) := by decide +kernel
theorem dX7_put_5 : decode cX7_put 5 = .ok (.getfield 9, 3) := by decide +kernel
theorem dX7_put_8 : decode cX7_put 8 = .ok (.arraylength, 1) := by decide +kernel
theorem dX7_put_9 : decode cX7_put 9 = .ok (.if_icmp .ge 33, 3) := by decide +kernel
theorem dX7_put_42 : decode cX7_put 42 = .ok (.return_, 1) := by decide +kernel
theorem dX7_put_12 : decode cX7_put 12 = .ok (.aload_n 0, 1) := by decide +kernel
theorem dX7_put_13 : decode cX7_put 13 = .ok (.getfield 9, 3) := by decide +kernel
theorem dX7_put_16 : decode cX7_put 16 = .ok (.aload_n 0, 1) := by decide +kernel
theorem dX7_put_17 : decode cX7_put 17 = .ok (.getfield 30, 3) := by decide +kernel
theorem dX7_put_20 : decode cX7_put 20 = .ok (.iload_n 1, 1) := by decide +kernel
theorem dX7_put_21 : decode cX7_put 21 = .ok (.iastore, 1) := by decide +kernel
theorem dX7_put_22 : decode cX7_put 22 = .ok (.aload_n 0, 1) := by decide +kernel
theorem dX7_put_23 : decode cX7_put 23 = .ok (.getfield 15, 3) := by decide +kernel
theorem dX7_put_26 : decode cX7_put 26 = .ok (.aload_n 0, 1) := by decide +kernel
theorem dX7_put_27 : decode cX7_put 27 = .ok (.getfield 30, 3) := by decide +kernel
theorem dX7_put_30 : decode cX7_put 30 = .ok (.iload_n 2, 1) := by decide +kernel
theorem dX7_put_31 : decode cX7_put 31 = .ok (.iastore, 1) := by decide +kernel
theorem dX7_put_32 : decode cX7_put 32 = .ok (.aload_n 0, 1) := by decide +kernel
theorem dX7_put_33 : decode cX7_put 33 = .ok (.dup, 1) := by decide +kernel
theorem dX7_put_34 : decode cX7_put 34 = .ok (.getfield 30, 3) := by decide +kernel
theorem dX7_put_37 : decode cX7_put 37 = .ok (.iconst 1, 1) := by decide +kernel
theorem dX7_put_38 : decode cX7_put 38 = .ok (.iadd, 1) := by decide +kernel
theorem dX7_put_39 : decode cX7_put 39 = .ok (.putfield 30, 3) := by decide +kernel
set_option maxHeartbeats 4000000 in
set_option maxRecDepth 100000 in
theorem k_X7_put (l : Launch) (D : va_G) (cy : Nat → ClassId) (ld : Nat → Nat) (t : tk_T) (a0 : Nat) (p1 : Int32) (p2 : Int32) (ht_a0 : t a0 = (8, 512, 12)) : Met l yX7_put (wl yX7_put cX7_put 3 none) ({ frames := 3, cells := 0, slots := 0, locals := 140 }) (tp D cy ld t [] [.ref a0, .int p1, .int p2] (fun H => True)) (tv D cy ld t [] (fun H => True) (tk_w t [(20, 0, 0), (8, 12, 12)])) 0 0 (tk_w t [(20, 0, 0), (8, 12, 12)]) := by
  refine tk_met (y := yX7_put) (cc := cX7_put) (maxL := 3) (ret := none) (av := [.ref a0, .int p1, .int p2]) _ _ (by decide) (Nat.le_of_ble_eq_true rfl) ?_
  intro p e s m args below meth c hx hb hr hml hts htl hown hlocks hK H locs hH hG hS hB hZ ls hl
  have hown : s.vm.findClass RX7 = some m.cls := hown
  have hl : lv_has ls 3 [(0, .ref a0), (1, .int p1), (2, .int p2)] := hl
  have hr_p1 := tk_rng p1
  have hr_p2 := tk_rng p2
  refine lv_aload_n hx hb dX7_put_0 rfl (lv_at hl 0 rfl) ?_
  refine tk_get (ci := 7) (C := RX7) (T := TX7) (N := 10) (sp := (4, 0, 0, 0)) hx hb htl inX7 hown hK hG ht_a0 (by decide) tk_no rfl 6 (by decide) (htl _ mw_487) (fun _ h9 => h9) rfl dX7_put_1 (fun v9 hf1 hV9 => ?_)
  obtain ⟨v2, rfl, (ha_v2 : 0 ≤ v2.toInt), (hb_v2 : v2.toInt ≤ 512)⟩ := hV9
  refine lv_aload_n hx hb dX7_put_4 rfl (lv_at hl 0 rfl) ?_
  refine tk_get (ci := 7) (C := RX7) (T := TX7) (N := 10) (sp := (2, 20, 0, 0)) hx hb htl inX7 hown hK hG ht_a0 (by decide) tk_no rfl 0 (by decide) (htl _ mw_138) (fun _ h9 => h9) rfl dX7_put_5 (fun v9 hf3 hV9 => ?_)
  obtain ⟨b4, rfl, ht_b4⟩ := hV9
  have ht_b4 : t b4 = (20, 512, 0) := ht_b4
  refine tk_alen hx hb hK hG 0 rfl ht_b4 (by decide) (fun _ h => by obtain ⟨f, h, _⟩ := h; exact ⟨_, h⟩) tk_no (by decide) dX7_put_8 (fun z hz => ?_)
  obtain rfl : z = 512 := (fi_eq hz (by decide)).mpr rfl
  refine lv_icmp_ge (tgt := 42) hx hb dX7_put_9 (by decide) (fun c9 => ?_) (fun c9 => ?_)
  · have hc5 : 512 ≤ v2.toInt := (fi_le (show (512 : Int32).toInt = 512 by decide) rfl).mp c9
    exact tk_vret hx hb hr hlocks trivial hG hS dX7_put_42
  · have hc5 : ¬ (512 ≤ v2.toInt) := fun h9 => c9 ((fi_le (show (512 : Int32).toInt = 512 by decide) rfl).mpr h9)
    refine lv_aload_n hx hb dX7_put_12 rfl (lv_at hl 0 rfl) ?_
    refine tk_get (ci := 7) (C := RX7) (T := TX7) (N := 10) (sp := (2, 20, 0, 0)) hx hb htl inX7 hown hK hG ht_a0 (by decide) tk_no rfl 0 (by decide) (htl _ mw_138) (fun _ h9 => h9) rfl dX7_put_13 (fun v9 hf6 hV9 => ?_)
    obtain ⟨b7, rfl, ht_b7⟩ := hV9
    have ht_b7 : t b7 = (20, 512, 0) := ht_b7
    refine lv_aload_n hx hb dX7_put_16 rfl (lv_at hl 0 rfl) ?_
    refine tk_getk (ci := 7) (C := RX7) (T := TX7) (N := 10) (sp := (4, 0, 0, 0)) hx hb htl inX7 hown hK hG ht_a0 (by decide) tk_no rfl 6 (by decide) (htl _ mw_487) (fun _ h9 => h9) rfl hf1 dX7_put_17 ?_
    refine lv_iload_n hx hb dX7_put_20 rfl (lv_at hl 1 rfl) ?_
    refine tk_iast hx hb hK hG hS ht_b7 (by decide) (fun _ => Iff.rfl) tk_no rfl (by omega) (by omega) trivial (tk_w.of ht_b7 (by decide) (List.mem_of_getElem? (i := 0) rfl) (Nat.le_refl _) (Nat.le_refl _)) dX7_put_21 (fun H locs hG hS hq9 => ?_)
    have hf1 := hf1.kept (hq9 _ (tk_ne ht_a0 ht_b7 (Or.inl (by decide))))
    refine lv_aload_n hx hb dX7_put_22 rfl (lv_at hl 0 rfl) ?_
    refine tk_get (ci := 7) (C := RX7) (T := TX7) (N := 10) (sp := (2, 20, 0, 0)) hx hb htl inX7 hown hK hG ht_a0 (by decide) tk_no rfl 1 (by decide) (htl _ mw_139) (fun _ h9 => h9) rfl dX7_put_23 (fun v9 hf9 hV9 => ?_)
    obtain ⟨b10, rfl, ht_b10⟩ := hV9
    have ht_b10 : t b10 = (20, 512, 0) := ht_b10
    refine lv_aload_n hx hb dX7_put_26 rfl (lv_at hl 0 rfl) ?_
    refine tk_getk (ci := 7) (C := RX7) (T := TX7) (N := 10) (sp := (4, 0, 0, 0)) hx hb htl inX7 hown hK hG ht_a0 (by decide) tk_no rfl 6 (by decide) (htl _ mw_487) (fun _ h9 => h9) rfl hf1 dX7_put_27 ?_
    refine lv_iload_n hx hb dX7_put_30 rfl (lv_at hl 2 rfl) ?_
    refine tk_iast hx hb hK hG hS ht_b10 (by decide) (fun _ => Iff.rfl) tk_no rfl (by omega) (by omega) trivial (tk_w.of ht_b10 (by decide) (List.mem_of_getElem? (i := 0) rfl) (Nat.le_refl _) (Nat.le_refl _)) dX7_put_31 (fun H locs hG hS hq9 => ?_)
    have hf1 := hf1.kept (hq9 _ (tk_ne ht_a0 ht_b10 (Or.inl (by decide))))
    refine lv_aload_n hx hb dX7_put_32 rfl (lv_at hl 0 rfl) ?_
    refine lv_dup hx hb dX7_put_33 rfl ?_
    refine tk_getk (ci := 7) (C := RX7) (T := TX7) (N := 10) (sp := (4, 0, 0, 0)) hx hb htl inX7 hown hK hG ht_a0 (by decide) tk_no rfl 6 (by decide) (htl _ mw_487) (fun _ h9 => h9) rfl hf1 dX7_put_34 ?_
    refine lv_iconst (v := 1) hx hb dX7_put_37 (by decide) ?_
    refine lv_iadd hx hb dX7_put_38 ?_
    refine tk_add rfl (show (1 : Int32).toInt = 1 by decide) (by omega) (by omega) (fun v12 h_v12 => ?_)
    refine tk_put (ci := 7) (v := .int v12) (ty := .int) (C := RX7) (T := TX7) (N := 10) (sp := (4, 0, 0, 0)) hx hb htl inX7 tyX7 tyX7_ok nmX7 hown hK hG hS ht_a0 (by decide) tk_no rfl 6 (by decide) (htl _ mw_487) (fun _ h9 => h9) rfl (tyX7_ok 6 (by decide)) rfl rfl rfl (tk_V4 (by omega) (by omega)) (fun _ h => h) (tk_w.of ht_a0 (by decide) (List.mem_of_getElem? (i := 1) rfl) (Nat.le_refl _) (Nat.le_refl _)) dX7_put_39 (fun H locs hG hS hf13 hq9 hj9 => ?_)
    exact tk_vret hx hb hr hlocks trivial hG hS dX7_put_42
theorem dX6_readPart_0 : decode cX6_readPart 0 = .ok (.aload_n 0, 1) := by decide +kernel
theorem dX6_readPart_1 : decode cX6_readPart 1 = .ok (.bipush 91, 2) := by decide +kernel
theorem dX6_readPart_3 : decode cX6_readPart 3 = .ok (.invokevirtual 83, 3) := by decide +kernel
theorem dX6_readPart_6 : decode cX6_readPart 6 = .ok (.ifCond .eq 31, 3) := by decide +kernel
theorem dX6_readPart_37 : decode cX6_readPart 37 = .ok (.aload_n 0, 1) := by decide +kernel
theorem dX6_readPart_38 : decode cX6_readPart 38 = .ok (.invokevirtual 56, 3) := by decide +kernel
theorem dX6_readPart_67 : decode cX6_readPart 67 = .ok (.istore_n 1, 1) := by decide +kernel
theorem dX6_readPart_68 : decode cX6_readPart 68 = .ok (.aload_n 0, 1) := by decide +kernel
theorem dX6_readPart_69 : decode cX6_readPart 69 = .ok (.aload_n 0, 1) := by decide +kernel
theorem dX6_readPart_70 : decode cX6_readPart 70 = .ok (.getfield 37, 3) := by decide +kernel
theorem dX6_readPart_73 : decode cX6_readPart 73 = .ok (.ifCond .eq 8, 3) := by decide +kernel
theorem dX6_readPart_81 : decode cX6_readPart 81 = .ok (.ldc 186, 2) := by decide +kernel
theorem dX6_readPart_83 : decode cX6_readPart 83 = .ok (.invokevirtual 100, 3) := by decide +kernel
theorem dX6_readPart_86 : decode cX6_readPart 86 = .ok (.istore_n 2, 1) := by decide +kernel
theorem dX6_readPart_87 : decode cX6_readPart 87 = .ok (.iload_n 1, 1) := by decide +kernel
theorem dX6_readPart_88 : decode cX6_readPart 88 = .ok (.ifCond .ne 8, 3) := by decide +kernel
theorem dX6_readPart_96 : decode cX6_readPart 96 = .ok (.aload_n 0, 1) := by decide +kernel
theorem dX6_readPart_97 : decode cX6_readPart 97 = .ok (.getfield 44, 3) := by decide +kernel
theorem dX6_readPart_100 : decode cX6_readPart 100 = .ok (.bipush 50, 2) := by decide +kernel
theorem dX6_readPart_102 : decode cX6_readPart 102 = .ok (.if_icmp .lt 8, 3) := by decide +kernel
theorem dX6_readPart_110 : decode cX6_readPart 110 = .ok (.aload_n 0, 1) := by decide +kernel
theorem dX6_readPart_111 : decode cX6_readPart 111 = .ok (.dup, 1) := by decide +kernel
theorem dX6_readPart_112 : decode cX6_readPart 112 = .ok (.getfield 44, 3) := by decide +kernel
theorem dX6_readPart_115 : decode cX6_readPart 115 = .ok (.iconst 1, 1) := by decide +kernel
theorem dX6_readPart_116 : decode cX6_readPart 116 = .ok (.iadd, 1) := by decide +kernel
theorem dX6_readPart_117 : decode cX6_readPart 117 = .ok (.putfield 44, 3) := by decide +kernel
theorem dX6_readPart_120 : decode cX6_readPart 120 = .ok (.iload_n 1, 1) := by decide +kernel
theorem dX6_readPart_121 : decode cX6_readPart 121 = .ok (.ifCond .eq 22, 3) := by decide +kernel
theorem dX6_readPart_124 : decode cX6_readPart 124 = .ok (.aload_n 0, 1) := by decide +kernel
theorem dX6_readPart_125 : decode cX6_readPart 125 = .ok (.getfield 16, 3) := by decide +kernel
theorem dX6_readPart_128 : decode cX6_readPart 128 = .ok (.iconst 1, 1) := by decide +kernel
theorem dX6_readPart_129 : decode cX6_readPart 129 = .ok (.aload_n 0, 1) := by decide +kernel
theorem dX6_readPart_130 : decode cX6_readPart 130 = .ok (.getfield 80, 3) := by decide +kernel
theorem dX6_readPart_133 : decode cX6_readPart 133 = .ok (.invokevirtual 140, 3) := by decide +kernel
theorem dX6_readPart_136 : decode cX6_readPart 136 = .ok (.aload_n 0, 1) := by decide +kernel
theorem dX6_readPart_137 : decode cX6_readPart 137 = .ok (.invokevirtual 53, 3) := by decide +kernel
theorem dX6_readPart_140 : decode cX6_readPart 140 = .ok (.goto 35, 3) := by decide +kernel
theorem dX6_readPart_175 : decode cX6_readPart 175 = .ok (.return_, 1) := by decide +kernel
theorem dX6_readPart_105 : decode cX6_readPart 105 = .ok (.aload_n 0, 1) := by decide +kernel
theorem dX6_readPart_106 : decode cX6_readPart 106 = .ok (.invokevirtual 60, 3) := by decide +kernel
theorem dX6_readPart_109 : decode cX6_readPart 109 = .ok (.return_, 1) := by decide +kernel
theorem dX6_readPart_91 : decode cX6_readPart 91 = .ok (.iload_n 2, 1) := by decide +kernel
theorem dX6_readPart_92 : decode cX6_readPart 92 = .ok (.iconst (-1), 1) := by decide +kernel
theorem dX6_readPart_93 : decode cX6_readPart 93 = .ok (.if_icmp .eq 12, 3) := by decide +kernel
theorem dX6_readPart_143 : decode cX6_readPart 143 = .ok (.aload_n 0, 1) := by decide +kernel
theorem dX6_readPart_144 : decode cX6_readPart 144 = .ok (.invokevirtual 53, 3) := by decide +kernel
theorem dX6_readPart_147 : decode cX6_readPart 147 = .ok (.aload_n 0, 1) := by decide +kernel
theorem dX6_readPart_148 : decode cX6_readPart 148 = .ok (.getfield 16, 3) := by decide +kernel
theorem dX6_readPart_151 : decode cX6_readPart 151 = .ok (.iconst 2, 1) := by decide +kernel
theorem dX6_readPart_152 : decode cX6_readPart 152 = .ok (.aload_n 0, 1) := by decide +kernel
theorem dX6_readPart_153 : decode cX6_readPart 153 = .ok (.getfield 37, 3) := by decide +kernel
theorem dX6_readPart_172 : decode cX6_readPart 172 = .ok (.invokevirtual 140, 3) := by decide +kernel
theorem dX6_readPart_156 : decode cX6_readPart 156 = .ok (.ifCond .eq 11, 3) := by decide +kernel
theorem dX6_readPart_167 : decode cX6_readPart 167 = .ok (.aload_n 0, 1) := by decide +kernel
theorem dX6_readPart_168 : decode cX6_readPart 168 = .ok (.iload_n 2, 1) := by decide +kernel
theorem dX6_readPart_169 : decode cX6_readPart 169 = .ok (.invokevirtual 191, 3) := by decide +kernel
theorem dX6_readPart_159 : decode cX6_readPart 159 = .ok (.aload_n 0, 1) := by decide +kernel
theorem dX6_readPart_160 : decode cX6_readPart 160 = .ok (.iload_n 2, 1) := by decide +kernel
theorem dX6_readPart_161 : decode cX6_readPart 161 = .ok (.invokevirtual 188, 3) := by decide +kernel
theorem dX6_readPart_164 : decode cX6_readPart 164 = .ok (.goto 8, 3) := by decide +kernel
theorem dX6_readPart_76 : decode cX6_readPart 76 = .ok (.ldc 184, 2) := by decide +kernel
theorem dX6_readPart_78 : decode cX6_readPart 78 = .ok (.goto 5, 3) := by decide +kernel
theorem dX6_readPart_41 : decode cX6_readPart 41 = .ok (.ifCond .eq 25, 3) := by decide +kernel
theorem dX6_readPart_66 : decode cX6_readPart 66 = .ok (.iconst 0, 1) := by decide +kernel
theorem dX6_readPart_44 : decode cX6_readPart 44 = .ok (.aload_n 0, 1) := by decide +kernel
theorem dX6_readPart_45 : decode cX6_readPart 45 = .ok (.getfield 67, 3) := by decide +kernel
theorem dX6_readPart_48 : decode cX6_readPart 48 = .ok (.iconst 2, 1) := by decide +kernel
theorem dX6_readPart_49 : decode cX6_readPart 49 = .ok (.if_icmp .ne 17, 3) := by decide +kernel
theorem dX6_readPart_52 : decode cX6_readPart 52 = .ok (.aload_n 0, 1) := by decide +kernel
theorem dX6_readPart_53 : decode cX6_readPart 53 = .ok (.getfield 80, 3) := by decide +kernel
theorem dX6_readPart_56 : decode cX6_readPart 56 = .ok (.sipush 1000, 3) := by decide +kernel
theorem dX6_readPart_59 : decode cX6_readPart 59 = .ok (.if_icmp .gt 7, 3) := by decide +kernel
theorem dX6_readPart_62 : decode cX6_readPart 62 = .ok (.iconst 1, 1) := by decide +kernel
theorem dX6_readPart_63 : decode cX6_readPart 63 = .ok (.goto 4, 3) := by decide +kernel
theorem dX6_readPart_9 : decode cX6_readPart 9 = .ok (.aload_n 0, 1) := by decide +kernel
theorem dX6_readPart_10 : decode cX6_readPart 10 = .ok (.invokevirtual 175, 3) := by decide +kernel
theorem dX6_readPart_13 : decode cX6_readPart 13 = .ok (.ifCond .eq 23, 3) := by decide +kernel
theorem dX6_readPart_36 : decode cX6_readPart 36 = .ok (.return_, 1) := by decide +kernel
set_option maxHeartbeats 4000000 in
set_option maxRecDepth 100000 in
theorem k_X6_readPart_8 (l : Launch) (D : va_G) (cy : Nat → ClassId) (ld : Nat → Nat) (t : tk_T) (a0 : Nat) (ht_a0 : t a0 = (7, 0, 0)) : Met l yX6_readPart (wl yX6_readPart cX6_readPart 3 none) ({ frames := 9, cells := 0, slots := 0, locals := 560 }) (tp D cy ld t [] [.ref a0] (fun H => tk_f D H a0 6 9 (.int 8))) (tv D cy ld t [] (fun H => tk_f D H a0 6 9 (.int 8)) (tk_w t [(7, 0, 0), (20, 0, 0), (8, 12, 12)])) 0 0 (tk_w t [(7, 0, 0), (20, 0, 0), (8, 12, 12)]) := by
  refine tk_met (y := yX6_readPart) (cc := cX6_readPart) (maxL := 3) (ret := none) (av := [.ref a0]) _ _ (by decide) (Nat.le_of_ble_eq_true rfl) ?_
  intro p e s m args below meth c hx hb hr hml hts htl hown hlocks hK H locs hH hG hS hB hZ ls hl
  have hown : s.vm.findClass RX6 = some m.cls := hown
  have hl : lv_has ls 3 [(0, .ref a0)] := hl
  have hg_0 := hB
  refine lv_aload_n hx hb dX6_readPart_0 rfl (lv_at hl 0 rfl) ?_
  refine lv_bipush (v := 91) hx hb dX6_readPart_1 (by decide) ?_
  have hk_91 : (91 : Int32).toInt = 91 := by decide
  refine tk_Vi (As := [.int 91]) (rest := []) (ci := 6) ⟨hx, hb, hml, hown, hts⟩ hK hG hZ hS (k_X6_isSign l D cy ld t a0 91 ht_a0) trivial ⟨callB_of 1 hts (wl_in mw_590) rfl rfl rfl (htl _ mw_36) (htl _ mw_587) hd_yX6_isSign ⟨(Nat.le_of_ble_eq_true rfl), (Nat.le_of_ble_eq_true rfl)⟩, htl _ mw_588, htl _ mw_589⟩ ht_a0 (by decide) tk_no rfl (tk_w.pick [] rfl) rfl hl.1 rfl (Nat.le_of_ble_eq_true rfl) dX6_readPart_3 ⟨(Nat.le_of_ble_eq_true rfl), (Nat.le_of_ble_eq_true rfl)⟩ (fun v1 H locs hpo hG hS hq9 => ?_)
  have hg_0 := hg_0.call hq9 tk_w.nil
  obtain ⟨hpo3, hpo4, hpo5, hpo6⟩ := hpo
  refine lv_if_eq (tgt := 37) hx hb dX6_readPart_6 (by decide) (fun c9 => ?_) (fun c9 => ?_)
  · have hc7 : v1.toInt = 0 := (fi_eq rfl (show (0 : Int32).toInt = 0 by decide)).mp c9
    refine lv_aload_n hx hb dX6_readPart_37 rfl (lv_at hl 0 rfl) ?_
    refine tk_Vi (As := []) (rest := []) (ci := 6) ⟨hx, hb, hml, hown, hts⟩ hK hG hZ hS (k_X6_isGood l D cy ld t a0 ht_a0) trivial ⟨callB_of 0 hts (wl_in mw_503) rfl rfl rfl (htl _ mw_36) (htl _ mw_500) hd_yX6_isGood ⟨(Nat.le_of_ble_eq_true rfl), (Nat.le_of_ble_eq_true rfl)⟩, htl _ mw_501, htl _ mw_502⟩ ht_a0 (by decide) tk_no rfl (tk_w.pick [] rfl) rfl hl.1 rfl (Nat.le_of_ble_eq_true rfl) dX6_readPart_38 ⟨(Nat.le_of_ble_eq_true rfl), (Nat.le_of_ble_eq_true rfl)⟩ (fun v8 H locs hpo hG hS hq9 => ?_)
    have hg_0 := hg_0.call hq9 tk_w.nil
    obtain ⟨hpo10, hpo11, hpo12, hpo13⟩ := hpo
    have hj23 : ∀ (v22 : Int32), 0 ≤ v22.toInt → v22.toInt ≤ 1 → ∀ ls : Array Slot, lv_has ls 3 [(0, .ref a0)] → W p l e ({ frames := 9, cells := 0, slots := 0, locals := 560 }) s m args below meth c H locs 0 0 (MQ below (tv D cy ld t [] (fun H => tk_f D H a0 6 9 (.int 8)) (tk_w t [(7, 0, 0), (20, 0, 0), (8, 12, 12)])) args s 0 0 (tk_w t [(7, 0, 0), (20, 0, 0), (8, 12, 12)])) (F0 m 67 ls [.int v22]) := by
      intro v22 hq0_j23 hq1_j23 ls hl
      refine lv_istore_n (lv' := [(1, .int v22), (0, .ref a0)]) hx hb dX6_readPart_67 rfl hl (by decide) rfl (fun ls hl => ?_)
      refine lv_aload_n hx hb dX6_readPart_68 rfl (lv_at hl 1 rfl) ?_
      refine lv_aload_n hx hb dX6_readPart_69 rfl (lv_at hl 1 rfl) ?_
      refine tk_get (ci := 6) (C := RX6) (T := TX6) (N := 11) (sp := (0, 0, 1, 0)) hx hb htl inX6 hown hK hG ht_a0 (by decide) tk_no rfl 3 (by decide) (htl _ mw_477) (fun _ h9 => h9) rfl dX6_readPart_70 (fun v9 hf24 hV9 => ?_)
      obtain ⟨v25, rfl, (ha_v25 : 0 ≤ v25.toInt), (hb_v25 : v25.toInt ≤ 1)⟩ := hV9
      refine lv_if_eq (tgt := 81) hx hb dX6_readPart_73 (by decide) (fun c9 => ?_) (fun c9 => ?_)
      · have hc26 : v25.toInt = 0 := (fi_eq rfl (show (0 : Int32).toInt = 0 by decide)).mp c9
        refine va_ldcS hx hb hown hK.2.2.2.2.2.2.2.1 dX6_readPart_81 ?_
        refine tk_Vi (As := [.ref (ld 3)]) (rest := []) (ci := 6) ⟨hx, hb, hml, hown, hts⟩ hK hG hZ hS (k_X6_wordAmong_3 l D cy ld t a0 ht_a0) trivial ⟨callB_of 1 hts (wl_in mw_517) rfl rfl rfl (htl _ mw_36) (htl _ mw_514) hd_yX6_wordAmong ⟨(Nat.le_of_ble_eq_true rfl), (Nat.le_of_ble_eq_true rfl)⟩, htl _ mw_515, htl _ mw_516⟩ ht_a0 (by decide) tk_no rfl (tk_w.pick [] rfl) rfl hl.1 rfl (Nat.le_of_ble_eq_true rfl) dX6_readPart_83 ⟨(Nat.le_of_ble_eq_true rfl), (Nat.le_of_ble_eq_true rfl)⟩ (fun v27 H locs hpo hG hS hq9 => ?_)
        have hg_0 := hg_0.call hq9 tk_w.nil
        obtain ⟨hpo29, hpo30⟩ := hpo
        refine lv_istore_n (lv' := [(2, .int v27), (1, .int v22), (0, .ref a0)]) hx hb dX6_readPart_86 rfl hl (by decide) rfl (fun ls hl => ?_)
        refine lv_iload_n hx hb dX6_readPart_87 rfl (lv_at hl 1 rfl) ?_
        refine lv_if_ne (tgt := 96) hx hb dX6_readPart_88 (by decide) (fun c9 => ?_) (fun c9 => ?_)
        · have hc31 : ¬ (v22.toInt = 0) := fun h9 => c9 ((fi_eq rfl (show (0 : Int32).toInt = 0 by decide)).mpr h9)
          refine lv_aload_n hx hb dX6_readPart_96 rfl (lv_at hl 2 rfl) ?_
          refine tk_get (ci := 6) (C := RX6) (T := TX6) (N := 11) (sp := (0, (-2147483648), 2147483647, 0)) hx hb htl inX6 hown hK hG ht_a0 (by decide) tk_no rfl 8 (by decide) (htl _ mw_479) (fun _ h9 => h9) rfl dX6_readPart_97 (fun v9 hf32 hV9 => ?_)
          obtain ⟨v33, rfl, (ha_v33 : (-2147483648) ≤ v33.toInt), (hb_v33 : v33.toInt ≤ 2147483647)⟩ := hV9
          refine lv_bipush (v := 50) hx hb dX6_readPart_100 (by decide) ?_
          refine lv_icmp_lt (tgt := 110) hx hb dX6_readPart_102 (by decide) (fun c9 => ?_) (fun c9 => ?_)
          · have hc34 : v33.toInt < 50 := (fi_lt rfl (show (50 : Int32).toInt = 50 by decide)).mp c9
            refine lv_aload_n hx hb dX6_readPart_110 rfl (lv_at hl 2 rfl) ?_
            refine lv_dup hx hb dX6_readPart_111 rfl ?_
            refine tk_get (ci := 6) (C := RX6) (T := TX6) (N := 11) (sp := (0, (-2147483648), 2147483647, 0)) hx hb htl inX6 hown hK hG ht_a0 (by decide) tk_no rfl 8 (by decide) (htl _ mw_479) (fun _ h9 => h9) rfl dX6_readPart_112 (fun v9 hf35 hV9 => ?_)
            obtain ⟨v36, rfl, (ha_v36 : (-2147483648) ≤ v36.toInt), (hb_v36 : v36.toInt ≤ 2147483647)⟩ := hV9
            refine lv_iconst (v := 1) hx hb dX6_readPart_115 (by decide) ?_
            refine lv_iadd hx hb dX6_readPart_116 ?_
            obtain ⟨v37, hm_v37⟩ : ∃ z : Int32, v36 + 1 = z := ⟨_, rfl⟩
            refine fx_ti hm_v37 ?_
            refine tk_put (ci := 6) (v := .int v37) (ty := .int) (C := RX6) (T := TX6) (N := 11) (sp := (0, (-2147483648), 2147483647, 0)) hx hb htl inX6 tyX6 tyX6_ok nmX6 hown hK hG hS ht_a0 (by decide) tk_no rfl 8 (by decide) (htl _ mw_479) (fun _ h9 => h9) rfl (tyX6_ok 8 (by decide)) rfl rfl rfl (tk_V0 (tk_rng _).1 (tk_rng _).2) (fun _ h => tk_X7 h (by decide) (by decide)) (tk_w.of ht_a0 (by decide) (List.mem_of_getElem? (i := 0) rfl) (Nat.le_refl _) (Nat.le_refl _)) dX6_readPart_117 (fun H locs hG hS hf38 hq9 hj9 => ?_)
            have hg_0 := hj9 9 _ (by decide) (by decide) hg_0
            refine lv_iload_n hx hb dX6_readPart_120 rfl (lv_at hl 1 rfl) ?_
            refine lv_if_eq (tgt := 143) hx hb dX6_readPart_121 (by decide) (fun c9 => absurd (show v22.toInt = 0 from (fi_eq rfl (show (0 : Int32).toInt = 0 by decide)).mp c9) (by omega)) (fun _ => ?_)
            refine lv_aload_n hx hb dX6_readPart_124 rfl (lv_at hl 2 rfl) ?_
            refine tk_get (ci := 6) (C := RX6) (T := TX6) (N := 11) (sp := (6, 8, 512, 12)) hx hb htl inX6 hown hK hG ht_a0 (by decide) tk_no rfl 0 (by decide) (htl _ mw_132) (fun _ h9 => h9) rfl dX6_readPart_125 (fun v9 hf40 hV9 => ?_)
            obtain ⟨b41, rfl, ht_b41⟩ := hV9
            have ht_b41 : t b41 = (8, 512, 12) := ht_b41
            refine lv_iconst (v := 1) hx hb dX6_readPart_128 (by decide) ?_
            refine lv_aload_n hx hb dX6_readPart_129 rfl (lv_at hl 2 rfl) ?_
            refine tk_get (ci := 6) (C := RX6) (T := TX6) (N := 11) (sp := (0, (-2147483648), 2147483647, 0)) hx hb htl inX6 hown hK hG ht_a0 (by decide) tk_no rfl 7 (by decide) (htl _ mw_496) (fun _ h9 => h9) rfl dX6_readPart_130 (fun v9 hf42 hV9 => ?_)
            obtain ⟨v43, rfl, (ha_v43 : (-2147483648) ≤ v43.toInt), (hb_v43 : v43.toInt ≤ 2147483647)⟩ := hV9
            have hk_1 : (1 : Int32).toInt = 1 := by decide
            refine tk_Vv (As := [.int 1, .int v43]) (rest := []) (ci := 7) ⟨hx, hb, hml, hown, hts⟩ hK hG hZ hS (k_X7_put l D cy ld t b41 1 v43 ht_b41) trivial ⟨callB_of 2 hts (wl_in mw_594) rfl rfl rfl (htl _ mw_131) (htl _ mw_591) hd_yX7_put ⟨(Nat.le_of_ble_eq_true rfl), (Nat.le_of_ble_eq_true rfl)⟩, htl _ mw_592, htl _ mw_593⟩ ht_b41 (by decide) tk_no rfl (tk_w.pick [1, 2] rfl) rfl hl.1 rfl (Nat.le_of_ble_eq_true rfl) dX6_readPart_133 ⟨(Nat.le_of_ble_eq_true rfl), (Nat.le_of_ble_eq_true rfl)⟩ (fun H locs hpo hG hS hq9 => ?_)
            have hg_0 := hg_0.call hq9 (tk_w.no ht_a0 (by decide))
            have hf42 := hf42.call hq9 (tk_w.no ht_a0 (by decide))
            refine lv_aload_n hx hb dX6_readPart_136 rfl (lv_at hl 2 rfl) ?_
            have hk_8 : (8 : Int32).toInt = 8 := by decide
            refine tk_Vv (As := []) (rest := []) (ci := 6) ⟨hx, hb, hml, hown, hts⟩ hK hG hZ hS (k_X6_step l D cy ld t a0 8 ht_a0 (by omega) (by omega)) hg_0 ⟨callB_of 0 hts (wl_in mw_494) rfl rfl rfl (htl _ mw_36) (htl _ mw_491) hd_yX6_step ⟨(Nat.le_of_ble_eq_true rfl), (Nat.le_of_ble_eq_true rfl)⟩, htl _ mw_492, htl _ mw_493⟩ ht_a0 (by decide) tk_no rfl (tk_w.pick [0] rfl) rfl hl.1 rfl (Nat.le_of_ble_eq_true rfl) dX6_readPart_137 ⟨(Nat.le_of_ble_eq_true rfl), (Nat.le_of_ble_eq_true rfl)⟩ (fun H locs hpo hG hS hq9 => ?_)
            have hf46 := hpo
            refine lv_goto (tgt := 175) hx hb dX6_readPart_140 (by decide) ?_
            exact tk_vret hx hb hr hlocks (show tk_f D H a0 6 9 (.int 8) from hf46) hG hS dX6_readPart_175
          · have hc34 : ¬ (v33.toInt < 50) := fun h9 => c9 ((fi_lt rfl (show (50 : Int32).toInt = 50 by decide)).mpr h9)
            refine lv_aload_n hx hb dX6_readPart_105 rfl (lv_at hl 2 rfl) ?_
            have hk_8 : (8 : Int32).toInt = 8 := by decide
            refine tk_Vv (As := []) (rest := []) (ci := 6) ⟨hx, hb, hml, hown, hts⟩ hK hG hZ hS (k_X6_fail l D cy ld t a0 8 ht_a0 (by omega) (by omega)) hg_0 ⟨callB_of 0 hts (wl_in mw_507) rfl rfl rfl (htl _ mw_36) (htl _ mw_504) hd_yX6_fail ⟨(Nat.le_of_ble_eq_true rfl), (Nat.le_of_ble_eq_true rfl)⟩, htl _ mw_505, htl _ mw_506⟩ ht_a0 (by decide) tk_no rfl (tk_w.pick [0] rfl) rfl hl.1 rfl (Nat.le_of_ble_eq_true rfl) dX6_readPart_106 ⟨(Nat.le_of_ble_eq_true rfl), (Nat.le_of_ble_eq_true rfl)⟩ (fun H locs hpo hG hS hq9 => ?_)
            have hf48 := hpo
            exact tk_vret hx hb hr hlocks (show tk_f D H a0 6 9 (.int 8) from hf48) hG hS dX6_readPart_109
        · have hc31 : v22.toInt = 0 := (fi_eq rfl (show (0 : Int32).toInt = 0 by decide)).mp c9
          refine lv_iload_n hx hb dX6_readPart_91 rfl (lv_at hl 0 rfl) ?_
          refine lv_iconst (v := (-1)) hx hb dX6_readPart_92 (by decide) ?_
          refine lv_icmp_eq (tgt := 105) hx hb dX6_readPart_93 (by decide) (fun c9 => ?_) (fun c9 => ?_)
          · have hc49 : v27.toInt = (-1) := (fi_eq rfl (show ((-1) : Int32).toInt = (-1) by decide)).mp c9
            refine lv_aload_n hx hb dX6_readPart_105 rfl (lv_at hl 2 rfl) ?_
            have hk_8 : (8 : Int32).toInt = 8 := by decide
            refine tk_Vv (As := []) (rest := []) (ci := 6) ⟨hx, hb, hml, hown, hts⟩ hK hG hZ hS (k_X6_fail l D cy ld t a0 8 ht_a0 (by omega) (by omega)) hg_0 ⟨callB_of 0 hts (wl_in mw_507) rfl rfl rfl (htl _ mw_36) (htl _ mw_504) hd_yX6_fail ⟨(Nat.le_of_ble_eq_true rfl), (Nat.le_of_ble_eq_true rfl)⟩, htl _ mw_505, htl _ mw_506⟩ ht_a0 (by decide) tk_no rfl (tk_w.pick [0] rfl) rfl hl.1 rfl (Nat.le_of_ble_eq_true rfl) dX6_readPart_106 ⟨(Nat.le_of_ble_eq_true rfl), (Nat.le_of_ble_eq_true rfl)⟩ (fun H locs hpo hG hS hq9 => ?_)
            have hf51 := hpo
            exact tk_vret hx hb hr hlocks (show tk_f D H a0 6 9 (.int 8) from hf51) hG hS dX6_readPart_109
          · have hc49 : ¬ (v27.toInt = (-1)) := fun h9 => c9 ((fi_eq rfl (show ((-1) : Int32).toInt = (-1) by decide)).mpr h9)
            refine lv_aload_n hx hb dX6_readPart_96 rfl (lv_at hl 2 rfl) ?_
            refine tk_get (ci := 6) (C := RX6) (T := TX6) (N := 11) (sp := (0, (-2147483648), 2147483647, 0)) hx hb htl inX6 hown hK hG ht_a0 (by decide) tk_no rfl 8 (by decide) (htl _ mw_479) (fun _ h9 => h9) rfl dX6_readPart_97 (fun v9 hf52 hV9 => ?_)
            obtain ⟨v53, rfl, (ha_v53 : (-2147483648) ≤ v53.toInt), (hb_v53 : v53.toInt ≤ 2147483647)⟩ := hV9
            refine lv_bipush (v := 50) hx hb dX6_readPart_100 (by decide) ?_
            refine lv_icmp_lt (tgt := 110) hx hb dX6_readPart_102 (by decide) (fun c9 => ?_) (fun c9 => ?_)
            · have hc54 : v53.toInt < 50 := (fi_lt rfl (show (50 : Int32).toInt = 50 by decide)).mp c9
              refine lv_aload_n hx hb dX6_readPart_110 rfl (lv_at hl 2 rfl) ?_
              refine lv_dup hx hb dX6_readPart_111 rfl ?_
              refine tk_get (ci := 6) (C := RX6) (T := TX6) (N := 11) (sp := (0, (-2147483648), 2147483647, 0)) hx hb htl inX6 hown hK hG ht_a0 (by decide) tk_no rfl 8 (by decide) (htl _ mw_479) (fun _ h9 => h9) rfl dX6_readPart_112 (fun v9 hf55 hV9 => ?_)
              obtain ⟨v56, rfl, (ha_v56 : (-2147483648) ≤ v56.toInt), (hb_v56 : v56.toInt ≤ 2147483647)⟩ := hV9
              refine lv_iconst (v := 1) hx hb dX6_readPart_115 (by decide) ?_
              refine lv_iadd hx hb dX6_readPart_116 ?_
              obtain ⟨v57, hm_v57⟩ : ∃ z : Int32, v56 + 1 = z := ⟨_, rfl⟩
              refine fx_ti hm_v57 ?_
              refine tk_put (ci := 6) (v := .int v57) (ty := .int) (C := RX6) (T := TX6) (N := 11) (sp := (0, (-2147483648), 2147483647, 0)) hx hb htl inX6 tyX6 tyX6_ok nmX6 hown hK hG hS ht_a0 (by decide) tk_no rfl 8 (by decide) (htl _ mw_479) (fun _ h9 => h9) rfl (tyX6_ok 8 (by decide)) rfl rfl rfl (tk_V0 (tk_rng _).1 (tk_rng _).2) (fun _ h => tk_X7 h (by decide) (by decide)) (tk_w.of ht_a0 (by decide) (List.mem_of_getElem? (i := 0) rfl) (Nat.le_refl _) (Nat.le_refl _)) dX6_readPart_117 (fun H locs hG hS hf58 hq9 hj9 => ?_)
              have hg_0 := hj9 9 _ (by decide) (by decide) hg_0
              refine lv_iload_n hx hb dX6_readPart_120 rfl (lv_at hl 1 rfl) ?_
              refine lv_if_eq (tgt := 143) hx hb dX6_readPart_121 (by decide) (fun _ => ?_) (fun c9 => absurd ((fi_eq rfl (show (0 : Int32).toInt = 0 by decide)).mpr (show v22.toInt = 0 by omega)) c9)
              refine lv_aload_n hx hb dX6_readPart_143 rfl (lv_at hl 2 rfl) ?_
              have hk_8 : (8 : Int32).toInt = 8 := by decide
              refine tk_Vv (As := []) (rest := []) (ci := 6) ⟨hx, hb, hml, hown, hts⟩ hK hG hZ hS (k_X6_step l D cy ld t a0 8 ht_a0 (by omega) (by omega)) hg_0 ⟨callB_of 0 hts (wl_in mw_494) rfl rfl rfl (htl _ mw_36) (htl _ mw_491) hd_yX6_step ⟨(Nat.le_of_ble_eq_true rfl), (Nat.le_of_ble_eq_true rfl)⟩, htl _ mw_492, htl _ mw_493⟩ ht_a0 (by decide) tk_no rfl (tk_w.pick [0] rfl) rfl hl.1 rfl (Nat.le_of_ble_eq_true rfl) dX6_readPart_144 ⟨(Nat.le_of_ble_eq_true rfl), (Nat.le_of_ble_eq_true rfl)⟩ (fun H locs hpo hG hS hq9 => ?_)
              have hf61 := hpo
              refine lv_aload_n hx hb dX6_readPart_147 rfl (lv_at hl 2 rfl) ?_
              refine tk_get (ci := 6) (C := RX6) (T := TX6) (N := 11) (sp := (6, 8, 512, 12)) hx hb htl inX6 hown hK hG ht_a0 (by decide) tk_no rfl 0 (by decide) (htl _ mw_132) (fun _ h9 => h9) rfl dX6_readPart_148 (fun v9 hf62 hV9 => ?_)
              obtain ⟨b63, rfl, ht_b63⟩ := hV9
              have ht_b63 : t b63 = (8, 512, 12) := ht_b63
              refine lv_iconst (v := 2) hx hb dX6_readPart_151 (by decide) ?_
              refine lv_aload_n hx hb dX6_readPart_152 rfl (lv_at hl 2 rfl) ?_
              refine tk_get (ci := 6) (C := RX6) (T := TX6) (N := 11) (sp := (0, 0, 1, 0)) hx hb htl inX6 hown hK hG ht_a0 (by decide) tk_no rfl 3 (by decide) (htl _ mw_477) (fun _ h9 => h9) rfl dX6_readPart_153 (fun v9 hf64 hV9 => ?_)
              obtain ⟨v65, rfl, (ha_v65 : 0 ≤ v65.toInt), (hb_v65 : v65.toInt ≤ 1)⟩ := hV9
              have hj76 : ∀ (v74 : Int32) (H : Heap) (locs : List Loc), tk_G D cy ld t [] H → va_S (tk_w t [(7, 0, 0), (20, 0, 0), (8, 12, 12)]) s.heap H locs → tk_f D H a0 6 9 (.int 8) → ∀ ls : Array Slot, lv_has ls 3 [] → W p l e ({ frames := 9, cells := 0, slots := 0, locals := 560 }) s m args below meth c H locs 0 0 (MQ below (tv D cy ld t [] (fun H => tk_f D H a0 6 9 (.int 8)) (tk_w t [(7, 0, 0), (20, 0, 0), (8, 12, 12)])) args s 0 0 (tk_w t [(7, 0, 0), (20, 0, 0), (8, 12, 12)])) (F0 m 172 ls [.int v74, .int 2, .ref b63]) := by
                intro v74 H locs hG hS hf69 ls hl
                have hk_2 : (2 : Int32).toInt = 2 := by decide
                refine tk_Vv (As := [.int 2, .int v74]) (rest := []) (ci := 7) ⟨hx, hb, hml, hown, hts⟩ hK hG hZ hS (k_X7_put l D cy ld t b63 2 v74 ht_b63) trivial ⟨callB_of 2 hts (wl_in mw_594) rfl rfl rfl (htl _ mw_131) (htl _ mw_591) hd_yX7_put ⟨(Nat.le_of_ble_eq_true rfl), (Nat.le_of_ble_eq_true rfl)⟩, htl _ mw_592, htl _ mw_593⟩ ht_b63 (by decide) tk_no rfl (tk_w.pick [1, 2] rfl) rfl hl.1 rfl (Nat.le_of_ble_eq_true rfl) dX6_readPart_172 ⟨(Nat.le_of_ble_eq_true rfl), (Nat.le_of_ble_eq_true rfl)⟩ (fun H locs hpo hG hS hq9 => ?_)
                have hf69 := hf69.call hq9 (tk_w.no ht_a0 (by decide))
                exact tk_vret hx hb hr hlocks (show tk_f D H a0 6 9 (.int 8) from hf69) hG hS dX6_readPart_175
              refine lv_if_eq (tgt := 167) hx hb dX6_readPart_156 (by decide) (fun c9 => ?_) (fun c9 => ?_)
              · have hc66 : v65.toInt = 0 := (fi_eq rfl (show (0 : Int32).toInt = 0 by decide)).mp c9
                refine lv_aload_n hx hb dX6_readPart_167 rfl (lv_at hl 2 rfl) ?_
                refine lv_iload_n hx hb dX6_readPart_168 rfl (lv_at hl 0 rfl) ?_
                have hk_8 : (8 : Int32).toInt = 8 := by decide
                refine tk_Vi (As := [.int v27]) (rest := [.int 2, .ref b63]) (ci := 6) ⟨hx, hb, hml, hown, hts⟩ hK hG hZ hS (k_X6_readOwner l D cy ld t a0 v27 8 ht_a0 (by omega) (by omega)) hf61 ⟨callB_of 1 hts (wl_in mw_614) rfl rfl rfl (htl _ mw_36) (htl _ mw_611) hd_yX6_readOwner ⟨(Nat.le_of_ble_eq_true rfl), (Nat.le_of_ble_eq_true rfl)⟩, htl _ mw_612, htl _ mw_613⟩ ht_a0 (by decide) tk_no rfl (tk_w.pick [0] rfl) rfl hl.1 rfl (Nat.le_of_ble_eq_true rfl) dX6_readPart_169 ⟨(Nat.le_of_ble_eq_true rfl), (Nat.le_of_ble_eq_true rfl)⟩ (fun v78 H locs hpo hG hS hq9 => ?_)
                have hf80 := hpo
                exact hj76 v78 _ _ hG hS hf80 _ (lv_sub hl [] rfl)
              · have hc66 : ¬ (v65.toInt = 0) := fun h9 => c9 ((fi_eq rfl (show (0 : Int32).toInt = 0 by decide)).mpr h9)
                refine lv_aload_n hx hb dX6_readPart_159 rfl (lv_at hl 2 rfl) ?_
                refine lv_iload_n hx hb dX6_readPart_160 rfl (lv_at hl 0 rfl) ?_
                refine tk_Vi (As := [.int v27]) (rest := [.int 2, .ref b63]) (ci := 6) ⟨hx, hb, hml, hown, hts⟩ hK hG hZ hS (k_X6_noteLawWord l D cy ld t a0 v27 ht_a0) trivial ⟨callB_of 1 hts (wl_in mw_607) rfl rfl rfl (htl _ mw_36) (htl _ mw_604) hd_yX6_noteLawWord ⟨(Nat.le_of_ble_eq_true rfl), (Nat.le_of_ble_eq_true rfl)⟩, htl _ mw_605, htl _ mw_606⟩ ht_a0 (by decide) tk_no rfl (tk_w.pick [2] rfl) rfl hl.1 rfl (Nat.le_of_ble_eq_true rfl) dX6_readPart_161 ⟨(Nat.le_of_ble_eq_true rfl), (Nat.le_of_ble_eq_true rfl)⟩ (fun v81 H locs hpo hG hS hq9 => ?_)
                have hf61 := hf61.call hq9 (tk_w.no ht_a0 (by decide))
                refine lv_goto (tgt := 172) hx hb dX6_readPart_164 (by decide) ?_
                exact hj76 v81 _ _ hG hS hf61 _ (lv_sub hl [] rfl)
            · have hc54 : ¬ (v53.toInt < 50) := fun h9 => c9 ((fi_lt rfl (show (50 : Int32).toInt = 50 by decide)).mpr h9)
              refine lv_aload_n hx hb dX6_readPart_105 rfl (lv_at hl 2 rfl) ?_
              have hk_8 : (8 : Int32).toInt = 8 := by decide
              refine tk_Vv (As := []) (rest := []) (ci := 6) ⟨hx, hb, hml, hown, hts⟩ hK hG hZ hS (k_X6_fail l D cy ld t a0 8 ht_a0 (by omega) (by omega)) hg_0 ⟨callB_of 0 hts (wl_in mw_507) rfl rfl rfl (htl _ mw_36) (htl _ mw_504) hd_yX6_fail ⟨(Nat.le_of_ble_eq_true rfl), (Nat.le_of_ble_eq_true rfl)⟩, htl _ mw_505, htl _ mw_506⟩ ht_a0 (by decide) tk_no rfl (tk_w.pick [0] rfl) rfl hl.1 rfl (Nat.le_of_ble_eq_true rfl) dX6_readPart_106 ⟨(Nat.le_of_ble_eq_true rfl), (Nat.le_of_ble_eq_true rfl)⟩ (fun H locs hpo hG hS hq9 => ?_)
              have hf84 := hpo
              exact tk_vret hx hb hr hlocks (show tk_f D H a0 6 9 (.int 8) from hf84) hG hS dX6_readPart_109
      · have hc26 : ¬ (v25.toInt = 0) := fun h9 => c9 ((fi_eq rfl (show (0 : Int32).toInt = 0 by decide)).mpr h9)
        refine va_ldcS hx hb hown hK.2.2.2.2.2.2.1 dX6_readPart_76 ?_
        refine lv_goto (tgt := 83) hx hb dX6_readPart_78 (by decide) ?_
        refine tk_Vi (As := [.ref (ld 2)]) (rest := []) (ci := 6) ⟨hx, hb, hml, hown, hts⟩ hK hG hZ hS (k_X6_wordAmong_2 l D cy ld t a0 ht_a0) trivial ⟨callB_of 1 hts (wl_in mw_517) rfl rfl rfl (htl _ mw_36) (htl _ mw_514) hd_yX6_wordAmong ⟨(Nat.le_of_ble_eq_true rfl), (Nat.le_of_ble_eq_true rfl)⟩, htl _ mw_515, htl _ mw_516⟩ ht_a0 (by decide) tk_no rfl (tk_w.pick [] rfl) rfl hl.1 rfl (Nat.le_of_ble_eq_true rfl) dX6_readPart_83 ⟨(Nat.le_of_ble_eq_true rfl), (Nat.le_of_ble_eq_true rfl)⟩ (fun v85 H locs hpo hG hS hq9 => ?_)
        have hg_0 := hg_0.call hq9 tk_w.nil
        obtain ⟨hpo87, hpo88⟩ := hpo
        refine lv_istore_n (lv' := [(2, .int v85), (1, .int v22), (0, .ref a0)]) hx hb dX6_readPart_86 rfl hl (by decide) rfl (fun ls hl => ?_)
        refine lv_iload_n hx hb dX6_readPart_87 rfl (lv_at hl 1 rfl) ?_
        refine lv_if_ne (tgt := 96) hx hb dX6_readPart_88 (by decide) (fun c9 => ?_) (fun c9 => ?_)
        · have hc89 : ¬ (v22.toInt = 0) := fun h9 => c9 ((fi_eq rfl (show (0 : Int32).toInt = 0 by decide)).mpr h9)
          refine lv_aload_n hx hb dX6_readPart_96 rfl (lv_at hl 2 rfl) ?_
          refine tk_get (ci := 6) (C := RX6) (T := TX6) (N := 11) (sp := (0, (-2147483648), 2147483647, 0)) hx hb htl inX6 hown hK hG ht_a0 (by decide) tk_no rfl 8 (by decide) (htl _ mw_479) (fun _ h9 => h9) rfl dX6_readPart_97 (fun v9 hf90 hV9 => ?_)
          obtain ⟨v91, rfl, (ha_v91 : (-2147483648) ≤ v91.toInt), (hb_v91 : v91.toInt ≤ 2147483647)⟩ := hV9
          refine lv_bipush (v := 50) hx hb dX6_readPart_100 (by decide) ?_
          refine lv_icmp_lt (tgt := 110) hx hb dX6_readPart_102 (by decide) (fun c9 => ?_) (fun c9 => ?_)
          · have hc92 : v91.toInt < 50 := (fi_lt rfl (show (50 : Int32).toInt = 50 by decide)).mp c9
            refine lv_aload_n hx hb dX6_readPart_110 rfl (lv_at hl 2 rfl) ?_
            refine lv_dup hx hb dX6_readPart_111 rfl ?_
            refine tk_get (ci := 6) (C := RX6) (T := TX6) (N := 11) (sp := (0, (-2147483648), 2147483647, 0)) hx hb htl inX6 hown hK hG ht_a0 (by decide) tk_no rfl 8 (by decide) (htl _ mw_479) (fun _ h9 => h9) rfl dX6_readPart_112 (fun v9 hf93 hV9 => ?_)
            obtain ⟨v94, rfl, (ha_v94 : (-2147483648) ≤ v94.toInt), (hb_v94 : v94.toInt ≤ 2147483647)⟩ := hV9
            refine lv_iconst (v := 1) hx hb dX6_readPart_115 (by decide) ?_
            refine lv_iadd hx hb dX6_readPart_116 ?_
            obtain ⟨v95, hm_v95⟩ : ∃ z : Int32, v94 + 1 = z := ⟨_, rfl⟩
            refine fx_ti hm_v95 ?_
            refine tk_put (ci := 6) (v := .int v95) (ty := .int) (C := RX6) (T := TX6) (N := 11) (sp := (0, (-2147483648), 2147483647, 0)) hx hb htl inX6 tyX6 tyX6_ok nmX6 hown hK hG hS ht_a0 (by decide) tk_no rfl 8 (by decide) (htl _ mw_479) (fun _ h9 => h9) rfl (tyX6_ok 8 (by decide)) rfl rfl rfl (tk_V0 (tk_rng _).1 (tk_rng _).2) (fun _ h => tk_X7 h (by decide) (by decide)) (tk_w.of ht_a0 (by decide) (List.mem_of_getElem? (i := 0) rfl) (Nat.le_refl _) (Nat.le_refl _)) dX6_readPart_117 (fun H locs hG hS hf96 hq9 hj9 => ?_)
            have hg_0 := hj9 9 _ (by decide) (by decide) hg_0
            refine lv_iload_n hx hb dX6_readPart_120 rfl (lv_at hl 1 rfl) ?_
            refine lv_if_eq (tgt := 143) hx hb dX6_readPart_121 (by decide) (fun c9 => absurd (show v22.toInt = 0 from (fi_eq rfl (show (0 : Int32).toInt = 0 by decide)).mp c9) (by omega)) (fun _ => ?_)
            refine lv_aload_n hx hb dX6_readPart_124 rfl (lv_at hl 2 rfl) ?_
            refine tk_get (ci := 6) (C := RX6) (T := TX6) (N := 11) (sp := (6, 8, 512, 12)) hx hb htl inX6 hown hK hG ht_a0 (by decide) tk_no rfl 0 (by decide) (htl _ mw_132) (fun _ h9 => h9) rfl dX6_readPart_125 (fun v9 hf98 hV9 => ?_)
            obtain ⟨b99, rfl, ht_b99⟩ := hV9
            have ht_b99 : t b99 = (8, 512, 12) := ht_b99
            refine lv_iconst (v := 1) hx hb dX6_readPart_128 (by decide) ?_
            refine lv_aload_n hx hb dX6_readPart_129 rfl (lv_at hl 2 rfl) ?_
            refine tk_get (ci := 6) (C := RX6) (T := TX6) (N := 11) (sp := (0, (-2147483648), 2147483647, 0)) hx hb htl inX6 hown hK hG ht_a0 (by decide) tk_no rfl 7 (by decide) (htl _ mw_496) (fun _ h9 => h9) rfl dX6_readPart_130 (fun v9 hf100 hV9 => ?_)
            obtain ⟨v101, rfl, (ha_v101 : (-2147483648) ≤ v101.toInt), (hb_v101 : v101.toInt ≤ 2147483647)⟩ := hV9
            have hk_1 : (1 : Int32).toInt = 1 := by decide
            refine tk_Vv (As := [.int 1, .int v101]) (rest := []) (ci := 7) ⟨hx, hb, hml, hown, hts⟩ hK hG hZ hS (k_X7_put l D cy ld t b99 1 v101 ht_b99) trivial ⟨callB_of 2 hts (wl_in mw_594) rfl rfl rfl (htl _ mw_131) (htl _ mw_591) hd_yX7_put ⟨(Nat.le_of_ble_eq_true rfl), (Nat.le_of_ble_eq_true rfl)⟩, htl _ mw_592, htl _ mw_593⟩ ht_b99 (by decide) tk_no rfl (tk_w.pick [1, 2] rfl) rfl hl.1 rfl (Nat.le_of_ble_eq_true rfl) dX6_readPart_133 ⟨(Nat.le_of_ble_eq_true rfl), (Nat.le_of_ble_eq_true rfl)⟩ (fun H locs hpo hG hS hq9 => ?_)
            have hg_0 := hg_0.call hq9 (tk_w.no ht_a0 (by decide))
            have hf100 := hf100.call hq9 (tk_w.no ht_a0 (by decide))
            refine lv_aload_n hx hb dX6_readPart_136 rfl (lv_at hl 2 rfl) ?_
            have hk_8 : (8 : Int32).toInt = 8 := by decide
            refine tk_Vv (As := []) (rest := []) (ci := 6) ⟨hx, hb, hml, hown, hts⟩ hK hG hZ hS (k_X6_step l D cy ld t a0 8 ht_a0 (by omega) (by omega)) hg_0 ⟨callB_of 0 hts (wl_in mw_494) rfl rfl rfl (htl _ mw_36) (htl _ mw_491) hd_yX6_step ⟨(Nat.le_of_ble_eq_true rfl), (Nat.le_of_ble_eq_true rfl)⟩, htl _ mw_492, htl _ mw_493⟩ ht_a0 (by decide) tk_no rfl (tk_w.pick [0] rfl) rfl hl.1 rfl (Nat.le_of_ble_eq_true rfl) dX6_readPart_137 ⟨(Nat.le_of_ble_eq_true rfl), (Nat.le_of_ble_eq_true rfl)⟩ (fun H locs hpo hG hS hq9 => ?_)
            have hf104 := hpo
            refine lv_goto (tgt := 175) hx hb dX6_readPart_140 (by decide) ?_
            exact tk_vret hx hb hr hlocks (show tk_f D H a0 6 9 (.int 8) from hf104) hG hS dX6_readPart_175
          · have hc92 : ¬ (v91.toInt < 50) := fun h9 => c9 ((fi_lt rfl (show (50 : Int32).toInt = 50 by decide)).mpr h9)
            refine lv_aload_n hx hb dX6_readPart_105 rfl (lv_at hl 2 rfl) ?_
            have hk_8 : (8 : Int32).toInt = 8 := by decide
            refine tk_Vv (As := []) (rest := []) (ci := 6) ⟨hx, hb, hml, hown, hts⟩ hK hG hZ hS (k_X6_fail l D cy ld t a0 8 ht_a0 (by omega) (by omega)) hg_0 ⟨callB_of 0 hts (wl_in mw_507) rfl rfl rfl (htl _ mw_36) (htl _ mw_504) hd_yX6_fail ⟨(Nat.le_of_ble_eq_true rfl), (Nat.le_of_ble_eq_true rfl)⟩, htl _ mw_505, htl _ mw_506⟩ ht_a0 (by decide) tk_no rfl (tk_w.pick [0] rfl) rfl hl.1 rfl (Nat.le_of_ble_eq_true rfl) dX6_readPart_106 ⟨(Nat.le_of_ble_eq_true rfl), (Nat.le_of_ble_eq_true rfl)⟩ (fun H locs hpo hG hS hq9 => ?_)
            have hf106 := hpo
            exact tk_vret hx hb hr hlocks (show tk_f D H a0 6 9 (.int 8) from hf106) hG hS dX6_readPart_109
        · have hc89 : v22.toInt = 0 := (fi_eq rfl (show (0 : Int32).toInt = 0 by decide)).mp c9
          refine lv_iload_n hx hb dX6_readPart_91 rfl (lv_at hl 0 rfl) ?_
          refine lv_iconst (v := (-1)) hx hb dX6_readPart_92 (by decide) ?_
          refine lv_icmp_eq (tgt := 105) hx hb dX6_readPart_93 (by decide) (fun c9 => ?_) (fun c9 => ?_)
          · have hc107 : v85.toInt = (-1) := (fi_eq rfl (show ((-1) : Int32).toInt = (-1) by decide)).mp c9
            refine lv_aload_n hx hb dX6_readPart_105 rfl (lv_at hl 2 rfl) ?_
            have hk_8 : (8 : Int32).toInt = 8 := by decide
            refine tk_Vv (As := []) (rest := []) (ci := 6) ⟨hx, hb, hml, hown, hts⟩ hK hG hZ hS (k_X6_fail l D cy ld t a0 8 ht_a0 (by omega) (by omega)) hg_0 ⟨callB_of 0 hts (wl_in mw_507) rfl rfl rfl (htl _ mw_36) (htl _ mw_504) hd_yX6_fail ⟨(Nat.le_of_ble_eq_true rfl), (Nat.le_of_ble_eq_true rfl)⟩, htl _ mw_505, htl _ mw_506⟩ ht_a0 (by decide) tk_no rfl (tk_w.pick [0] rfl) rfl hl.1 rfl (Nat.le_of_ble_eq_true rfl) dX6_readPart_106 ⟨(Nat.le_of_ble_eq_true rfl), (Nat.le_of_ble_eq_true rfl)⟩ (fun H locs hpo hG hS hq9 => ?_)
            have hf109 := hpo
            exact tk_vret hx hb hr hlocks (show tk_f D H a0 6 9 (.int 8) from hf109) hG hS dX6_readPart_109
          · have hc107 : ¬ (v85.toInt = (-1)) := fun h9 => c9 ((fi_eq rfl (show ((-1) : Int32).toInt = (-1) by decide)).mpr h9)
            refine lv_aload_n hx hb dX6_readPart_96 rfl (lv_at hl 2 rfl) ?_
            refine tk_get (ci := 6) (C := RX6) (T := TX6) (N := 11) (sp := (0, (-2147483648), 2147483647, 0)) hx hb htl inX6 hown hK hG ht_a0 (by decide) tk_no rfl 8 (by decide) (htl _ mw_479) (fun _ h9 => h9) rfl dX6_readPart_97 (fun v9 hf110 hV9 => ?_)
            obtain ⟨v111, rfl, (ha_v111 : (-2147483648) ≤ v111.toInt), (hb_v111 : v111.toInt ≤ 2147483647)⟩ := hV9
            refine lv_bipush (v := 50) hx hb dX6_readPart_100 (by decide) ?_
            refine lv_icmp_lt (tgt := 110) hx hb dX6_readPart_102 (by decide) (fun c9 => ?_) (fun c9 => ?_)
            · have hc112 : v111.toInt < 50 := (fi_lt rfl (show (50 : Int32).toInt = 50 by decide)).mp c9
              refine lv_aload_n hx hb dX6_readPart_110 rfl (lv_at hl 2 rfl) ?_
              refine lv_dup hx hb dX6_readPart_111 rfl ?_
              refine tk_get (ci := 6) (C := RX6) (T := TX6) (N := 11) (sp := (0, (-2147483648), 2147483647, 0)) hx hb htl inX6 hown hK hG ht_a0 (by decide) tk_no rfl 8 (by decide) (htl _ mw_479) (fun _ h9 => h9) rfl dX6_readPart_112 (fun v9 hf113 hV9 => ?_)
              obtain ⟨v114, rfl, (ha_v114 : (-2147483648) ≤ v114.toInt), (hb_v114 : v114.toInt ≤ 2147483647)⟩ := hV9
              refine lv_iconst (v := 1) hx hb dX6_readPart_115 (by decide) ?_
              refine lv_iadd hx hb dX6_readPart_116 ?_
              obtain ⟨v115, hm_v115⟩ : ∃ z : Int32, v114 + 1 = z := ⟨_, rfl⟩
              refine fx_ti hm_v115 ?_
              refine tk_put (ci := 6) (v := .int v115) (ty := .int) (C := RX6) (T := TX6) (N := 11) (sp := (0, (-2147483648), 2147483647, 0)) hx hb htl inX6 tyX6 tyX6_ok nmX6 hown hK hG hS ht_a0 (by decide) tk_no rfl 8 (by decide) (htl _ mw_479) (fun _ h9 => h9) rfl (tyX6_ok 8 (by decide)) rfl rfl rfl (tk_V0 (tk_rng _).1 (tk_rng _).2) (fun _ h => tk_X7 h (by decide) (by decide)) (tk_w.of ht_a0 (by decide) (List.mem_of_getElem? (i := 0) rfl) (Nat.le_refl _) (Nat.le_refl _)) dX6_readPart_117 (fun H locs hG hS hf116 hq9 hj9 => ?_)
              have hg_0 := hj9 9 _ (by decide) (by decide) hg_0
              refine lv_iload_n hx hb dX6_readPart_120 rfl (lv_at hl 1 rfl) ?_
              refine lv_if_eq (tgt := 143) hx hb dX6_readPart_121 (by decide) (fun _ => ?_) (fun c9 => absurd ((fi_eq rfl (show (0 : Int32).toInt = 0 by decide)).mpr (show v22.toInt = 0 by omega)) c9)
              refine lv_aload_n hx hb dX6_readPart_143 rfl (lv_at hl 2 rfl) ?_
              have hk_8 : (8 : Int32).toInt = 8 := by decide
              refine tk_Vv (As := []) (rest := []) (ci := 6) ⟨hx, hb, hml, hown, hts⟩ hK hG hZ hS (k_X6_step l D cy ld t a0 8 ht_a0 (by omega) (by omega)) hg_0 ⟨callB_of 0 hts (wl_in mw_494) rfl rfl rfl (htl _ mw_36) (htl _ mw_491) hd_yX6_step ⟨(Nat.le_of_ble_eq_true rfl), (Nat.le_of_ble_eq_true rfl)⟩, htl _ mw_492, htl _ mw_493⟩ ht_a0 (by decide) tk_no rfl (tk_w.pick [0] rfl) rfl hl.1 rfl (Nat.le_of_ble_eq_true rfl) dX6_readPart_144 ⟨(Nat.le_of_ble_eq_true rfl), (Nat.le_of_ble_eq_true rfl)⟩ (fun H locs hpo hG hS hq9 => ?_)
              have hf119 := hpo
              refine lv_aload_n hx hb dX6_readPart_147 rfl (lv_at hl 2 rfl) ?_
              refine tk_get (ci := 6) (C := RX6) (T := TX6) (N := 11) (sp := (6, 8, 512, 12)) hx hb htl inX6 hown hK hG ht_a0 (by decide) tk_no rfl 0 (by decide) (htl _ mw_132) (fun _ h9 => h9) rfl dX6_readPart_148 (fun v9 hf120 hV9 => ?_)
              obtain ⟨b121, rfl, ht_b121⟩ := hV9
              have ht_b121 : t b121 = (8, 512, 12) := ht_b121
              refine lv_iconst (v := 2) hx hb dX6_readPart_151 (by decide) ?_
              refine lv_aload_n hx hb dX6_readPart_152 rfl (lv_at hl 2 rfl) ?_
              refine tk_get (ci := 6) (C := RX6) (T := TX6) (N := 11) (sp := (0, 0, 1, 0)) hx hb htl inX6 hown hK hG ht_a0 (by decide) tk_no rfl 3 (by decide) (htl _ mw_477) (fun _ h9 => h9) rfl dX6_readPart_153 (fun v9 hf122 hV9 => ?_)
              obtain ⟨v123, rfl, (ha_v123 : 0 ≤ v123.toInt), (hb_v123 : v123.toInt ≤ 1)⟩ := hV9
              have hj134 : ∀ (v132 : Int32) (H : Heap) (locs : List Loc), tk_G D cy ld t [] H → va_S (tk_w t [(7, 0, 0), (20, 0, 0), (8, 12, 12)]) s.heap H locs → tk_f D H a0 6 9 (.int 8) → ∀ ls : Array Slot, lv_has ls 3 [] → W p l e ({ frames := 9, cells := 0, slots := 0, locals := 560 }) s m args below meth c H locs 0 0 (MQ below (tv D cy ld t [] (fun H => tk_f D H a0 6 9 (.int 8)) (tk_w t [(7, 0, 0), (20, 0, 0), (8, 12, 12)])) args s 0 0 (tk_w t [(7, 0, 0), (20, 0, 0), (8, 12, 12)])) (F0 m 172 ls [.int v132, .int 2, .ref b121]) := by
                intro v132 H locs hG hS hf127 ls hl
                have hk_2 : (2 : Int32).toInt = 2 := by decide
                refine tk_Vv (As := [.int 2, .int v132]) (rest := []) (ci := 7) ⟨hx, hb, hml, hown, hts⟩ hK hG hZ hS (k_X7_put l D cy ld t b121 2 v132 ht_b121) trivial ⟨callB_of 2 hts (wl_in mw_594) rfl rfl rfl (htl _ mw_131) (htl _ mw_591) hd_yX7_put ⟨(Nat.le_of_ble_eq_true rfl), (Nat.le_of_ble_eq_true rfl)⟩, htl _ mw_592, htl _ mw_593⟩ ht_b121 (by decide) tk_no rfl (tk_w.pick [1, 2] rfl) rfl hl.1 rfl (Nat.le_of_ble_eq_true rfl) dX6_readPart_172 ⟨(Nat.le_of_ble_eq_true rfl), (Nat.le_of_ble_eq_true rfl)⟩ (fun H locs hpo hG hS hq9 => ?_)
                have hf127 := hf127.call hq9 (tk_w.no ht_a0 (by decide))
                exact tk_vret hx hb hr hlocks (show tk_f D H a0 6 9 (.int 8) from hf127) hG hS dX6_readPart_175
              refine lv_if_eq (tgt := 167) hx hb dX6_readPart_156 (by decide) (fun c9 => ?_) (fun c9 => ?_)
              · have hc124 : v123.toInt = 0 := (fi_eq rfl (show (0 : Int32).toInt = 0 by decide)).mp c9
                refine lv_aload_n hx hb dX6_readPart_167 rfl (lv_at hl 2 rfl) ?_
                refine lv_iload_n hx hb dX6_readPart_168 rfl (lv_at hl 0 rfl) ?_
                have hk_8 : (8 : Int32).toInt = 8 := by decide
                refine tk_Vi (As := [.int v85]) (rest := [.int 2, .ref b121]) (ci := 6) ⟨hx, hb, hml, hown, hts⟩ hK hG hZ hS (k_X6_readOwner l D cy ld t a0 v85 8 ht_a0 (by omega) (by omega)) hf119 ⟨callB_of 1 hts (wl_in mw_614) rfl rfl rfl (htl _ mw_36) (htl _ mw_611) hd_yX6_readOwner ⟨(Nat.le_of_ble_eq_true rfl), (Nat.le_of_ble_eq_true rfl)⟩, htl _ mw_612, htl _ mw_613⟩ ht_a0 (by decide) tk_no rfl (tk_w.pick [0] rfl) rfl hl.1 rfl (Nat.le_of_ble_eq_true rfl) dX6_readPart_169 ⟨(Nat.le_of_ble_eq_true rfl), (Nat.le_of_ble_eq_true rfl)⟩ (fun v136 H locs hpo hG hS hq9 => ?_)
                have hf138 := hpo
                exact hj134 v136 _ _ hG hS hf138 _ (lv_sub hl [] rfl)
              · have hc124 : ¬ (v123.toInt = 0) := fun h9 => c9 ((fi_eq rfl (show (0 : Int32).toInt = 0 by decide)).mpr h9)
                refine lv_aload_n hx hb dX6_readPart_159 rfl (lv_at hl 2 rfl) ?_
                refine lv_iload_n hx hb dX6_readPart_160 rfl (lv_at hl 0 rfl) ?_
                refine tk_Vi (As := [.int v85]) (rest := [.int 2, .ref b121]) (ci := 6) ⟨hx, hb, hml, hown, hts⟩ hK hG hZ hS (k_X6_noteLawWord l D cy ld t a0 v85 ht_a0) trivial ⟨callB_of 1 hts (wl_in mw_607) rfl rfl rfl (htl _ mw_36) (htl _ mw_604) hd_yX6_noteLawWord ⟨(Nat.le_of_ble_eq_true rfl), (Nat.le_of_ble_eq_true rfl)⟩, htl _ mw_605, htl _ mw_606⟩ ht_a0 (by decide) tk_no rfl (tk_w.pick [2] rfl) rfl hl.1 rfl (Nat.le_of_ble_eq_true rfl) dX6_readPart_161 ⟨(Nat.le_of_ble_eq_true rfl), (Nat.le_of_ble_eq_true rfl)⟩ (fun v139 H locs hpo hG hS hq9 => ?_)
                have hf119 := hf119.call hq9 (tk_w.no ht_a0 (by decide))
                refine lv_goto (tgt := 172) hx hb dX6_readPart_164 (by decide) ?_
                exact hj134 v139 _ _ hG hS hf119 _ (lv_sub hl [] rfl)
            · have hc112 : ¬ (v111.toInt < 50) := fun h9 => c9 ((fi_lt rfl (show (50 : Int32).toInt = 50 by decide)).mpr h9)
              refine lv_aload_n hx hb dX6_readPart_105 rfl (lv_at hl 2 rfl) ?_
              have hk_8 : (8 : Int32).toInt = 8 := by decide
              refine tk_Vv (As := []) (rest := []) (ci := 6) ⟨hx, hb, hml, hown, hts⟩ hK hG hZ hS (k_X6_fail l D cy ld t a0 8 ht_a0 (by omega) (by omega)) hg_0 ⟨callB_of 0 hts (wl_in mw_507) rfl rfl rfl (htl _ mw_36) (htl _ mw_504) hd_yX6_fail ⟨(Nat.le_of_ble_eq_true rfl), (Nat.le_of_ble_eq_true rfl)⟩, htl _ mw_505, htl _ mw_506⟩ ht_a0 (by decide) tk_no rfl (tk_w.pick [0] rfl) rfl hl.1 rfl (Nat.le_of_ble_eq_true rfl) dX6_readPart_106 ⟨(Nat.le_of_ble_eq_true rfl), (Nat.le_of_ble_eq_true rfl)⟩ (fun H locs hpo hG hS hq9 => ?_)
              have hf142 := hpo
              exact tk_vret hx hb hr hlocks (show tk_f D H a0 6 9 (.int 8) from hf142) hG hS dX6_readPart_109
    refine lv_if_eq (tgt := 66) hx hb dX6_readPart_41 (by decide) (fun c9 => ?_) (fun c9 => ?_)
    · have hc14 : v8.toInt = 0 := (fi_eq rfl (show (0 : Int32).toInt = 0 by decide)).mp c9
      refine lv_iconst (v := 0) hx hb dX6_readPart_66 (by decide) ?_
      have hk_0 : (0 : Int32).toInt = 0 := by decide
      exact hj23 0 (by omega) (by omega) _ (lv_sub hl [0] rfl)
    · have hc14 : ¬ (v8.toInt = 0) := fun h9 => c9 ((fi_eq rfl (show (0 : Int32).toInt = 0 by decide)).mpr h9)
      refine lv_aload_n hx hb dX6_readPart_44 rfl (lv_at hl 0 rfl) ?_
      refine tk_get (ci := 6) (C := RX6) (T := TX6) (N := 11) (sp := (0, (-2147483648), 2147483647, 0)) hx hb htl inX6 hown hK hG ht_a0 (by decide) tk_no rfl 6 (by decide) (htl _ mw_482) (fun _ h9 => h9) rfl dX6_readPart_45 (fun v9 hf143 hV9 => ?_)
      obtain ⟨v144, rfl, (ha_v144 : (-2147483648) ≤ v144.toInt), (hb_v144 : v144.toInt ≤ 2147483647)⟩ := hV9
      refine lv_iconst (v := 2) hx hb dX6_readPart_48 (by decide) ?_
      refine lv_icmp_ne (tgt := 66) hx hb dX6_readPart_49 (by decide) (fun c9 => ?_) (fun c9 => ?_)
      · have hc145 : ¬ (v144.toInt = 2) := fun h9 => c9 ((fi_eq rfl (show (2 : Int32).toInt = 2 by decide)).mpr h9)
        refine lv_iconst (v := 0) hx hb dX6_readPart_66 (by decide) ?_
        have hk_0 : (0 : Int32).toInt = 0 := by decide
        exact hj23 0 (by omega) (by omega) _ (lv_sub hl [0] rfl)
      · have hc145 : v144.toInt = 2 := (fi_eq rfl (show (2 : Int32).toInt = 2 by decide)).mp c9
        refine lv_aload_n hx hb dX6_readPart_52 rfl (lv_at hl 0 rfl) ?_
        refine tk_get (ci := 6) (C := RX6) (T := TX6) (N := 11) (sp := (0, (-2147483648), 2147483647, 0)) hx hb htl inX6 hown hK hG ht_a0 (by decide) tk_no rfl 7 (by decide) (htl _ mw_496) (fun _ h9 => h9) rfl dX6_readPart_53 (fun v9 hf146 hV9 => ?_)
        obtain ⟨v147, rfl, (ha_v147 : (-2147483648) ≤ v147.toInt), (hb_v147 : v147.toInt ≤ 2147483647)⟩ := hV9
        refine lv_sipush (v := 1000) hx hb dX6_readPart_56 (by decide) ?_
        refine lv_icmp_gt (tgt := 66) hx hb dX6_readPart_59 (by decide) (fun c9 => ?_) (fun c9 => ?_)
        · have hc148 : 1000 < v147.toInt := (fi_lt (show (1000 : Int32).toInt = 1000 by decide) rfl).mp c9
          refine lv_iconst (v := 0) hx hb dX6_readPart_66 (by decide) ?_
          have hk_0 : (0 : Int32).toInt = 0 := by decide
          exact hj23 0 (by omega) (by omega) _ (lv_sub hl [0] rfl)
        · have hc148 : ¬ (1000 < v147.toInt) := fun h9 => c9 ((fi_lt (show (1000 : Int32).toInt = 1000 by decide) rfl).mpr h9)
          refine lv_iconst (v := 1) hx hb dX6_readPart_62 (by decide) ?_
          refine lv_goto (tgt := 67) hx hb dX6_readPart_63 (by decide) ?_
          have hk_1 : (1 : Int32).toInt = 1 := by decide
          exact hj23 1 (by omega) (by omega) _ (lv_sub hl [0] rfl)
  · have hc7 : ¬ (v1.toInt = 0) := fun h9 => c9 ((fi_eq rfl (show (0 : Int32).toInt = 0 by decide)).mpr h9)
    refine lv_aload_n hx hb dX6_readPart_9 rfl (lv_at hl 0 rfl) ?_
    refine tk_Vi (As := []) (rest := []) (ci := 6) ⟨hx, hb, hml, hown, hts⟩ hK hG hZ hS (k_X6_goDeeper_8 l D cy ld t a0 ht_a0) hg_0 ⟨callB_of 0 hts (wl_in mw_599) rfl rfl rfl (htl _ mw_36) (htl _ mw_596) hd_yX6_goDeeper ⟨(Nat.le_of_ble_eq_true rfl), (Nat.le_of_ble_eq_true rfl)⟩, htl _ mw_597, htl _ mw_598⟩ ht_a0 (by decide) tk_no rfl (tk_w.pick [0] rfl) rfl hl.1 rfl (Nat.le_of_ble_eq_true rfl) dX6_readPart_10 ⟨(Nat.le_of_ble_eq_true rfl), (Nat.le_of_ble_eq_true rfl)⟩ (fun v149 H locs hpo hG hS hq9 => ?_)
    obtain ⟨hpo151, hpo152, hpo153, hf154⟩ := hpo
    obtain rfl : v149 = 0 := (fi_eq (show v149.toInt = 0 by omega) (by decide)).mpr rfl
    refine lv_if_eq (tgt := 36) hx hb dX6_readPart_13 (by decide) (fun _ => ?_) (fun c9 => absurd (by decide) c9)
    exact tk_vret hx hb hr hlocks (show tk_f D H a0 6 9 (.int 8) from hf154) hG hS dX6_readPart_36
theorem dX6_readTerm_0 : decode cX6_readTerm 0 = .ok (.aload_n 0, 1) := by decide +kernel
theorem dX6_readTerm_1 : decode cX6_readTerm 1 = .ok (.invokevirtual 181, 3) := by decide +kernel
theorem dX6_readTerm_4 : decode cX6_readTerm 4 = .ok (.iconst 0, 1) := by decide +kernel
theorem dX6_readTerm_5 : decode cX6_readTerm 5 = .ok (.istore_n 1, 1) := by decide +kernel
theorem dX6_readTerm_6 : decode cX6_readTerm 6 = .ok (.iload_n 1, 1) := by decide +kernel
theorem dX6_readTerm_7 : decode cX6_readTerm 7 = .ok (.sipush 400, 3) := by decide +kernel
theorem dX6_readTerm_10 : decode cX6_readTerm 10 = .ok (.if_icmp .ge 84, 3) := by decide +kernel
theorem dX6_readTerm_94 : decode cX6_readTerm 94 = .ok (.return_, 1) := by decide +kernel
theorem dX6_readTerm_13 : decode cX6_readTerm 13 = .ok (.aload_n 0, 1) := by decide +kernel
theorem dX6_readTerm_14 : decode cX6_readTerm 14 = .ok (.bipush 42, 2) := by decide +kernel
theorem dX6_readTerm_16 : decode cX6_readTerm 16 = .ok (.invokevirtual 83, 3) := by decide +kernel
theorem dX6_readTerm_19 : decode cX6_readTerm 19 = .ok (.ifCond .ne 21, 3) := by decide +kernel
theorem dX6_readTerm_40 : decode cX6_readTerm 40 = .ok (.aload_n 0, 1) := by decide +kernel
theorem dX6_readTerm_41 : decode cX6_readTerm 41 = .ok (.bipush 42, 2) := by decide +kernel
theorem dX6_readTerm_43 : decode cX6_readTerm 43 = .ok (.invokevirtual 83, 3) := by decide +kernel
theorem dX6_readTerm_70 : decode cX6_readTerm 70 = .ok (.istore_n 2, 1) := by decide +kernel
theorem dX6_readTerm_71 : decode cX6_readTerm 71 = .ok (.aload_n 0, 1) := by decide +kernel
theorem dX6_readTerm_72 : decode cX6_readTerm 72 = .ok (.invokevirtual 53, 3) := by decide +kernel
theorem dX6_readTerm_75 : decode cX6_readTerm 75 = .ok (.aload_n 0, 1) := by decide +kernel
theorem dX6_readTerm_76 : decode cX6_readTerm 76 = .ok (.invokevirtual 181, 3) := by decide +kernel
theorem dX6_readTerm_79 : decode cX6_readTerm 79 = .ok (.aload_n 0, 1) := by decide +kernel
theorem dX6_readTerm_80 : decode cX6_readTerm 80 = .ok (.getfield 16, 3) := by decide +kernel
theorem dX6_readTerm_83 : decode cX6_readTerm 83 = .ok (.iload_n 2, 1) := by decide +kernel
theorem dX6_readTerm_84 : decode cX6_readTerm 84 = .ok (.iconst 0, 1) := by decide +kernel
theorem dX6_readTerm_85 : decode cX6_readTerm 85 = .ok (.invokevirtual 140, 3) := by decide +kernel
theorem dX6_readTerm_88 : decode cX6_readTerm 88 = .ok (.iinc 1 1, 3) := by decide +kernel
theorem dX6_readTerm_91 : decode cX6_readTerm 91 = .ok (.goto (-85), 3) := by decide +kernel
theorem dX6_readTerm_46 : decode cX6_readTerm 46 = .ok (.ifCond .eq 8, 3) := by decide +kernel
theorem dX6_readTerm_54 : decode cX6_readTerm 54 = .ok (.aload_n 0, 1) := by decide +kernel
theorem dX6_readTerm_55 : decode cX6_readTerm 55 = .ok (.bipush 47, 2) := by decide +kernel
theorem dX6_readTerm_57 : decode cX6_readTerm 57 = .ok (.invokevirtual 83, 3) := by decide +kernel
theorem dX6_readTerm_60 : decode cX6_readTerm 60 = .ok (.ifCond .eq 8, 3) := by decide +kernel
theorem dX6_readTerm_68 : decode cX6_readTerm 68 = .ok (.bipush 10, 2) := by decide +kernel
theorem dX6_readTerm_63 : decode cX6_readTerm 63 = .ok (.bipush 9, 2) := by decide +kernel
theorem dX6_readTerm_65 : decode cX6_readTerm 65 = .ok (.goto 5, 3) := by decide +kernel
theorem dX6_readTerm_49 : decode cX6_readTerm 49 = .ok (.bipush 8, 2) := by decide +kernel
theorem dX6_readTerm_51 : decode cX6_readTerm 51 = .ok (.goto 19, 3) := by decide +kernel
theorem dX6_readTerm_22 : decode cX6_readTerm 22 = .ok (.aload_n 0, 1) := by decide +kernel
theorem dX6_readTerm_23 : decode cX6_readTerm 23 = .ok (.bipush 47, 2) := by decide +kernel
theorem dX6_readTerm_25 : decode cX6_readTerm 25 = .ok (.invokevirtual 83, 3) := by decide +kernel
theorem dX6_readTerm_28 : decode cX6_readTerm 28 = .ok (.ifCond .ne 12, 3) := by decide +kernel
theorem dX6_readTerm_31 : decode cX6_readTerm 31 = .ok (.aload_n 0, 1) := by decide +kernel
theorem dX6_readTerm_32 : decode cX6_readTerm 32 = .ok (.bipush 37, 2) := by decide +kernel
theorem dX6_readTerm_34 : decode cX6_readTerm 34 = .ok (.invokevirtual 83, 3) := by decide +kernel
theorem dX6_readTerm_37 : decode cX6_readTerm 37 = .ok (.ifCond .eq 57, 3) := by decide +kernel
set_option maxHeartbeats 4000000 in
set_option maxRecDepth 100000 in
theorem k_X6_readTerm_8 (l : Launch) (D : va_G) (cy : Nat → ClassId) (ld : Nat → Nat) (t : tk_T) (a0 : Nat) (ht_a0 : t a0 = (7, 0, 0)) : Met l yX6_readTerm (wl yX6_readTerm cX6_readTerm 3 none) ({ frames := 10, cells := 0, slots := 0, locals := 630 }) (tp D cy ld t [] [.ref a0] (fun H => tk_f D H a0 6 9 (.int 8))) (tv D cy ld t [] (fun H => tk_f D H a0 6 9 (.int 8)) (tk_w t [(7, 0, 0), (20, 0, 0), (8, 12, 12)])) 0 0 (tk_w t [(7, 0, 0), (20, 0, 0), (8, 12, 12)]) := by
  refine tk_met (y := yX6_readTerm) (cc := cX6_readTerm) (maxL := 3) (ret := none) (av := [.ref a0]) _ _ (by decide) (Nat.le_of_ble_eq_true rfl) ?_
  intro p e s m args below meth c hx hb hr hml hts htl hown hlocks hK H locs hH hG hS hB hZ ls hl
  have hown : s.vm.findClass RX6 = some m.cls := hown
  have hl : lv_has ls 3 [(0, .ref a0)] := hl
  have hg_0 := hB
  refine lv_aload_n hx hb dX6_readTerm_0 rfl (lv_at hl 0 rfl) ?_
  refine tk_Vv (As := []) (rest := []) (ci := 6) ⟨hx, hb, hml, hown, hts⟩ hK hG hZ hS (k_X6_readPart_8 l D cy ld t a0 ht_a0) hg_0 ⟨callB_of 0 hts (wl_in mw_595) rfl rfl rfl (htl _ mw_36) (htl _ mw_616) hd_yX6_readPart ⟨(Nat.le_of_ble_eq_true rfl), (Nat.le_of_ble_eq_true rfl)⟩, htl _ mw_617, htl _ mw_618⟩ ht_a0 (by decide) tk_no rfl (tk_w.pick [0, 1, 2] rfl) rfl hl.1 rfl (Nat.le_of_ble_eq_true rfl) dX6_readTerm_1 ⟨(Nat.le_of_ble_eq_true rfl), (Nat.le_of_ble_eq_true rfl)⟩ (fun H locs hpo hG hS hq9 => ?_)
  have hf2 := hpo
  refine lv_iconst (v := 0) hx hb dX6_readTerm_4 (by decide) ?_
  refine lv_istore_n (lv' := [(1, .int 0), (0, .ref a0)]) hx hb dX6_readTerm_5 rfl hl (by decide) rfl (fun ls hl => ?_)
  have hl994 : ∀ (N_l994 : Nat) (v3 : Int32) (H : Heap) (locs : List Loc), 0 ≤ v3.toInt → v3.toInt ≤ 400 → (-1) * v3.toInt + 400 < (N_l994 : Int) → tk_G D cy ld t [] H → va_S (tk_w t [(7, 0, 0), (20, 0, 0), (8, 12, 12)]) s.heap H locs → tk_f D H a0 6 9 (.int 8) → ∀ ls : Array Slot, lv_has ls 3 [(1, .int v3), (0, .ref a0)] → W p l e ({ frames := 10, cells := 0, slots := 0, locals := 630 }) s m args below meth c H locs 0 0 (MQ below (tv D cy ld t [] (fun H => tk_f D H a0 6 9 (.int 8)) (tk_w t [(7, 0, 0), (20, 0, 0), (8, 12, 12)])) args s 0 0 (tk_w t [(7, 0, 0), (20, 0, 0), (8, 12, 12)])) (F0 m 6 ls []) := by
    intro N_l994
    induction N_l994 with
    | zero => intro v3 H locs hq0_l994 hq1_l994 hm_l994 hG hS hf2 ls hl; exfalso; omega
    | succ N_l994 ih_l994 =>
      intro v3 H locs hq0_l994 hq1_l994 hm_l994 hG hS hf2 ls hl
      refine lv_iload_n hx hb dX6_readTerm_6 rfl (lv_at hl 0 rfl) ?_
      refine lv_sipush (v := 400) hx hb dX6_readTerm_7 (by decide) ?_
      refine lv_icmp_ge (tgt := 94) hx hb dX6_readTerm_10 (by decide) (fun c9 => ?_) (fun c9 => ?_)
      · have hc995 : 400 ≤ v3.toInt := (fi_le (show (400 : Int32).toInt = 400 by decide) rfl).mp c9
        exact tk_vret hx hb hr hlocks (show tk_f D H a0 6 9 (.int 8) from hf2) hG hS dX6_readTerm_94
      · have hc995 : ¬ (400 ≤ v3.toInt) := fun h9 => c9 ((fi_le (show (400 : Int32).toInt = 400 by decide) rfl).mpr h9)
        refine lv_aload_n hx hb dX6_readTerm_13 rfl (lv_at hl 1 rfl) ?_
        refine lv_bipush (v := 42) hx hb dX6_readTerm_14 (by decide) ?_
        have hk_42 : (42 : Int32).toInt = 42 := by decide
        refine tk_Vi (As := [.int 42]) (rest := []) (ci := 6) ⟨hx, hb, hml, hown, hts⟩ hK hG hZ hS (k_X6_isSign l D cy ld t a0 42 ht_a0) trivial ⟨callB_of 1 hts (wl_in mw_590) rfl rfl rfl (htl _ mw_36) (htl _ mw_587) hd_yX6_isSign ⟨(Nat.le_of_ble_eq_true rfl), (Nat.le_of_ble_eq_true rfl)⟩, htl _ mw_588, htl _ mw_589⟩ ht_a0 (by decide) tk_no rfl (tk_w.pick [] rfl) rfl hl.1 rfl (Nat.le_of_ble_eq_true rfl) dX6_readTerm_16 ⟨(Nat.le_of_ble_eq_true rfl), (Nat.le_of_ble_eq_true rfl)⟩ (fun v996 H locs hpo hG hS hq9 => ?_)
        have hf2 := hf2.call hq9 tk_w.nil
        obtain ⟨hpo998, hpo999, hpo1000, hpo1001⟩ := hpo
        refine lv_if_ne (tgt := 40) hx hb dX6_readTerm_19 (by decide) (fun c9 => ?_) (fun c9 => ?_)
        · have hc1002 : ¬ (v996.toInt = 0) := fun h9 => c9 ((fi_eq rfl (show (0 : Int32).toInt = 0 by decide)).mpr h9)
          refine lv_aload_n hx hb dX6_readTerm_40 rfl (lv_at hl 1 rfl) ?_
          refine lv_bipush (v := 42) hx hb dX6_readTerm_41 (by decide) ?_
          have hk_42 : (42 : Int32).toInt = 42 := by decide
          refine tk_Vi (As := [.int 42]) (rest := []) (ci := 6) ⟨hx, hb, hml, hown, hts⟩ hK hG hZ hS (k_X6_isSign l D cy ld t a0 42 ht_a0) trivial ⟨callB_of 1 hts (wl_in mw_590) rfl rfl rfl (htl _ mw_36) (htl _ mw_587) hd_yX6_isSign ⟨(Nat.le_of_ble_eq_true rfl), (Nat.le_of_ble_eq_true rfl)⟩, htl _ mw_588, htl _ mw_589⟩ ht_a0 (by decide) tk_no rfl (tk_w.pick [] rfl) rfl hl.1 rfl (Nat.le_of_ble_eq_true rfl) dX6_readTerm_43 ⟨(Nat.le_of_ble_eq_true rfl), (Nat.le_of_ble_eq_true rfl)⟩ (fun v1003 H locs hpo hG hS hq9 => ?_)
          have hf2 := hf2.call hq9 tk_w.nil
          obtain ⟨hpo1005, hpo1006, hpo1007, hpo1008⟩ := hpo
          have hj1021 : ∀ (v1019 : Int32) (H : Heap) (locs : List Loc), 8 ≤ v1019.toInt → v1019.toInt ≤ 10 → tk_G D cy ld t [] H → va_S (tk_w t [(7, 0, 0), (20, 0, 0), (8, 12, 12)]) s.heap H locs → tk_f D H a0 6 9 (.int 8) → ∀ ls : Array Slot, lv_has ls 3 [(1, .int v3), (0, .ref a0)] → W p l e ({ frames := 10, cells := 0, slots := 0, locals := 630 }) s m args below meth c H locs 0 0 (MQ below (tv D cy ld t [] (fun H => tk_f D H a0 6 9 (.int 8)) (tk_w t [(7, 0, 0), (20, 0, 0), (8, 12, 12)])) args s 0 0 (tk_w t [(7, 0, 0), (20, 0, 0), (8, 12, 12)])) (F0 m 70 ls [.int v1019]) := by
            intro v1019 H locs hq0_j1021 hq1_j1021 hG hS hf2 ls hl
            refine lv_istore_n (lv' := [(2, .int v1019), (1, .int v3), (0, .ref a0)]) hx hb dX6_readTerm_70 rfl hl (by decide) rfl (fun ls hl => ?_)
            refine lv_aload_n hx hb dX6_readTerm_71 rfl (lv_at hl 2 rfl) ?_
            have hk_8 : (8 : Int32).toInt = 8 := by decide
            refine tk_Vv (As := []) (rest := []) (ci := 6) ⟨hx, hb, hml, hown, hts⟩ hK hG hZ hS (k_X6_step l D cy ld t a0 8 ht_a0 (by omega) (by omega)) hf2 ⟨callB_of 0 hts (wl_in mw_494) rfl rfl rfl (htl _ mw_36) (htl _ mw_491) hd_yX6_step ⟨(Nat.le_of_ble_eq_true rfl), (Nat.le_of_ble_eq_true rfl)⟩, htl _ mw_492, htl _ mw_493⟩ ht_a0 (by decide) tk_no rfl (tk_w.pick [0] rfl) rfl hl.1 rfl (Nat.le_of_ble_eq_true rfl) dX6_readTerm_72 ⟨(Nat.le_of_ble_eq_true rfl), (Nat.le_of_ble_eq_true rfl)⟩ (fun H locs hpo hG hS hq9 => ?_)
            have hf1023 := hpo
            refine lv_aload_n hx hb dX6_readTerm_75 rfl (lv_at hl 2 rfl) ?_
            refine tk_Vv (As := []) (rest := []) (ci := 6) ⟨hx, hb, hml, hown, hts⟩ hK hG hZ hS (k_X6_readPart_8 l D cy ld t a0 ht_a0) hf1023 ⟨callB_of 0 hts (wl_in mw_595) rfl rfl rfl (htl _ mw_36) (htl _ mw_616) hd_yX6_readPart ⟨(Nat.le_of_ble_eq_true rfl), (Nat.le_of_ble_eq_true rfl)⟩, htl _ mw_617, htl _ mw_618⟩ ht_a0 (by decide) tk_no rfl (tk_w.pick [0, 1, 2] rfl) rfl hl.1 rfl (Nat.le_of_ble_eq_true rfl) dX6_readTerm_76 ⟨(Nat.le_of_ble_eq_true rfl), (Nat.le_of_ble_eq_true rfl)⟩ (fun H locs hpo hG hS hq9 => ?_)
            have hf1025 := hpo
            refine lv_aload_n hx hb dX6_readTerm_79 rfl (lv_at hl 2 rfl) ?_
            refine tk_get (ci := 6) (C := RX6) (T := TX6) (N := 11) (sp := (6, 8, 512, 12)) hx hb htl inX6 hown hK hG ht_a0 (by decide) tk_no rfl 0 (by decide) (htl _ mw_132) (fun _ h9 => h9) rfl dX6_readTerm_80 (fun v9 hf1026 hV9 => ?_)
            obtain ⟨b1027, rfl, ht_b1027⟩ := hV9
            have ht_b1027 : t b1027 = (8, 512, 12) := ht_b1027
            refine lv_iload_n hx hb dX6_readTerm_83 rfl (lv_at hl 0 rfl) ?_
            refine lv_iconst (v := 0) hx hb dX6_readTerm_84 (by decide) ?_
            have hk_0 : (0 : Int32).toInt = 0 := by decide
            refine tk_Vv (As := [.int v1019, .int 0]) (rest := []) (ci := 7) ⟨hx, hb, hml, hown, hts⟩ hK hG hZ hS (k_X7_put l D cy ld t b1027 v1019 0 ht_b1027) trivial ⟨callB_of 2 hts (wl_in mw_594) rfl rfl rfl (htl _ mw_131) (htl _ mw_591) hd_yX7_put ⟨(Nat.le_of_ble_eq_true rfl), (Nat.le_of_ble_eq_true rfl)⟩, htl _ mw_592, htl _ mw_593⟩ ht_b1027 (by decide) tk_no rfl (tk_w.pick [1, 2] rfl) rfl hl.1 rfl (Nat.le_of_ble_eq_true rfl) dX6_readTerm_85 ⟨(Nat.le_of_ble_eq_true rfl), (Nat.le_of_ble_eq_true rfl)⟩ (fun H locs hpo hG hS hq9 => ?_)
            have hf1025 := hf1025.call hq9 (tk_w.no ht_a0 (by decide))
            obtain ⟨v1029, h_v1029, e_v1029⟩ := tk_inc v3 1 (by decide) (by omega) (by omega)
            refine lv_iinc (v := v1029) (lv' := [(1, .int v1029), (2, .int v1019), (0, .ref a0)]) hx hb dX6_readTerm_88 hl (k := 1) rfl e_v1029 (by decide) rfl (fun ls hl => ?_)
            refine lv_goto (tgt := 6) hx hb dX6_readTerm_91 (by decide) ?_
            exact ih_l994 v1029 _ _ (by omega) (by omega) (by omega) hG hS hf1025 _ (lv_sub hl [0, 2] rfl)
          refine lv_if_eq (tgt := 54) hx hb dX6_readTerm_46 (by decide) (fun c9 => ?_) (fun c9 => ?_)
          · have hc1009 : v1003.toInt = 0 := (fi_eq rfl (show (0 : Int32).toInt = 0 by decide)).mp c9
            refine lv_aload_n hx hb dX6_readTerm_54 rfl (lv_at hl 1 rfl) ?_
            refine lv_bipush (v := 47) hx hb dX6_readTerm_55 (by decide) ?_
            have hk_47 : (47 : Int32).toInt = 47 := by decide
            refine tk_Vi (As := [.int 47]) (rest := []) (ci := 6) ⟨hx, hb, hml, hown, hts⟩ hK hG hZ hS (k_X6_isSign l D cy ld t a0 47 ht_a0) trivial ⟨callB_of 1 hts (wl_in mw_590) rfl rfl rfl (htl _ mw_36) (htl _ mw_587) hd_yX6_isSign ⟨(Nat.le_of_ble_eq_true rfl), (Nat.le_of_ble_eq_true rfl)⟩, htl _ mw_588, htl _ mw_589⟩ ht_a0 (by decide) tk_no rfl (tk_w.pick [] rfl) rfl hl.1 rfl (Nat.le_of_ble_eq_true rfl) dX6_readTerm_57 ⟨(Nat.le_of_ble_eq_true rfl), (Nat.le_of_ble_eq_true rfl)⟩ (fun v1030 H locs hpo hG hS hq9 => ?_)
            have hf2 := hf2.call hq9 tk_w.nil
            obtain ⟨hpo1032, hpo1033, hpo1034, hpo1035⟩ := hpo
            refine lv_if_eq (tgt := 68) hx hb dX6_readTerm_60 (by decide) (fun c9 => ?_) (fun c9 => ?_)
            · have hc1036 : v1030.toInt = 0 := (fi_eq rfl (show (0 : Int32).toInt = 0 by decide)).mp c9
              refine lv_bipush (v := 10) hx hb dX6_readTerm_68 (by decide) ?_
              have hk_10 : (10 : Int32).toInt = 10 := by decide
              exact hj1021 10 _ _ (by omega) (by omega) hG hS hf2 _ (lv_sub hl [0, 1] rfl)
            · have hc1036 : ¬ (v1030.toInt = 0) := fun h9 => c9 ((fi_eq rfl (show (0 : Int32).toInt = 0 by decide)).mpr h9)
              refine lv_bipush (v := 9) hx hb dX6_readTerm_63 (by decide) ?_
              refine lv_goto (tgt := 70) hx hb dX6_readTerm_65 (by decide) ?_
              have hk_9 : (9 : Int32).toInt = 9 := by decide
              exact hj1021 9 _ _ (by omega) (by omega) hG hS hf2 _ (lv_sub hl [0, 1] rfl)
          · have hc1009 : ¬ (v1003.toInt = 0) := fun h9 => c9 ((fi_eq rfl (show (0 : Int32).toInt = 0 by decide)).mpr h9)
            refine lv_bipush (v := 8) hx hb dX6_readTerm_49 (by decide) ?_
            refine lv_goto (tgt := 70) hx hb dX6_readTerm_51 (by decide) ?_
            have hk_8 : (8 : Int32).toInt = 8 := by decide
            exact hj1021 8 _ _ (by omega) (by omega) hG hS hf2 _ (lv_sub hl [0, 1] rfl)
        · have hc1002 : v996.toInt = 0 := (fi_eq rfl (show (0 : Int32).toInt = 0 by decide)).mp c9
          refine lv_aload_n hx hb dX6_readTerm_22 rfl (lv_at hl 1 rfl) ?_
          refine lv_bipush (v := 47) hx hb dX6_readTerm_23 (by decide) ?_
          have hk_47 : (47 : Int32).toInt = 47 := by decide
          refine tk_Vi (As := [.int 47]) (rest := []) (ci := 6) ⟨hx, hb, hml, hown, hts⟩ hK hG hZ hS (k_X6_isSign l D cy ld t a0 47 ht_a0) trivial ⟨callB_of 1 hts (wl_in mw_590) rfl rfl rfl (htl _ mw_36) (htl _ mw_587) hd_yX6_isSign ⟨(Nat.le_of_ble_eq_true rfl), (Nat.le_of_ble_eq_true rfl)⟩, htl _ mw_588, htl _ mw_589⟩ ht_a0 (by decide) tk_no rfl (tk_w.pick [] rfl) rfl hl.1 rfl (Nat.le_of_ble_eq_true rfl) dX6_readTerm_25 ⟨(Nat.le_of_ble_eq_true rfl), (Nat.le_of_ble_eq_true rfl)⟩ (fun v1037 H locs hpo hG hS hq9 => ?_)
          have hf2 := hf2.call hq9 tk_w.nil
          obtain ⟨hpo1039, hpo1040, hpo1041, hpo1042⟩ := hpo
          refine lv_if_ne (tgt := 40) hx hb dX6_readTerm_28 (by decide) (fun c9 => ?_) (fun c9 => ?_)
          · have hc1043 : ¬ (v1037.toInt = 0) := fun h9 => c9 ((fi_eq rfl (show (0 : Int32).toInt = 0 by decide)).mpr h9)
            refine lv_aload_n hx hb dX6_readTerm_40 rfl (lv_at hl 1 rfl) ?_
            refine lv_bipush (v := 42) hx hb dX6_readTerm_41 (by decide) ?_
            have hk_42 : (42 : Int32).toInt = 42 := by decide
            refine tk_Vi (As := [.int 42]) (rest := []) (ci := 6) ⟨hx, hb, hml, hown, hts⟩ hK hG hZ hS (k_X6_isSign l D cy ld t a0 42 ht_a0) trivial ⟨callB_of 1 hts (wl_in mw_590) rfl rfl rfl (htl _ mw_36) (htl _ mw_587) hd_yX6_isSign ⟨(Nat.le_of_ble_eq_true rfl), (Nat.le_of_ble_eq_true rfl)⟩, htl _ mw_588, htl _ mw_589⟩ ht_a0 (by decide) tk_no rfl (tk_w.pick [] rfl) rfl hl.1 rfl (Nat.le_of_ble_eq_true rfl) dX6_readTerm_43 ⟨(Nat.le_of_ble_eq_true rfl), (Nat.le_of_ble_eq_true rfl)⟩ (fun v1044 H locs hpo hG hS hq9 => ?_)
            have hf2 := hf2.call hq9 tk_w.nil
            obtain ⟨hpo1046, hpo1047, hpo1048, hpo1049⟩ := hpo
            have hj1062 : ∀ (v1060 : Int32) (H : Heap) (locs : List Loc), 8 ≤ v1060.toInt → v1060.toInt ≤ 10 → tk_G D cy ld t [] H → va_S (tk_w t [(7, 0, 0), (20, 0, 0), (8, 12, 12)]) s.heap H locs → tk_f D H a0 6 9 (.int 8) → ∀ ls : Array Slot, lv_has ls 3 [(1, .int v3), (0, .ref a0)] → W p l e ({ frames := 10, cells := 0, slots := 0, locals := 630 }) s m args below meth c H locs 0 0 (MQ below (tv D cy ld t [] (fun H => tk_f D H a0 6 9 (.int 8)) (tk_w t [(7, 0, 0), (20, 0, 0), (8, 12, 12)])) args s 0 0 (tk_w t [(7, 0, 0), (20, 0, 0), (8, 12, 12)])) (F0 m 70 ls [.int v1060]) := by
              intro v1060 H locs hq0_j1062 hq1_j1062 hG hS hf2 ls hl
              refine lv_istore_n (lv' := [(2, .int v1060), (1, .int v3), (0, .ref a0)]) hx hb dX6_readTerm_70 rfl hl (by decide) rfl (fun ls hl => ?_)
              refine lv_aload_n hx hb dX6_readTerm_71 rfl (lv_at hl 2 rfl) ?_
              have hk_8 : (8 : Int32).toInt = 8 := by decide
              refine tk_Vv (As := []) (rest := []) (ci := 6) ⟨hx, hb, hml, hown, hts⟩ hK hG hZ hS (k_X6_step l D cy ld t a0 8 ht_a0 (by omega) (by omega)) hf2 ⟨callB_of 0 hts (wl_in mw_494) rfl rfl rfl (htl _ mw_36) (htl _ mw_491) hd_yX6_step ⟨(Nat.le_of_ble_eq_true rfl), (Nat.le_of_ble_eq_true rfl)⟩, htl _ mw_492, htl _ mw_493⟩ ht_a0 (by decide) tk_no rfl (tk_w.pick [0] rfl) rfl hl.1 rfl (Nat.le_of_ble_eq_true rfl) dX6_readTerm_72 ⟨(Nat.le_of_ble_eq_true rfl), (Nat.le_of_ble_eq_true rfl)⟩ (fun H locs hpo hG hS hq9 => ?_)
              have hf1064 := hpo
              refine lv_aload_n hx hb dX6_readTerm_75 rfl (lv_at hl 2 rfl) ?_
              refine tk_Vv (As := []) (rest := []) (ci := 6) ⟨hx, hb, hml, hown, hts⟩ hK hG hZ hS (k_X6_readPart_8 l D cy ld t a0 ht_a0) hf1064 ⟨callB_of 0 hts (wl_in mw_595) rfl rfl rfl (htl _ mw_36) (htl _ mw_616) hd_yX6_readPart ⟨(Nat.le_of_ble_eq_true rfl), (Nat.le_of_ble_eq_true rfl)⟩, htl _ mw_617, htl _ mw_618⟩ ht_a0 (by decide) tk_no rfl (tk_w.pick [0, 1, 2] rfl) rfl hl.1 rfl (Nat.le_of_ble_eq_true rfl) dX6_readTerm_76 ⟨(Nat.le_of_ble_eq_true rfl), (Nat.le_of_ble_eq_true rfl)⟩ (fun H locs hpo hG hS hq9 => ?_)
              have hf1066 := hpo
              refine lv_aload_n hx hb dX6_readTerm_79 rfl (lv_at hl 2 rfl) ?_
              refine tk_get (ci := 6) (C := RX6) (T := TX6) (N := 11) (sp := (6, 8, 512, 12)) hx hb htl inX6 hown hK hG ht_a0 (by decide) tk_no rfl 0 (by decide) (htl _ mw_132) (fun _ h9 => h9) rfl dX6_readTerm_80 (fun v9 hf1067 hV9 => ?_)
              obtain ⟨b1068, rfl, ht_b1068⟩ := hV9
              have ht_b1068 : t b1068 = (8, 512, 12) := ht_b1068
              refine lv_iload_n hx hb dX6_readTerm_83 rfl (lv_at hl 0 rfl) ?_
              refine lv_iconst (v := 0) hx hb dX6_readTerm_84 (by decide) ?_
              have hk_0 : (0 : Int32).toInt = 0 := by decide
              refine tk_Vv (As := [.int v1060, .int 0]) (rest := []) (ci := 7) ⟨hx, hb, hml, hown, hts⟩ hK hG hZ hS (k_X7_put l D cy ld t b1068 v1060 0 ht_b1068) trivial ⟨callB_of 2 hts (wl_in mw_594) rfl rfl rfl (htl _ mw_131) (htl _ mw_591) hd_yX7_put ⟨(Nat.le_of_ble_eq_true rfl), (Nat.le_of_ble_eq_true rfl)⟩, htl _ mw_592, htl _ mw_593⟩ ht_b1068 (by decide) tk_no rfl (tk_w.pick [1, 2] rfl) rfl hl.1 rfl (Nat.le_of_ble_eq_true rfl) dX6_readTerm_85 ⟨(Nat.le_of_ble_eq_true rfl), (Nat.le_of_ble_eq_true rfl)⟩ (fun H locs hpo hG hS hq9 => ?_)
              have hf1066 := hf1066.call hq9 (tk_w.no ht_a0 (by decide))
              obtain ⟨v1070, h_v1070, e_v1070⟩ := tk_inc v3 1 (by decide) (by omega) (by omega)
              refine lv_iinc (v := v1070) (lv' := [(1, .int v1070), (2, .int v1060), (0, .ref a0)]) hx hb dX6_readTerm_88 hl (k := 1) rfl e_v1070 (by decide) rfl (fun ls hl => ?_)
              refine lv_goto (tgt := 6) hx hb dX6_readTerm_91 (by decide) ?_
              exact ih_l994 v1070 _ _ (by omega) (by omega) (by omega) hG hS hf1066 _ (lv_sub hl [0, 2] rfl)
            refine lv_if_eq (tgt := 54) hx hb dX6_readTerm_46 (by decide) (fun c9 => ?_) (fun c9 => ?_)
            · have hc1050 : v1044.toInt = 0 := (fi_eq rfl (show (0 : Int32).toInt = 0 by decide)).mp c9
              refine lv_aload_n hx hb dX6_readTerm_54 rfl (lv_at hl 1 rfl) ?_
              refine lv_bipush (v := 47) hx hb dX6_readTerm_55 (by decide) ?_
              have hk_47 : (47 : Int32).toInt = 47 := by decide
              refine tk_Vi (As := [.int 47]) (rest := []) (ci := 6) ⟨hx, hb, hml, hown, hts⟩ hK hG hZ hS (k_X6_isSign l D cy ld t a0 47 ht_a0) trivial ⟨callB_of 1 hts (wl_in mw_590) rfl rfl rfl (htl _ mw_36) (htl _ mw_587) hd_yX6_isSign ⟨(Nat.le_of_ble_eq_true rfl), (Nat.le_of_ble_eq_true rfl)⟩, htl _ mw_588, htl _ mw_589⟩ ht_a0 (by decide) tk_no rfl (tk_w.pick [] rfl) rfl hl.1 rfl (Nat.le_of_ble_eq_true rfl) dX6_readTerm_57 ⟨(Nat.le_of_ble_eq_true rfl), (Nat.le_of_ble_eq_true rfl)⟩ (fun v1071 H locs hpo hG hS hq9 => ?_)
              have hf2 := hf2.call hq9 tk_w.nil
              obtain ⟨hpo1073, hpo1074, hpo1075, hpo1076⟩ := hpo
              refine lv_if_eq (tgt := 68) hx hb dX6_readTerm_60 (by decide) (fun c9 => ?_) (fun c9 => ?_)
              · have hc1077 : v1071.toInt = 0 := (fi_eq rfl (show (0 : Int32).toInt = 0 by decide)).mp c9
                refine lv_bipush (v := 10) hx hb dX6_readTerm_68 (by decide) ?_
                have hk_10 : (10 : Int32).toInt = 10 := by decide
                exact hj1062 10 _ _ (by omega) (by omega) hG hS hf2 _ (lv_sub hl [0, 1] rfl)
              · have hc1077 : ¬ (v1071.toInt = 0) := fun h9 => c9 ((fi_eq rfl (show (0 : Int32).toInt = 0 by decide)).mpr h9)
                refine lv_bipush (v := 9) hx hb dX6_readTerm_63 (by decide) ?_
                refine lv_goto (tgt := 70) hx hb dX6_readTerm_65 (by decide) ?_
                have hk_9 : (9 : Int32).toInt = 9 := by decide
                exact hj1062 9 _ _ (by omega) (by omega) hG hS hf2 _ (lv_sub hl [0, 1] rfl)
            · have hc1050 : ¬ (v1044.toInt = 0) := fun h9 => c9 ((fi_eq rfl (show (0 : Int32).toInt = 0 by decide)).mpr h9)
              refine lv_bipush (v := 8) hx hb dX6_readTerm_49 (by decide) ?_
              refine lv_goto (tgt := 70) hx hb dX6_readTerm_51 (by decide) ?_
              have hk_8 : (8 : Int32).toInt = 8 := by decide
              exact hj1062 8 _ _ (by omega) (by omega) hG hS hf2 _ (lv_sub hl [0, 1] rfl)
          · have hc1043 : v1037.toInt = 0 := (fi_eq rfl (show (0 : Int32).toInt = 0 by decide)).mp c9
            refine lv_aload_n hx hb dX6_readTerm_31 rfl (lv_at hl 1 rfl) ?_
            refine lv_bipush (v := 37) hx hb dX6_readTerm_32 (by decide) ?_
            have hk_37 : (37 : Int32).toInt = 37 := by decide
            refine tk_Vi (As := [.int 37]) (rest := []) (ci := 6) ⟨hx, hb, hml, hown, hts⟩ hK hG hZ hS (k_X6_isSign l D cy ld t a0 37 ht_a0) trivial ⟨callB_of 1 hts (wl_in mw_590) rfl rfl rfl (htl _ mw_36) (htl _ mw_587) hd_yX6_isSign ⟨(Nat.le_of_ble_eq_true rfl), (Nat.le_of_ble_eq_true rfl)⟩, htl _ mw_588, htl _ mw_589⟩ ht_a0 (by decide) tk_no rfl (tk_w.pick [] rfl) rfl hl.1 rfl (Nat.le_of_ble_eq_true rfl) dX6_readTerm_34 ⟨(Nat.le_of_ble_eq_true rfl), (Nat.le_of_ble_eq_true rfl)⟩ (fun v1078 H locs hpo hG hS hq9 => ?_)
            have hf2 := hf2.call hq9 tk_w.nil
            obtain ⟨hpo1080, hpo1081, hpo1082, hpo1083⟩ := hpo
            refine lv_if_eq (tgt := 94) hx hb dX6_readTerm_37 (by decide) (fun c9 => ?_) (fun c9 => ?_)
            · have hc1084 : v1078.toInt = 0 := (fi_eq rfl (show (0 : Int32).toInt = 0 by decide)).mp c9
              exact tk_vret hx hb hr hlocks (show tk_f D H a0 6 9 (.int 8) from hf2) hG hS dX6_readTerm_94
            · have hc1084 : ¬ (v1078.toInt = 0) := fun h9 => c9 ((fi_eq rfl (show (0 : Int32).toInt = 0 by decide)).mpr h9)
              refine lv_aload_n hx hb dX6_readTerm_40 rfl (lv_at hl 1 rfl) ?_
              refine lv_bipush (v := 42) hx hb dX6_readTerm_41 (by decide) ?_
              have hk_42 : (42 : Int32).toInt = 42 := by decide
              refine tk_Vi (As := [.int 42]) (rest := []) (ci := 6) ⟨hx, hb, hml, hown, hts⟩ hK hG hZ hS (k_X6_isSign l D cy ld t a0 42 ht_a0) trivial ⟨callB_of 1 hts (wl_in mw_590) rfl rfl rfl (htl _ mw_36) (htl _ mw_587) hd_yX6_isSign ⟨(Nat.le_of_ble_eq_true rfl), (Nat.le_of_ble_eq_true rfl)⟩, htl _ mw_588, htl _ mw_589⟩ ht_a0 (by decide) tk_no rfl (tk_w.pick [] rfl) rfl hl.1 rfl (Nat.le_of_ble_eq_true rfl) dX6_readTerm_43 ⟨(Nat.le_of_ble_eq_true rfl), (Nat.le_of_ble_eq_true rfl)⟩ (fun v1085 H locs hpo hG hS hq9 => ?_)
              have hf2 := hf2.call hq9 tk_w.nil
              obtain ⟨hpo1087, hpo1088, hpo1089, hpo1090⟩ := hpo
              have hj1103 : ∀ (v1101 : Int32) (H : Heap) (locs : List Loc), 8 ≤ v1101.toInt → v1101.toInt ≤ 10 → tk_G D cy ld t [] H → va_S (tk_w t [(7, 0, 0), (20, 0, 0), (8, 12, 12)]) s.heap H locs → tk_f D H a0 6 9 (.int 8) → ∀ ls : Array Slot, lv_has ls 3 [(1, .int v3), (0, .ref a0)] → W p l e ({ frames := 10, cells := 0, slots := 0, locals := 630 }) s m args below meth c H locs 0 0 (MQ below (tv D cy ld t [] (fun H => tk_f D H a0 6 9 (.int 8)) (tk_w t [(7, 0, 0), (20, 0, 0), (8, 12, 12)])) args s 0 0 (tk_w t [(7, 0, 0), (20, 0, 0), (8, 12, 12)])) (F0 m 70 ls [.int v1101]) := by
                intro v1101 H locs hq0_j1103 hq1_j1103 hG hS hf2 ls hl
                refine lv_istore_n (lv' := [(2, .int v1101), (1, .int v3), (0, .ref a0)]) hx hb dX6_readTerm_70 rfl hl (by decide) rfl (fun ls hl => ?_)
                refine lv_aload_n hx hb dX6_readTerm_71 rfl (lv_at hl 2 rfl) ?_
                have hk_8 : (8 : Int32).toInt = 8 := by decide
                refine tk_Vv (As := []) (rest := []) (ci := 6) ⟨hx, hb, hml, hown, hts⟩ hK hG hZ hS (k_X6_step l D cy ld t a0 8 ht_a0 (by omega) (by omega)) hf2 ⟨callB_of 0 hts (wl_in mw_494) rfl rfl rfl (htl _ mw_36) (htl _ mw_491) hd_yX6_step ⟨(Nat.le_of_ble_eq_true rfl), (Nat.le_of_ble_eq_true rfl)⟩, htl _ mw_492, htl _ mw_493⟩ ht_a0 (by decide) tk_no rfl (tk_w.pick [0] rfl) rfl hl.1 rfl (Nat.le_of_ble_eq_true rfl) dX6_readTerm_72 ⟨(Nat.le_of_ble_eq_true rfl), (Nat.le_of_ble_eq_true rfl)⟩ (fun H locs hpo hG hS hq9 => ?_)
                have hf1105 := hpo
                refine lv_aload_n hx hb dX6_readTerm_75 rfl (lv_at hl 2 rfl) ?_
                refine tk_Vv (As := []) (rest := []) (ci := 6) ⟨hx, hb, hml, hown, hts⟩ hK hG hZ hS (k_X6_readPart_8 l D cy ld t a0 ht_a0) hf1105 ⟨callB_of 0 hts (wl_in mw_595) rfl rfl rfl (htl _ mw_36) (htl _ mw_616) hd_yX6_readPart ⟨(Nat.le_of_ble_eq_true rfl), (Nat.le_of_ble_eq_true rfl)⟩, htl _ mw_617, htl _ mw_618⟩ ht_a0 (by decide) tk_no rfl (tk_w.pick [0, 1, 2] rfl) rfl hl.1 rfl (Nat.le_of_ble_eq_true rfl) dX6_readTerm_76 ⟨(Nat.le_of_ble_eq_true rfl), (Nat.le_of_ble_eq_true rfl)⟩ (fun H locs hpo hG hS hq9 => ?_)
                have hf1107 := hpo
                refine lv_aload_n hx hb dX6_readTerm_79 rfl (lv_at hl 2 rfl) ?_
                refine tk_get (ci := 6) (C := RX6) (T := TX6) (N := 11) (sp := (6, 8, 512, 12)) hx hb htl inX6 hown hK hG ht_a0 (by decide) tk_no rfl 0 (by decide) (htl _ mw_132) (fun _ h9 => h9) rfl dX6_readTerm_80 (fun v9 hf1108 hV9 => ?_)
                obtain ⟨b1109, rfl, ht_b1109⟩ := hV9
                have ht_b1109 : t b1109 = (8, 512, 12) := ht_b1109
                refine lv_iload_n hx hb dX6_readTerm_83 rfl (lv_at hl 0 rfl) ?_
                refine lv_iconst (v := 0) hx hb dX6_readTerm_84 (by decide) ?_
                have hk_0 : (0 : Int32).toInt = 0 := by decide
                refine tk_Vv (As := [.int v1101, .int 0]) (rest := []) (ci := 7) ⟨hx, hb, hml, hown, hts⟩ hK hG hZ hS (k_X7_put l D cy ld t b1109 v1101 0 ht_b1109) trivial ⟨callB_of 2 hts (wl_in mw_594) rfl rfl rfl (htl _ mw_131) (htl _ mw_591) hd_yX7_put ⟨(Nat.le_of_ble_eq_true rfl), (Nat.le_of_ble_eq_true rfl)⟩, htl _ mw_592, htl _ mw_593⟩ ht_b1109 (by decide) tk_no rfl (tk_w.pick [1, 2] rfl) rfl hl.1 rfl (Nat.le_of_ble_eq_true rfl) dX6_readTerm_85 ⟨(Nat.le_of_ble_eq_true rfl), (Nat.le_of_ble_eq_true rfl)⟩ (fun H locs hpo hG hS hq9 => ?_)
                have hf1107 := hf1107.call hq9 (tk_w.no ht_a0 (by decide))
                obtain ⟨v1111, h_v1111, e_v1111⟩ := tk_inc v3 1 (by decide) (by omega) (by omega)
                refine lv_iinc (v := v1111) (lv' := [(1, .int v1111), (2, .int v1101), (0, .ref a0)]) hx hb dX6_readTerm_88 hl (k := 1) rfl e_v1111 (by decide) rfl (fun ls hl => ?_)
                refine lv_goto (tgt := 6) hx hb dX6_readTerm_91 (by decide) ?_
                exact ih_l994 v1111 _ _ (by omega) (by omega) (by omega) hG hS hf1107 _ (lv_sub hl [0, 2] rfl)
              refine lv_if_eq (tgt := 54) hx hb dX6_readTerm_46 (by decide) (fun c9 => ?_) (fun c9 => ?_)
              · have hc1091 : v1085.toInt = 0 := (fi_eq rfl (show (0 : Int32).toInt = 0 by decide)).mp c9
                refine lv_aload_n hx hb dX6_readTerm_54 rfl (lv_at hl 1 rfl) ?_
                refine lv_bipush (v := 47) hx hb dX6_readTerm_55 (by decide) ?_
                have hk_47 : (47 : Int32).toInt = 47 := by decide
                refine tk_Vi (As := [.int 47]) (rest := []) (ci := 6) ⟨hx, hb, hml, hown, hts⟩ hK hG hZ hS (k_X6_isSign l D cy ld t a0 47 ht_a0) trivial ⟨callB_of 1 hts (wl_in mw_590) rfl rfl rfl (htl _ mw_36) (htl _ mw_587) hd_yX6_isSign ⟨(Nat.le_of_ble_eq_true rfl), (Nat.le_of_ble_eq_true rfl)⟩, htl _ mw_588, htl _ mw_589⟩ ht_a0 (by decide) tk_no rfl (tk_w.pick [] rfl) rfl hl.1 rfl (Nat.le_of_ble_eq_true rfl) dX6_readTerm_57 ⟨(Nat.le_of_ble_eq_true rfl), (Nat.le_of_ble_eq_true rfl)⟩ (fun v1112 H locs hpo hG hS hq9 => ?_)
                have hf2 := hf2.call hq9 tk_w.nil
                obtain ⟨hpo1114, hpo1115, hpo1116, hpo1117⟩ := hpo
                refine lv_if_eq (tgt := 68) hx hb dX6_readTerm_60 (by decide) (fun c9 => ?_) (fun c9 => ?_)
                · have hc1118 : v1112.toInt = 0 := (fi_eq rfl (show (0 : Int32).toInt = 0 by decide)).mp c9
                  refine lv_bipush (v := 10) hx hb dX6_readTerm_68 (by decide) ?_
                  have hk_10 : (10 : Int32).toInt = 10 := by decide
                  exact hj1103 10 _ _ (by omega) (by omega) hG hS hf2 _ (lv_sub hl [0, 1] rfl)
                · have hc1118 : ¬ (v1112.toInt = 0) := fun h9 => c9 ((fi_eq rfl (show (0 : Int32).toInt = 0 by decide)).mpr h9)
                  refine lv_bipush (v := 9) hx hb dX6_readTerm_63 (by decide) ?_
                  refine lv_goto (tgt := 70) hx hb dX6_readTerm_65 (by decide) ?_
                  have hk_9 : (9 : Int32).toInt = 9 := by decide
                  exact hj1103 9 _ _ (by omega) (by omega) hG hS hf2 _ (lv_sub hl [0, 1] rfl)
              · have hc1091 : ¬ (v1085.toInt = 0) := fun h9 => c9 ((fi_eq rfl (show (0 : Int32).toInt = 0 by decide)).mpr h9)
                refine lv_bipush (v := 8) hx hb dX6_readTerm_49 (by decide) ?_
                refine lv_goto (tgt := 70) hx hb dX6_readTerm_51 (by decide) ?_
                have hk_8 : (8 : Int32).toInt = 8 := by decide
                exact hj1103 8 _ _ (by omega) (by omega) hG hS hf2 _ (lv_sub hl [0, 1] rfl)
  have hk_0 : (0 : Int32).toInt = 0 := by decide
  exact hl994 401 0 _ _ (by omega) (by omega) (by omega) hG hS hf2 _ (lv_sub hl [0, 1] rfl)
