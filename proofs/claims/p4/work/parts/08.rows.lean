theorem dX2_setHearing_0 : decode cX2_setHearing 0 = .ok (.aload_n 0, 1) := by decide +kernel
theorem dX2_setHearing_1 : decode cX2_setHearing 1 = .ok (.getfield 18, 3) := by decide +kernel
theorem dX2_setHearing_4 : decode cX2_setHearing 4 = .ok (.iload_n 1, 1) := by decide +kernel
theorem dX2_setHearing_5 : decode cX2_setHearing 5 = .ok (.iaload, 1) := by decide +kernel
theorem dX2_setHearing_6 : decode cX2_setHearing 6 = .ok (.iload_n 2, 1) := by decide +kernel
theorem dX2_setHearing_7 : decode cX2_setHearing 7 = .ok (.ishr, 1) := by decide +kernel
theorem dX2_setHearing_8 : decode cX2_setHearing 8 = .ok (.iconst 1, 1) := by decide +kernel
theorem dX2_setHearing_9 : decode cX2_setHearing 9 = .ok (.iand, 1) := by decide +kernel
theorem dX2_setHearing_10 : decode cX2_setHearing 10 = .ok (.istore 4, 2) := by decide +kernel
theorem dX2_setHearing_12 : decode cX2_setHearing 12 = .ok (.aload_n 0, 1) := by decide +kernel
theorem dX2_setHearing_13 : decode cX2_setHearing 13 = .ok (.getfield 18, 3) := by decide +kernel
theorem dX2_setHearing_16 : decode cX2_setHearing 16 = .ok (.iload_n 1, 1) := by decide +kernel
theorem dX2_setHearing_17 : decode cX2_setHearing 17 = .ok (.iload_n 3, 1) := by decide +kernel
theorem dX2_setHearing_18 : decode cX2_setHearing 18 = .ok (.iconst 1, 1) := by decide +kernel
theorem dX2_setHearing_47 : decode cX2_setHearing 47 = .ok (.iastore, 1) := by decide +kernel
theorem dX2_setHearing_48 : decode cX2_setHearing 48 = .ok (.iload 4, 2) := by decide +kernel
theorem dX2_setHearing_50 : decode cX2_setHearing 50 = .ok (.ireturn, 1) := by decide +kernel
theorem dX2_setHearing_19 : decode cX2_setHearing 19 = .ok (.if_icmp .ne 16, 3) := by decide +kernel
theorem dX2_setHearing_35 : decode cX2_setHearing 35 = .ok (.aload_n 0, 1) := by decide +kernel
theorem dX2_setHearing_36 : decode cX2_setHearing 36 = .ok (.getfield 18, 3) := by decide +kernel
theorem dX2_setHearing_39 : decode cX2_setHearing 39 = .ok (.iload_n 1, 1) := by decide +kernel
theorem dX2_setHearing_40 : decode cX2_setHearing 40 = .ok (.iaload, 1) := by decide +kernel
theorem dX2_setHearing_41 : decode cX2_setHearing 41 = .ok (.iconst 1, 1) := by decide +kernel
theorem dX2_setHearing_42 : decode cX2_setHearing 42 = .ok (.iload_n 2, 1) := by decide +kernel
theorem dX2_setHearing_43 : decode cX2_setHearing 43 = .ok (.ishl, 1) := by decide +kernel
theorem dX2_setHearing_44 : decode cX2_setHearing 44 = .ok (.iconst (-1), 1) := by decide +kernel
theorem dX2_setHearing_45 : decode cX2_setHearing 45 = .ok (.ixor, 1) := by decide +kernel
theorem dX2_setHearing_46 : decode cX2_setHearing 46 = .ok (.iand, 1) := by decide +kernel
theorem dX2_setHearing_22 : decode cX2_setHearing 22 = .ok (.aload_n 0, 1) := by decide +kernel
theorem dX2_setHearing_23 : decode cX2_setHearing 23 = .ok (.getfield 18, 3) := by decide +kernel
theorem dX2_setHearing_26 : decode cX2_setHearing 26 = .ok (.iload_n 1, 1) := by decide +kernel
theorem dX2_setHearing_27 : decode cX2_setHearing 27 = .ok (.iaload, 1) := by decide +kernel
theorem dX2_setHearing_28 : decode cX2_setHearing 28 = .ok (.iconst 1, 1) := by decide +kernel
theorem dX2_setHearing_29 : decode cX2_setHearing 29 = .ok (.iload_n 2, 1) := by decide +kernel
theorem dX2_setHearing_30 : decode cX2_setHearing 30 = .ok (.ishl, 1) := by decide +kernel
theorem dX2_setHearing_31 : decode cX2_setHearing 31 = .ok (.ior, 1) := by decide +kernel
theorem dX2_setHearing_32 : decode cX2_setHearing 32 = .ok (.goto 15, 3) := by decide +kernel
theorem dX2_termOf_0 : decode cX2_termOf 0 = .ok (.iload_n 1, 1) := by decide +kernel
theorem dX2_termOf_1 : decode cX2_termOf 1 = .ok (.tableswitch 45 0 2 #[27, 35, 40], 27) := by decide +kernel
theorem dX2_termOf_28 : decode cX2_termOf 28 = .ok (.aload_n 0, 1) := by decide +kernel
theorem dX2_termOf_29 : decode cX2_termOf 29 = .ok (.getfield 58, 3) := by decide +kernel
theorem dX2_termOf_32 : decode cX2_termOf 32 = .ok (.getfield 107, 3) := by decide +kernel
theorem dX2_termOf_35 : decode cX2_termOf 35 = .ok (.ireturn, 1) := by decide +kernel
theorem dX2_termOf_36 : decode cX2_termOf 36 = .ok (.aload_n 0, 1) := by decide +kernel
theorem dX2_termOf_37 : decode cX2_termOf 37 = .ok (.getfield 49, 3) := by decide +kernel
theorem dX2_termOf_40 : decode cX2_termOf 40 = .ok (.ireturn, 1) := by decide +kernel
theorem dX2_termOf_41 : decode cX2_termOf 41 = .ok (.aload_n 0, 1) := by decide +kernel
theorem dX2_termOf_42 : decode cX2_termOf 42 = .ok (.getfield 52, 3) := by decide +kernel
theorem dX2_termOf_45 : decode cX2_termOf 45 = .ok (.ireturn, 1) := by decide +kernel
theorem dX2_termOf_46 : decode cX2_termOf 46 = .ok (.aload_n 0, 1) := by decide +kernel
theorem dX2_termOf_47 : decode cX2_termOf 47 = .ok (.getfield 83, 3) := by decide +kernel
theorem dX2_termOf_50 : decode cX2_termOf 50 = .ok (.ireturn, 1) := by decide +kernel
set_option maxHeartbeats 4000000 in
set_option maxRecDepth 100000 in
theorem k_X2_termOf (l : Launch) (D : va_G) (cy : Nat → ClassId) (ld : Nat → Nat) (t : tk_T) (a0 : Nat) (p1 : Int32) (ht_a0 : t a0 = (3, 0, 0)) : Met l yX2_termOf (wl yX2_termOf cX2_termOf 2 (some .int)) ({ frames := 3, cells := 0, slots := 0, locals := 140 }) (tp D cy ld t [] [.ref a0, .int p1] (fun H => True)) (ti D cy ld t [] (fun r H => True) (tk_w t [])) 0 0 (tk_w t []) := by
  refine tk_met (y := yX2_termOf) (cc := cX2_termOf) (maxL := 2) (ret := (some .int)) (av := [.ref a0, .int p1]) _ _ (by decide) (Nat.le_of_ble_eq_true rfl) ?_
  intro p e s m args below meth c hx hb hr hml hts htl hown hlocks hK H locs hH hG hS hB hZ ls hl
  have hown : s.vm.findClass RX2 = some m.cls := hown
  have hl : lv_has ls 2 [(0, .ref a0), (1, .int p1)] := hl
  have hr_p1 := tk_rng p1
  refine lv_iload_n hx hb dX2_termOf_0 rfl (lv_at hl 1 rfl) ?_
  rcases (show p1.toInt = 0 ∨ p1.toInt = 1 ∨ p1.toInt = 2 ∨ p1.toInt < 0 ∨ 2 < p1.toInt by omega) with hsw | hsw | hsw | hsw | hsw
  · refine lv_tableIn (off := 27) (tgt := 28) hx hb dX2_termOf_1 (by omega) (by omega) (by rw [hsw]; rfl) (by decide) ?_
    refine lv_aload_n hx hb dX2_termOf_28 rfl (lv_at hl 0 rfl) ?_
    refine tk_get (ci := 2) (C := RX2) (T := TX2) (N := 20) (sp := (9, 40, 10, 0)) hx hb htl inX2 hown hK hG ht_a0 (by decide) tk_no rfl 19 (by decide) (htl _ mw_77) (fun _ h9 => h9) rfl dX2_termOf_29 (fun v9 hf1 hV9 => ?_)
    obtain ⟨rfl, ht_ld40⟩ := hV9
    have ht_ld40 : t (ld 40) = (10, 0, 0) := ht_ld40
    refine fx_top (v := .ref (ld 40)) rfl ?_
    refine tk_get (ci := 9) (C := RX9) (T := TX9) (N := 11) (sp := (0, (-2147483648), 2147483647, 0)) hx hb htl inX9 hown hK hG ht_ld40 (by decide) tk_no rfl 4 (by decide) (htl _ mw_408) (fun _ h9 => h9) rfl dX2_termOf_32 (fun v9 hf2 hV9 => ?_)
    obtain ⟨v3, rfl, (ha_v3 : (-2147483648) ≤ v3.toInt), (hb_v3 : v3.toInt ≤ 2147483647)⟩ := hV9
    exact tk_iret (v := v3) hx hb hr rfl hlocks trivial hG hS dX2_termOf_35
  · refine lv_tableIn (off := 35) (tgt := 36) hx hb dX2_termOf_1 (by omega) (by omega) (by rw [hsw]; rfl) (by decide) ?_
    refine lv_aload_n hx hb dX2_termOf_36 rfl (lv_at hl 0 rfl) ?_
    refine tk_get (ci := 2) (C := RX2) (T := TX2) (N := 20) (sp := (0, (-2147483648), 2147483647, 0)) hx hb htl inX2 hown hK hG ht_a0 (by decide) tk_no rfl 16 (by decide) (htl _ mw_72) (fun _ h9 => h9) rfl dX2_termOf_37 (fun v9 hf4 hV9 => ?_)
    obtain ⟨v5, rfl, (ha_v5 : (-2147483648) ≤ v5.toInt), (hb_v5 : v5.toInt ≤ 2147483647)⟩ := hV9
    exact tk_iret (v := v5) hx hb hr rfl hlocks trivial hG hS dX2_termOf_40
  · refine lv_tableIn (off := 40) (tgt := 41) hx hb dX2_termOf_1 (by omega) (by omega) (by rw [hsw]; rfl) (by decide) ?_
    refine lv_aload_n hx hb dX2_termOf_41 rfl (lv_at hl 0 rfl) ?_
    refine tk_get (ci := 2) (C := RX2) (T := TX2) (N := 20) (sp := (0, (-2147483648), 2147483647, 0)) hx hb htl inX2 hown hK hG ht_a0 (by decide) tk_no rfl 17 (by decide) (htl _ mw_73) (fun _ h9 => h9) rfl dX2_termOf_42 (fun v9 hf6 hV9 => ?_)
    obtain ⟨v7, rfl, (ha_v7 : (-2147483648) ≤ v7.toInt), (hb_v7 : v7.toInt ≤ 2147483647)⟩ := hV9
    exact tk_iret (v := v7) hx hb hr rfl hlocks trivial hG hS dX2_termOf_45
  · refine lv_tableOut (tgt := 46) hx hb dX2_termOf_1 (by omega) (by decide) ?_
    refine lv_aload_n hx hb dX2_termOf_46 rfl (lv_at hl 0 rfl) ?_
    refine tk_get (ci := 2) (C := RX2) (T := TX2) (N := 20) (sp := (0, (-2147483648), 2147483647, 0)) hx hb htl inX2 hown hK hG ht_a0 (by decide) tk_no rfl 18 (by decide) (htl _ mw_409) (fun _ h9 => h9) rfl dX2_termOf_47 (fun v9 hf8 hV9 => ?_)
    obtain ⟨v9, rfl, (ha_v9 : (-2147483648) ≤ v9.toInt), (hb_v9 : v9.toInt ≤ 2147483647)⟩ := hV9
    exact tk_iret (v := v9) hx hb hr rfl hlocks trivial hG hS dX2_termOf_50
  · refine lv_tableOut (tgt := 46) hx hb dX2_termOf_1 (by omega) (by decide) ?_
    refine lv_aload_n hx hb dX2_termOf_46 rfl (lv_at hl 0 rfl) ?_
    refine tk_get (ci := 2) (C := RX2) (T := TX2) (N := 20) (sp := (0, (-2147483648), 2147483647, 0)) hx hb htl inX2 hown hK hG ht_a0 (by decide) tk_no rfl 18 (by decide) (htl _ mw_409) (fun _ h9 => h9) rfl dX2_termOf_47 (fun v9 hf10 hV9 => ?_)
    obtain ⟨v11, rfl, (ha_v11 : (-2147483648) ≤ v11.toInt), (hb_v11 : v11.toInt ≤ 2147483647)⟩ := hV9
    exact tk_iret (v := v11) hx hb hr rfl hlocks trivial hG hS dX2_termOf_50
theorem dX2_setTerm_0 : decode cX2_setTerm 0 = .ok (.iload_n 1, 1) := by decide +kernel
theorem dX2_setTerm_1 : decode cX2_setTerm 1 = .ok (.tableswitch 54 0 2 #[27, 38, 46], 27) := by decide +kernel
theorem dX2_setTerm_28 : decode cX2_setTerm 28 = .ok (.aload_n 0, 1) := by decide +kernel
theorem dX2_setTerm_29 : decode cX2_setTerm 29 = .ok (.getfield 58, 3) := by decide +kernel
theorem dX2_setTerm_32 : decode cX2_setTerm 32 = .ok (.iload_n 2, 1) := by decide +kernel
theorem dX2_setTerm_33 : decode cX2_setTerm 33 = .ok (.putfield 107, 3) := by decide +kernel
theorem dX2_setTerm_36 : decode cX2_setTerm 36 = .ok (.goto 24, 3) := by decide +kernel
theorem dX2_setTerm_60 : decode cX2_setTerm 60 = .ok (.return_, 1) := by decide +kernel
theorem dX2_setTerm_39 : decode cX2_setTerm 39 = .ok (.aload_n 0, 1) := by decide +kernel
theorem dX2_setTerm_40 : decode cX2_setTerm 40 = .ok (.iload_n 2, 1) := by decide +kernel
theorem dX2_setTerm_41 : decode cX2_setTerm 41 = .ok (.putfield 49, 3) := by decide +kernel
theorem dX2_setTerm_44 : decode cX2_setTerm 44 = .ok (.goto 16, 3) := by decide +kernel
theorem dX2_setTerm_47 : decode cX2_setTerm 47 = .ok (.aload_n 0, 1) := by decide +kernel
theorem dX2_setTerm_48 : decode cX2_setTerm 48 = .ok (.iload_n 2, 1) := by decide +kernel
theorem dX2_setTerm_49 : decode cX2_setTerm 49 = .ok (.putfield 52, 3) := by decide +kernel
theorem dX2_setTerm_52 : decode cX2_setTerm 52 = .ok (.goto 8, 3) := by decide +kernel
theorem dX2_setTerm_55 : decode cX2_setTerm 55 = .ok (.aload_n 0, 1) := by decide +kernel
theorem dX2_setTerm_56 : decode cX2_setTerm 56 = .ok (.iload_n 2, 1) := by decide +kernel
theorem dX2_setTerm_57 : decode cX2_setTerm 57 = .ok (.putfield 83, 3) := by decide +kernel
theorem dX2_asleepWith_0 : decode cX2_asleepWith 0 = .ok (.iconst 1, 1) := by decide +kernel
theorem dX2_asleepWith_1 : decode cX2_asleepWith 1 = .ok (.iload_n 1, 1) := by decide +kernel
theorem dX2_asleepWith_2 : decode cX2_asleepWith 2 = .ok (.ishl, 1) := by decide +kernel
theorem dX2_asleepWith_3 : decode cX2_asleepWith 3 = .ok (.istore_n 2, 1) := by decide +kernel
theorem dX2_asleepWith_4 : decode cX2_asleepWith 4 = .ok (.iconst 0, 1) := by decide +kernel
theorem dX2_asleepWith_5 : decode cX2_asleepWith 5 = .ok (.istore_n 3, 1) := by decide +kernel
theorem dX2_asleepWith_6 : decode cX2_asleepWith 6 = .ok (.iload_n 3, 1) := by decide +kernel
theorem dX2_asleepWith_7 : decode cX2_asleepWith 7 = .ok (.aload_n 0, 1) := by decide +kernel
theorem dX2_asleepWith_8 : decode cX2_asleepWith 8 = .ok (.getfield 62, 3) := by decide +kernel
theorem dX2_asleepWith_11 : decode cX2_asleepWith 11 = .ok (.if_icmp .ge 23, 3) := by decide +kernel
theorem dX2_asleepWith_34 : decode cX2_asleepWith 34 = .ok (.iload_n 2, 1) := by decide +kernel
theorem dX2_asleepWith_35 : decode cX2_asleepWith 35 = .ok (.ireturn, 1) := by decide +kernel
theorem dX2_asleepWith_14 : decode cX2_asleepWith 14 = .ok (.iload_n 2, 1) := by decide +kernel
theorem dX2_asleepWith_15 : decode cX2_asleepWith 15 = .ok (.aload_n 0, 1) := by decide +kernel
theorem dX2_asleepWith_16 : decode cX2_asleepWith 16 = .ok (.getfield 58, 3) := by decide +kernel
theorem dX2_asleepWith_19 : decode cX2_asleepWith 19 = .ok (.getfield 101, 3) := by decide +kernel
theorem dX2_asleepWith_22 : decode cX2_asleepWith 22 = .ok (.iload_n 3, 1) := by decide +kernel
theorem dX2_asleepWith_23 : decode cX2_asleepWith 23 = .ok (.iaload, 1) := by decide +kernel
theorem dX2_asleepWith_24 : decode cX2_asleepWith 24 = .ok (.iload_n 3, 1) := by decide +kernel
theorem dX2_asleepWith_25 : decode cX2_asleepWith 25 = .ok (.ishl, 1) := by decide +kernel
theorem dX2_asleepWith_26 : decode cX2_asleepWith 26 = .ok (.ior, 1) := by decide +kernel
theorem dX2_asleepWith_27 : decode cX2_asleepWith 27 = .ok (.istore_n 2, 1) := by decide +kernel
theorem dX2_asleepWith_28 : decode cX2_asleepWith 28 = .ok (.iinc 3 1, 3) := by decide +kernel
theorem dX2_asleepWith_31 : decode cX2_asleepWith 31 = .ok (.goto (-25), 3) := by decide +kernel
set_option maxHeartbeats 4000000 in
set_option maxRecDepth 100000 in
theorem k_X2_asleepWith (l : Launch) (D : va_G) (cy : Nat → ClassId) (ld : Nat → Nat) (t : tk_T) (a0 : Nat) (p1 : Int32) (ht_a0 : t a0 = (3, 0, 0)) : Met l yX2_asleepWith (wl yX2_asleepWith cX2_asleepWith 4 (some .int)) ({ frames := 3, cells := 0, slots := 0, locals := 140 }) (tp D cy ld t [] [.ref a0, .int p1] (fun H => True)) (ti D cy ld t [] (fun r H => True) (tk_w t [])) 0 0 (tk_w t []) := by
  refine tk_met (y := yX2_asleepWith) (cc := cX2_asleepWith) (maxL := 4) (ret := (some .int)) (av := [.ref a0, .int p1]) _ _ (by decide) (Nat.le_of_ble_eq_true rfl) ?_
  intro p e s m args below meth c hx hb hr hml hts htl hown hlocks hK H locs hH hG hS hB hZ ls hl
  have hown : s.vm.findClass RX2 = some m.cls := hown
  have hl : lv_has ls 4 [(0, .ref a0), (1, .int p1)] := hl
  have hr_p1 := tk_rng p1
  refine lv_iconst (v := 1) hx hb dX2_asleepWith_0 (by decide) ?_
  refine lv_iload_n hx hb dX2_asleepWith_1 rfl (lv_at hl 1 rfl) ?_
  refine lv_ishl hx hb dX2_asleepWith_2 ?_
  refine tk_any (fun v1 => ?_)
  refine lv_istore_n (lv' := [(2, .int v1), (0, .ref a0), (1, .int p1)]) hx hb dX2_asleepWith_3 rfl hl (by decide) rfl (fun ls hl => ?_)
  refine lv_iconst (v := 0) hx hb dX2_asleepWith_4 (by decide) ?_
  refine lv_istore_n (lv' := [(3, .int 0), (2, .int v1), (0, .ref a0), (1, .int p1)]) hx hb dX2_asleepWith_5 rfl hl (by decide) rfl (fun ls hl => ?_)
  have hl143 : ∀ (N_l143 : Nat) (v22 : Int32) (v23 : Int32), v22.toInt ≤ 8 → 0 ≤ v22.toInt → (-1) * v22.toInt + 8 < (N_l143 : Int) → ∀ ls : Array Slot, lv_has ls 4 [(3, .int v22), (2, .int v23), (0, .ref a0)] → W p l e ({ frames := 3, cells := 0, slots := 0, locals := 140 }) s m args below meth c H locs 0 0 (MQ below (ti D cy ld t [] (fun r H => True) (tk_w t [])) args s 0 0 (tk_w t [])) (F0 m 6 ls []) := by
    intro N_l143
    induction N_l143 with
    | zero => intro v22 v23 hq0_l143 hq1_l143 hm_l143 ls hl; exfalso; omega
    | succ N_l143 ih_l143 =>
      intro v22 v23 hq0_l143 hq1_l143 hm_l143 ls hl
      refine lv_iload_n hx hb dX2_asleepWith_6 rfl (lv_at hl 0 rfl) ?_
      refine lv_aload_n hx hb dX2_asleepWith_7 rfl (lv_at hl 2 rfl) ?_
      refine tk_get (ci := 2) (C := RX2) (T := TX2) (N := 20) (sp := (0, 0, 8, 0)) hx hb htl inX2 hown hK hG ht_a0 (by decide) tk_no rfl 0 (by decide) (htl _ mw_257) (fun _ h9 => h9) rfl dX2_asleepWith_8 (fun v9 hf144 hV9 => ?_)
      obtain ⟨v145, rfl, (ha_v145 : 0 ≤ v145.toInt), (hb_v145 : v145.toInt ≤ 8)⟩ := hV9
      refine lv_icmp_ge (tgt := 34) hx hb dX2_asleepWith_11 (by decide) (fun c9 => ?_) (fun c9 => ?_)
      · have hc146 : v145.toInt ≤ v22.toInt := (fi_le rfl rfl).mp c9
        refine lv_iload_n hx hb dX2_asleepWith_34 rfl (lv_at hl 1 rfl) ?_
        exact tk_iret (v := v23) hx hb hr rfl hlocks trivial hG hS dX2_asleepWith_35
      · have hc146 : ¬ (v145.toInt ≤ v22.toInt) := fun h9 => c9 ((fi_le rfl rfl).mpr h9)
        refine lv_iload_n hx hb dX2_asleepWith_14 rfl (lv_at hl 1 rfl) ?_
        refine lv_aload_n hx hb dX2_asleepWith_15 rfl (lv_at hl 2 rfl) ?_
        refine tk_get (ci := 2) (C := RX2) (T := TX2) (N := 20) (sp := (9, 40, 10, 0)) hx hb htl inX2 hown hK hG ht_a0 (by decide) tk_no rfl 19 (by decide) (htl _ mw_77) (fun _ h9 => h9) rfl dX2_asleepWith_16 (fun v9 hf154 hV9 => ?_)
        obtain ⟨rfl, ht_ld40⟩ := hV9
        have ht_ld40 : t (ld 40) = (10, 0, 0) := ht_ld40
        refine fx_top (v := .ref (ld 40)) rfl ?_
        refine tk_get (ci := 9) (C := RX9) (T := TX9) (N := 11) (sp := (1, 20, 8, 0)) hx hb htl inX9 hown hK hG ht_ld40 (by decide) tk_no rfl 1 (by decide) (htl _ mw_259) (fun _ h9 => h9) rfl dX2_asleepWith_19 (fun v9 hf155 hV9 => ?_)
        obtain ⟨b156, rfl, ht_b156⟩ := hV9
        have ht_b156 : t b156 = (20, 8, 0) := ht_b156
        refine lv_iload_n hx hb dX2_asleepWith_22 rfl (lv_at hl 0 rfl) ?_
        refine tk_iald hx hb hK hG ht_b156 (by decide) (fun _ h => h) tk_no rfl (by omega) (by omega) dX2_asleepWith_23 (fun v157 _ _ => ?_)
        have hr_v157 := tk_rng v157
        refine lv_iload_n hx hb dX2_asleepWith_24 rfl (lv_at hl 0 rfl) ?_
        refine lv_ishl hx hb dX2_asleepWith_25 ?_
        refine tk_any (fun v158 => ?_)
        refine lv_ior hx hb dX2_asleepWith_26 ?_
        refine tk_any (fun v159 => ?_)
        refine lv_istore_n (lv' := [(2, .int v159), (3, .int v22), (0, .ref a0)]) hx hb dX2_asleepWith_27 rfl hl (by decide) rfl (fun ls hl => ?_)
        obtain ⟨v160, h_v160, e_v160⟩ := tk_inc v22 1 (by decide) (by omega) (by omega)
        refine lv_iinc (v := v160) (lv' := [(3, .int v160), (2, .int v159), (0, .ref a0)]) hx hb dX2_asleepWith_28 hl (k := 1) rfl e_v160 (by decide) rfl (fun ls hl => ?_)
        refine lv_goto (tgt := 6) hx hb dX2_asleepWith_31 (by decide) ?_
        exact ih_l143 v160 v159 (by omega) (by omega) (by omega) _ (lv_sub hl [0, 1, 2] rfl)
  have hk_0 : (0 : Int32).toInt = 0 := by decide
  exact hl143 9 0 v1 (by omega) (by omega) (by omega) _ (lv_sub hl [0, 1, 2] rfl)
theorem dX2_oneRoundMore_0 : decode cX2_oneRoundMore 0 = .ok (.iload_n 1, 1) := by decide +kernel
theorem dX2_oneRoundMore_1 : decode cX2_oneRoundMore 1 = .ok (.iload_n 2, 1) := by decide +kernel
theorem dX2_oneRoundMore_2 : decode cX2_oneRoundMore 2 = .ok (.iconst (-1), 1) := by decide +kernel
theorem dX2_oneRoundMore_3 : decode cX2_oneRoundMore 3 = .ok (.ixor, 1) := by decide +kernel
theorem dX2_oneRoundMore_4 : decode cX2_oneRoundMore 4 = .ok (.iand, 1) := by decide +kernel
theorem dX2_oneRoundMore_5 : decode cX2_oneRoundMore 5 = .ok (.istore_n 3, 1) := by decide +kernel
theorem dX2_oneRoundMore_6 : decode cX2_oneRoundMore 6 = .ok (.iload_n 1, 1) := by decide +kernel
theorem dX2_oneRoundMore_7 : decode cX2_oneRoundMore 7 = .ok (.istore 4, 2) := by decide +kernel
theorem dX2_oneRoundMore_9 : decode cX2_oneRoundMore 9 = .ok (.iconst 0, 1) := by decide +kernel
theorem dX2_oneRoundMore_10 : decode cX2_oneRoundMore 10 = .ok (.istore 5, 2) := by decide +kernel
theorem dX2_oneRoundMore_12 : decode cX2_oneRoundMore 12 = .ok (.iload 5, 2) := by decide +kernel
theorem dX2_oneRoundMore_14 : decode cX2_oneRoundMore 14 = .ok (.aload_n 0, 1) := by decide +kernel
theorem dX2_oneRoundMore_15 : decode cX2_oneRoundMore 15 = .ok (.getfield 62, 3) := by decide +kernel
theorem dX2_oneRoundMore_18 : decode cX2_oneRoundMore 18 = .ok (.if_icmp .ge 69, 3) := by decide +kernel
theorem dX2_oneRoundMore_87 : decode cX2_oneRoundMore 87 = .ok (.iload 4, 2) := by decide +kernel
theorem dX2_oneRoundMore_89 : decode cX2_oneRoundMore 89 = .ok (.ireturn, 1) := by decide +kernel
theorem dX2_oneRoundMore_21 : decode cX2_oneRoundMore 21 = .ok (.iload_n 2, 1) := by decide +kernel
theorem dX2_oneRoundMore_22 : decode cX2_oneRoundMore 22 = .ok (.iload 5, 2) := by decide +kernel
theorem dX2_oneRoundMore_24 : decode cX2_oneRoundMore 24 = .ok (.ishr, 1) := by decide +kernel
theorem dX2_oneRoundMore_25 : decode cX2_oneRoundMore 25 = .ok (.iconst 1, 1) := by decide +kernel
theorem dX2_oneRoundMore_26 : decode cX2_oneRoundMore 26 = .ok (.iand, 1) := by decide +kernel
theorem dX2_oneRoundMore_27 : decode cX2_oneRoundMore 27 = .ok (.iconst 1, 1) := by decide +kernel
theorem dX2_oneRoundMore_36 : decode cX2_oneRoundMore 36 = .ok (.istore 6, 2) := by decide +kernel
theorem dX2_oneRoundMore_38 : decode cX2_oneRoundMore 38 = .ok (.iload 6, 2) := by decide +kernel
theorem dX2_oneRoundMore_81 : decode cX2_oneRoundMore 81 = .ok (.iinc 5 1, 3) := by decide +kernel
theorem dX2_oneRoundMore_84 : decode cX2_oneRoundMore 84 = .ok (.goto (-72), 3) := by decide +kernel
theorem dX2_oneRoundMore_40 : decode cX2_oneRoundMore 40 = .ok (.ifCond .ne 41, 3) := by decide +kernel
theorem dX2_oneRoundMore_43 : decode cX2_oneRoundMore 43 = .ok (.aload_n 0, 1) := by decide +kernel
theorem dX2_oneRoundMore_44 : decode cX2_oneRoundMore 44 = .ok (.getfield 58, 3) := by decide +kernel
theorem dX2_oneRoundMore_47 : decode cX2_oneRoundMore 47 = .ok (.getfield 98, 3) := by decide +kernel
theorem dX2_oneRoundMore_50 : decode cX2_oneRoundMore 50 = .ok (.iload 5, 2) := by decide +kernel
theorem dX2_oneRoundMore_52 : decode cX2_oneRoundMore 52 = .ok (.iaload, 1) := by decide +kernel
theorem dX2_oneRoundMore_53 : decode cX2_oneRoundMore 53 = .ok (.aload_n 0, 1) := by decide +kernel
theorem dX2_oneRoundMore_54 : decode cX2_oneRoundMore 54 = .ok (.getfield 52, 3) := by decide +kernel
theorem dX2_oneRoundMore_57 : decode cX2_oneRoundMore 57 = .ok (.if_icmp .gt 24, 3) := by decide +kernel
theorem dX2_oneRoundMore_60 : decode cX2_oneRoundMore 60 = .ok (.aload_n 0, 1) := by decide +kernel
theorem dX2_oneRoundMore_61 : decode cX2_oneRoundMore 61 = .ok (.getfield 18, 3) := by decide +kernel
theorem dX2_oneRoundMore_64 : decode cX2_oneRoundMore 64 = .ok (.iload 5, 2) := by decide +kernel
theorem dX2_oneRoundMore_66 : decode cX2_oneRoundMore 66 = .ok (.iaload, 1) := by decide +kernel
theorem dX2_oneRoundMore_67 : decode cX2_oneRoundMore 67 = .ok (.iload_n 3, 1) := by decide +kernel
theorem dX2_oneRoundMore_68 : decode cX2_oneRoundMore 68 = .ok (.iand, 1) := by decide +kernel
theorem dX2_oneRoundMore_69 : decode cX2_oneRoundMore 69 = .ok (.ifCond .eq 12, 3) := by decide +kernel
theorem dX2_oneRoundMore_72 : decode cX2_oneRoundMore 72 = .ok (.iload 4, 2) := by decide +kernel
theorem dX2_oneRoundMore_74 : decode cX2_oneRoundMore 74 = .ok (.iconst 1, 1) := by decide +kernel
theorem dX2_oneRoundMore_75 : decode cX2_oneRoundMore 75 = .ok (.iload 5, 2) := by decide +kernel
theorem dX2_oneRoundMore_77 : decode cX2_oneRoundMore 77 = .ok (.ishl, 1) := by decide +kernel
theorem dX2_oneRoundMore_78 : decode cX2_oneRoundMore 78 = .ok (.ior, 1) := by decide +kernel
theorem dX2_oneRoundMore_79 : decode cX2_oneRoundMore 79 = .ok (.istore 4, 2) := by decide +kernel
theorem dX2_oneRoundMore_28 : decode cX2_oneRoundMore 28 = .ok (.if_icmp .ne 7, 3) := by decide +kernel
theorem dX2_oneRoundMore_35 : decode cX2_oneRoundMore 35 = .ok (.iconst 0, 1) := by decide +kernel
theorem dX2_oneRoundMore_31 : decode cX2_oneRoundMore 31 = .ok (.iconst 1, 1) := by decide +kernel
theorem dX2_oneRoundMore_32 : decode cX2_oneRoundMore 32 = .ok (.goto 4, 3) := by decide +kernel
set_option maxHeartbeats 4000000 in
set_option maxRecDepth 100000 in
theorem k_X2_oneRoundMore (l : Launch) (D : va_G) (cy : Nat → ClassId) (ld : Nat → Nat) (t : tk_T) (a0 : Nat) (p1 : Int32) (p2 : Int32) (ht_a0 : t a0 = (3, 0, 0)) : Met l yX2_oneRoundMore (wl yX2_oneRoundMore cX2_oneRoundMore 7 (some .int)) ({ frames := 3, cells := 0, slots := 0, locals := 140 }) (tp D cy ld t [] [.ref a0, .int p1, .int p2] (fun H => True)) (ti D cy ld t [] (fun r H => True) (tk_w t [])) 0 0 (tk_w t []) := by
  refine tk_met (y := yX2_oneRoundMore) (cc := cX2_oneRoundMore) (maxL := 7) (ret := (some .int)) (av := [.ref a0, .int p1, .int p2]) _ _ (by decide) (Nat.le_of_ble_eq_true rfl) ?_
  intro p e s m args below meth c hx hb hr hml hts htl hown hlocks hK H locs hH hG hS hB hZ ls hl
  have hown : s.vm.findClass RX2 = some m.cls := hown
  have hl : lv_has ls 7 [(0, .ref a0), (1, .int p1), (2, .int p2)] := hl
  have hr_p1 := tk_rng p1
  have hr_p2 := tk_rng p2
  refine lv_iload_n hx hb dX2_oneRoundMore_0 rfl (lv_at hl 1 rfl) ?_
  refine lv_iload_n hx hb dX2_oneRoundMore_1 rfl (lv_at hl 2 rfl) ?_
  refine lv_iconst (v := (-1)) hx hb dX2_oneRoundMore_2 (by decide) ?_
  refine lv_ixor hx hb dX2_oneRoundMore_3 ?_
  refine tk_any (fun v1 => ?_)
  refine lv_iand hx hb dX2_oneRoundMore_4 ?_
  refine tk_any (fun v2 => ?_)
  refine lv_istore_n (lv' := [(3, .int v2), (0, .ref a0), (1, .int p1), (2, .int p2)]) hx hb dX2_oneRoundMore_5 rfl hl (by decide) rfl (fun ls hl => ?_)
  refine lv_iload_n hx hb dX2_oneRoundMore_6 rfl (lv_at hl 2 rfl) ?_
  refine lv_istore (lv' := [(4, .int p1), (3, .int v2), (0, .ref a0), (1, .int p1), (2, .int p2)]) hx hb dX2_oneRoundMore_7 hl (by decide) rfl (fun ls hl => ?_)
  refine lv_iconst (v := 0) hx hb dX2_oneRoundMore_9 (by decide) ?_
  refine lv_istore (lv' := [(5, .int 0), (4, .int p1), (3, .int v2), (0, .ref a0), (1, .int p1), (2, .int p2)]) hx hb dX2_oneRoundMore_10 hl (by decide) rfl (fun ls hl => ?_)
  have hl624 : ∀ (N_l624 : Nat) (v83 : Int32) (v84 : Int32), v83.toInt ≤ 8 → 0 ≤ v83.toInt → (-1) * v83.toInt + 8 < (N_l624 : Int) → ∀ ls : Array Slot, lv_has ls 7 [(5, .int v83), (4, .int v84), (3, .int v2), (0, .ref a0), (2, .int p2)] → W p l e ({ frames := 3, cells := 0, slots := 0, locals := 140 }) s m args below meth c H locs 0 0 (MQ below (ti D cy ld t [] (fun r H => True) (tk_w t [])) args s 0 0 (tk_w t [])) (F0 m 12 ls []) := by
    intro N_l624
    induction N_l624 with
    | zero => intro v83 v84 hq0_l624 hq1_l624 hm_l624 ls hl; exfalso; omega
    | succ N_l624 ih_l624 =>
      intro v83 v84 hq0_l624 hq1_l624 hm_l624 ls hl
      refine lv_iload hx hb dX2_oneRoundMore_12 (lv_at hl 0 rfl) ?_
      refine lv_aload_n hx hb dX2_oneRoundMore_14 rfl (lv_at hl 3 rfl) ?_
      refine tk_get (ci := 2) (C := RX2) (T := TX2) (N := 20) (sp := (0, 0, 8, 0)) hx hb htl inX2 hown hK hG ht_a0 (by decide) tk_no rfl 0 (by decide) (htl _ mw_257) (fun _ h9 => h9) rfl dX2_oneRoundMore_15 (fun v9 hf625 hV9 => ?_)
      obtain ⟨v626, rfl, (ha_v626 : 0 ≤ v626.toInt), (hb_v626 : v626.toInt ≤ 8)⟩ := hV9
      refine lv_icmp_ge (tgt := 87) hx hb dX2_oneRoundMore_18 (by decide) (fun c9 => ?_) (fun c9 => ?_)
      · have hc627 : v626.toInt ≤ v83.toInt := (fi_le rfl rfl).mp c9
        refine lv_iload hx hb dX2_oneRoundMore_87 (lv_at hl 1 rfl) ?_
        exact tk_iret (v := v84) hx hb hr rfl hlocks trivial hG hS dX2_oneRoundMore_89
      · have hc627 : ¬ (v626.toInt ≤ v83.toInt) := fun h9 => c9 ((fi_le rfl rfl).mpr h9)
        refine lv_iload_n hx hb dX2_oneRoundMore_21 rfl (lv_at hl 4 rfl) ?_
        refine lv_iload hx hb dX2_oneRoundMore_22 (lv_at hl 0 rfl) ?_
        refine lv_ishr hx hb dX2_oneRoundMore_24 ?_
        refine tk_any (fun v665 => ?_)
        refine lv_iconst (v := 1) hx hb dX2_oneRoundMore_25 (by decide) ?_
        refine lv_iand hx hb dX2_oneRoundMore_26 ?_
        refine tk_say (P := fun z => 0 ≤ z.toInt ∧ z.toInt ≤ 1) (tk_and v665 1 (by decide) (by decide)) (fun v666 h_v666 => ?_)
        refine lv_iconst (v := 1) hx hb dX2_oneRoundMore_27 (by decide) ?_
        have hj670 : ∀ (v669 : Int32), 0 ≤ v669.toInt → v669.toInt ≤ 1 → ∀ ls : Array Slot, lv_has ls 7 [(5, .int v83), (4, .int v84), (3, .int v2), (0, .ref a0), (2, .int p2)] → W p l e ({ frames := 3, cells := 0, slots := 0, locals := 140 }) s m args below meth c H locs 0 0 (MQ below (ti D cy ld t [] (fun r H => True) (tk_w t [])) args s 0 0 (tk_w t [])) (F0 m 36 ls [.int v669]) := by
          intro v669 hq0_j670 hq1_j670 ls hl
          refine lv_istore (lv' := [(6, .int v669), (5, .int v83), (4, .int v84), (3, .int v2), (0, .ref a0), (2, .int p2)]) hx hb dX2_oneRoundMore_36 hl (by decide) rfl (fun ls hl => ?_)
          refine lv_iload hx hb dX2_oneRoundMore_38 (lv_at hl 0 rfl) ?_
          have hj687 : ∀ (v686 : Int32), ∀ ls : Array Slot, lv_has ls 7 [(5, .int v83), (4, .int v686), (3, .int v2), (0, .ref a0), (2, .int p2)] → W p l e ({ frames := 3, cells := 0, slots := 0, locals := 140 }) s m args below meth c H locs 0 0 (MQ below (ti D cy ld t [] (fun r H => True) (tk_w t [])) args s 0 0 (tk_w t [])) (F0 m 81 ls []) := by
            intro v686  ls hl
            obtain ⟨v688, h_v688, e_v688⟩ := tk_inc v83 1 (by decide) (by omega) (by omega)
            refine lv_iinc (v := v688) (lv' := [(5, .int v688), (4, .int v686), (3, .int v2), (0, .ref a0), (2, .int p2)]) hx hb dX2_oneRoundMore_81 hl (k := 0) rfl e_v688 (by decide) rfl (fun ls hl => ?_)
            refine lv_goto (tgt := 12) hx hb dX2_oneRoundMore_84 (by decide) ?_
            exact ih_l624 v688 v686 (by omega) (by omega) (by omega) _ (lv_sub hl [0, 1, 2, 3, 4] rfl)
          refine lv_if_ne (tgt := 81) hx hb dX2_oneRoundMore_40 (by decide) (fun c9 => ?_) (fun c9 => ?_)
          · have hc671 : ¬ (v669.toInt = 0) := fun h9 => c9 ((fi_eq rfl (show (0 : Int32).toInt = 0 by decide)).mpr h9)
            exact hj687 v84 _ (lv_sub hl [1, 2, 3, 4, 5] rfl)
          · have hc671 : v669.toInt = 0 := (fi_eq rfl (show (0 : Int32).toInt = 0 by decide)).mp c9
            refine lv_aload_n hx hb dX2_oneRoundMore_43 rfl (lv_at hl 4 rfl) ?_
            refine tk_get (ci := 2) (C := RX2) (T := TX2) (N := 20) (sp := (9, 40, 10, 0)) hx hb htl inX2 hown hK hG ht_a0 (by decide) tk_no rfl 19 (by decide) (htl _ mw_77) (fun _ h9 => h9) rfl dX2_oneRoundMore_44 (fun v9 hf689 hV9 => ?_)
            obtain ⟨rfl, ht_ld40⟩ := hV9
            have ht_ld40 : t (ld 40) = (10, 0, 0) := ht_ld40
            refine fx_top (v := .ref (ld 40)) rfl ?_
            refine tk_get (ci := 9) (C := RX9) (T := TX9) (N := 11) (sp := (1, 20, 8, 0)) hx hb htl inX9 hown hK hG ht_ld40 (by decide) tk_no rfl 0 (by decide) (htl _ mw_258) (fun _ h9 => h9) rfl dX2_oneRoundMore_47 (fun v9 hf690 hV9 => ?_)
            obtain ⟨b691, rfl, ht_b691⟩ := hV9
            have ht_b691 : t b691 = (20, 8, 0) := ht_b691
            refine lv_iload hx hb dX2_oneRoundMore_50 (lv_at hl 1 rfl) ?_
            refine tk_iald hx hb hK hG ht_b691 (by decide) (fun _ h => h) tk_no rfl (by omega) (by omega) dX2_oneRoundMore_52 (fun v692 _ _ => ?_)
            have hr_v692 := tk_rng v692
            refine lv_aload_n hx hb dX2_oneRoundMore_53 rfl (lv_at hl 4 rfl) ?_
            refine tk_get (ci := 2) (C := RX2) (T := TX2) (N := 20) (sp := (0, (-2147483648), 2147483647, 0)) hx hb htl inX2 hown hK hG ht_a0 (by decide) tk_no rfl 17 (by decide) (htl _ mw_73) (fun _ h9 => h9) rfl dX2_oneRoundMore_54 (fun v9 hf693 hV9 => ?_)
            obtain ⟨v694, rfl, (ha_v694 : (-2147483648) ≤ v694.toInt), (hb_v694 : v694.toInt ≤ 2147483647)⟩ := hV9
            refine lv_icmp_gt (tgt := 81) hx hb dX2_oneRoundMore_57 (by decide) (fun c9 => ?_) (fun c9 => ?_)
            · have hc695 : v694.toInt < v692.toInt := (fi_lt rfl rfl).mp c9
              exact hj687 v84 _ (lv_sub hl [1, 2, 3, 4, 5] rfl)
            · have hc695 : ¬ (v694.toInt < v692.toInt) := fun h9 => c9 ((fi_lt rfl rfl).mpr h9)
              refine lv_aload_n hx hb dX2_oneRoundMore_60 rfl (lv_at hl 4 rfl) ?_
              refine tk_get (ci := 2) (C := RX2) (T := TX2) (N := 20) (sp := (11, 70, 32, 8)) hx hb htl inX2 hown hK hG ht_a0 (by decide) tk_no rfl 3 (by decide) (htl _ mw_62) (fun _ h9 => h9) rfl dX2_oneRoundMore_61 (fun v9 hf696 hV9 => ?_)
              obtain ⟨rfl, ht_ld70⟩ := hV9
              have ht_ld70 : t (ld 70) = (32, 8, 0) := ht_ld70
              refine fx_top (v := .ref (ld 70)) rfl ?_
              refine lv_iload hx hb dX2_oneRoundMore_64 (lv_at hl 1 rfl) ?_
              refine tk_iald hx hb hK hG ht_ld70 (by decide) (fun _ h => h) tk_no rfl (by omega) (by omega) dX2_oneRoundMore_66 (fun v697 _ _ => ?_)
              have hr_v697 := tk_rng v697
              refine lv_iload_n hx hb dX2_oneRoundMore_67 rfl (lv_at hl 3 rfl) ?_
              refine lv_iand hx hb dX2_oneRoundMore_68 ?_
              refine tk_any (fun v698 => ?_)
              refine lv_if_eq (tgt := 81) hx hb dX2_oneRoundMore_69 (by decide) (fun c9 => ?_) (fun c9 => ?_)
              · have hc699 : v698.toInt = 0 := (fi_eq rfl (show (0 : Int32).toInt = 0 by decide)).mp c9
                exact hj687 v84 _ (lv_sub hl [1, 2, 3, 4, 5] rfl)
              · have hc699 : ¬ (v698.toInt = 0) := fun h9 => c9 ((fi_eq rfl (show (0 : Int32).toInt = 0 by decide)).mpr h9)
                refine lv_iload hx hb dX2_oneRoundMore_72 (lv_at hl 2 rfl) ?_
                refine lv_iconst (v := 1) hx hb dX2_oneRoundMore_74 (by decide) ?_
                refine lv_iload hx hb dX2_oneRoundMore_75 (lv_at hl 1 rfl) ?_
                refine lv_ishl hx hb dX2_oneRoundMore_77 ?_
                refine tk_say (P := fun z => 1 ≤ z.toInt ∧ z.toInt ≤ 1024) (tk_shl1 v83 (by omega) (by omega)) (fun v700 h_v700 => ?_)
                refine lv_ior hx hb dX2_oneRoundMore_78 ?_
                refine tk_any (fun v701 => ?_)
                refine lv_istore (lv' := [(4, .int v701), (6, .int v669), (5, .int v83), (3, .int v2), (0, .ref a0), (2, .int p2)]) hx hb dX2_oneRoundMore_79 hl (by decide) rfl (fun ls hl => ?_)
                exact hj687 v701 _ (lv_sub hl [2, 0, 3, 4, 5] rfl)
        refine lv_icmp_ne (tgt := 35) hx hb dX2_oneRoundMore_28 (by decide) (fun c9 => ?_) (fun c9 => ?_)
        · have hc667 : ¬ (v666.toInt = 1) := fun h9 => c9 ((fi_eq rfl (show (1 : Int32).toInt = 1 by decide)).mpr h9)
          refine lv_iconst (v := 0) hx hb dX2_oneRoundMore_35 (by decide) ?_
          have hk_0 : (0 : Int32).toInt = 0 := by decide
          exact hj670 0 (by omega) (by omega) _ (lv_sub hl [0, 1, 2, 3, 4] rfl)
        · have hc667 : v666.toInt = 1 := (fi_eq rfl (show (1 : Int32).toInt = 1 by decide)).mp c9
          refine lv_iconst (v := 1) hx hb dX2_oneRoundMore_31 (by decide) ?_
          refine lv_goto (tgt := 36) hx hb dX2_oneRoundMore_32 (by decide) ?_
          have hk_1 : (1 : Int32).toInt = 1 := by decide
          exact hj670 1 (by omega) (by omega) _ (lv_sub hl [0, 1, 2, 3, 4] rfl)
  have hk_0 : (0 : Int32).toInt = 0 := by decide
  exact hl624 9 0 p1 (by omega) (by omega) (by omega) _ (lv_sub hl [0, 1, 2, 3, 5] rfl)
theorem dX2_asleepBehind_0 : decode cX2_asleepBehind 0 = .ok (.aload_n 0, 1) := by decide +kernel
theorem dX2_asleepBehind_1 : decode cX2_asleepBehind 1 = .ok (.iload_n 1, 1) := by decide +kernel
theorem dX2_asleepBehind_2 : decode cX2_asleepBehind 2 = .ok (.invokevirtual 110, 3) := by decide +kernel
theorem dX2_asleepBehind_5 : decode cX2_asleepBehind 5 = .ok (.istore_n 3, 1) := by decide +kernel
theorem dX2_asleepBehind_6 : decode cX2_asleepBehind 6 = .ok (.iconst 0, 1) := by decide +kernel
theorem dX2_asleepBehind_7 : decode cX2_asleepBehind 7 = .ok (.istore 4, 2) := by decide +kernel
theorem dX2_asleepBehind_9 : decode cX2_asleepBehind 9 = .ok (.iload 4, 2) := by decide +kernel
theorem dX2_asleepBehind_11 : decode cX2_asleepBehind 11 = .ok (.bipush 8, 2) := by decide +kernel
theorem dX2_asleepBehind_42 : decode cX2_asleepBehind 42 = .ok (.iload_n 3, 1) := by decide +kernel
theorem dX2_asleepBehind_43 : decode cX2_asleepBehind 43 = .ok (.ireturn, 1) := by decide +kernel
theorem dX2_asleepBehind_13 : decode cX2_asleepBehind 13 = .ok (.if_icmp .ge 29, 3) := by decide +kernel
theorem dX2_asleepBehind_16 : decode cX2_asleepBehind 16 = .ok (.aload_n 0, 1) := by decide +kernel
theorem dX2_asleepBehind_17 : decode cX2_asleepBehind 17 = .ok (.iload_n 3, 1) := by decide +kernel
theorem dX2_asleepBehind_18 : decode cX2_asleepBehind 18 = .ok (.iload_n 2, 1) := by decide +kernel
theorem dX2_asleepBehind_19 : decode cX2_asleepBehind 19 = .ok (.invokevirtual 114, 3) := by decide +kernel
theorem dX2_asleepBehind_22 : decode cX2_asleepBehind 22 = .ok (.istore 5, 2) := by decide +kernel
theorem dX2_asleepBehind_24 : decode cX2_asleepBehind 24 = .ok (.iload 5, 2) := by decide +kernel
theorem dX2_asleepBehind_26 : decode cX2_asleepBehind 26 = .ok (.iload_n 3, 1) := by decide +kernel
theorem dX2_asleepBehind_27 : decode cX2_asleepBehind 27 = .ok (.if_icmp .ne 6, 3) := by decide +kernel
theorem dX2_asleepBehind_33 : decode cX2_asleepBehind 33 = .ok (.iload 5, 2) := by decide +kernel
theorem dX2_asleepBehind_35 : decode cX2_asleepBehind 35 = .ok (.istore_n 3, 1) := by decide +kernel
theorem dX2_asleepBehind_36 : decode cX2_asleepBehind 36 = .ok (.iinc 4 1, 3) := by decide +kernel
theorem dX2_asleepBehind_39 : decode cX2_asleepBehind 39 = .ok (.goto (-30), 3) := by decide +kernel
theorem dX2_asleepBehind_30 : decode cX2_asleepBehind 30 = .ok (.goto 12, 3) := by decide +kernel
set_option maxHeartbeats 4000000 in
set_option maxRecDepth 100000 in
theorem k_X2_asleepBehind (l : Launch) (D : va_G) (cy : Nat → ClassId) (ld : Nat → Nat) (t : tk_T) (a0 : Nat) (p1 : Int32) (p2 : Int32) (ht_a0 : t a0 = (3, 0, 0)) : Met l yX2_asleepBehind (wl yX2_asleepBehind cX2_asleepBehind 6 (some .int)) ({ frames := 4, cells := 0, slots := 0, locals := 210 }) (tp D cy ld t [] [.ref a0, .int p1, .int p2] (fun H => True)) (ti D cy ld t [] (fun r H => True) (tk_w t [])) 0 0 (tk_w t []) := by
  refine tk_met (y := yX2_asleepBehind) (cc := cX2_asleepBehind) (maxL := 6) (ret := (some .int)) (av := [.ref a0, .int p1, .int p2]) _ _ (by decide) (Nat.le_of_ble_eq_true rfl) ?_
  intro p e s m args below meth c hx hb hr hml hts htl hown hlocks hK H locs hH hG hS hB hZ ls hl
  have hown : s.vm.findClass RX2 = some m.cls := hown
  have hl : lv_has ls 6 [(0, .ref a0), (1, .int p1), (2, .int p2)] := hl
  have hr_p1 := tk_rng p1
  have hr_p2 := tk_rng p2
  refine lv_aload_n hx hb dX2_asleepBehind_0 rfl (lv_at hl 0 rfl) ?_
  refine lv_iload_n hx hb dX2_asleepBehind_1 rfl (lv_at hl 1 rfl) ?_
  refine tk_Vi (As := [.int p1]) (rest := []) (ci := 2) ⟨hx, hb, hml, hown, hts⟩ hK hG hZ hS (k_X2_asleepWith l D cy ld t a0 p1 ht_a0) trivial ⟨callB_of 1 hts (wl_in mw_1582) rfl rfl rfl (htl _ mw_14) (htl _ mw_1579) hd_yX2_asleepWith ⟨(Nat.le_of_ble_eq_true rfl), (Nat.le_of_ble_eq_true rfl)⟩, htl _ mw_1580, htl _ mw_1581⟩ ht_a0 (by decide) tk_no rfl (tk_w.pick [] rfl) rfl hl.1 rfl (Nat.le_of_ble_eq_true rfl) dX2_asleepBehind_2 ⟨(Nat.le_of_ble_eq_true rfl), (Nat.le_of_ble_eq_true rfl)⟩ (fun v1 H locs hpo hG hS hq9 => ?_)
  refine lv_istore_n (lv' := [(3, .int v1), (0, .ref a0), (1, .int p1), (2, .int p2)]) hx hb dX2_asleepBehind_5 rfl hl (by decide) rfl (fun ls hl => ?_)
  refine lv_iconst (v := 0) hx hb dX2_asleepBehind_6 (by decide) ?_
  refine lv_istore (lv' := [(4, .int 0), (3, .int v1), (0, .ref a0), (1, .int p1), (2, .int p2)]) hx hb dX2_asleepBehind_7 hl (by decide) rfl (fun ls hl => ?_)
  have hl83 : ∀ (N_l83 : Nat) (v3 : Int32) (v4 : Int32) (H : Heap) (locs : List Loc), v3.toInt ≤ 8 → 0 ≤ v3.toInt → (-1) * v3.toInt + 8 < (N_l83 : Int) → tk_G D cy ld t [] H → va_S (tk_w t []) s.heap H locs → ∀ ls : Array Slot, lv_has ls 6 [(4, .int v3), (3, .int v4), (0, .ref a0), (2, .int p2)] → W p l e ({ frames := 4, cells := 0, slots := 0, locals := 210 }) s m args below meth c H locs 0 0 (MQ below (ti D cy ld t [] (fun r H => True) (tk_w t [])) args s 0 0 (tk_w t [])) (F0 m 9 ls []) := by
    intro N_l83
    induction N_l83 with
    | zero => intro v3 v4 H locs hq0_l83 hq1_l83 hm_l83 hG hS ls hl; exfalso; omega
    | succ N_l83 ih_l83 =>
      intro v3 v4 H locs hq0_l83 hq1_l83 hm_l83 hG hS ls hl
      refine lv_iload hx hb dX2_asleepBehind_9 (lv_at hl 0 rfl) ?_
      refine lv_bipush (v := 8) hx hb dX2_asleepBehind_11 (by decide) ?_
      have hj91 : ∀ (H : Heap) (locs : List Loc), tk_G D cy ld t [] H → va_S (tk_w t []) s.heap H locs → ∀ ls : Array Slot, lv_has ls 6 [(3, .int v4)] → W p l e ({ frames := 4, cells := 0, slots := 0, locals := 210 }) s m args below meth c H locs 0 0 (MQ below (ti D cy ld t [] (fun r H => True) (tk_w t [])) args s 0 0 (tk_w t [])) (F0 m 42 ls []) := by
        intro H locs hG hS ls hl
        refine lv_iload_n hx hb dX2_asleepBehind_42 rfl (lv_at hl 0 rfl) ?_
        exact tk_iret (v := v4) hx hb hr rfl hlocks trivial hG hS dX2_asleepBehind_43
      refine lv_icmp_ge (tgt := 42) hx hb dX2_asleepBehind_13 (by decide) (fun c9 => ?_) (fun c9 => ?_)
      · have hc84 : 8 ≤ v3.toInt := (fi_le (show (8 : Int32).toInt = 8 by decide) rfl).mp c9
        exact hj91 _ _ hG hS _ (lv_sub hl [1] rfl)
      · have hc84 : ¬ (8 ≤ v3.toInt) := fun h9 => c9 ((fi_le (show (8 : Int32).toInt = 8 by decide) rfl).mpr h9)
        refine lv_aload_n hx hb dX2_asleepBehind_16 rfl (lv_at hl 2 rfl) ?_
        refine lv_iload_n hx hb dX2_asleepBehind_17 rfl (lv_at hl 1 rfl) ?_
        refine lv_iload_n hx hb dX2_asleepBehind_18 rfl (lv_at hl 3 rfl) ?_
        refine tk_Vi (As := [.int v4, .int p2]) (rest := []) (ci := 2) ⟨hx, hb, hml, hown, hts⟩ hK hG hZ hS (k_X2_oneRoundMore l D cy ld t a0 v4 p2 ht_a0) trivial ⟨callB_of 2 hts (wl_in mw_1586) rfl rfl rfl (htl _ mw_14) (htl _ mw_1583) hd_yX2_oneRoundMore ⟨(Nat.le_of_ble_eq_true rfl), (Nat.le_of_ble_eq_true rfl)⟩, htl _ mw_1584, htl _ mw_1585⟩ ht_a0 (by decide) tk_no rfl (tk_w.pick [] rfl) rfl hl.1 rfl (Nat.le_of_ble_eq_true rfl) dX2_asleepBehind_19 ⟨(Nat.le_of_ble_eq_true rfl), (Nat.le_of_ble_eq_true rfl)⟩ (fun v92 H locs hpo hG hS hq9 => ?_)
        refine lv_istore (lv' := [(5, .int v92), (4, .int v3), (3, .int v4), (0, .ref a0), (2, .int p2)]) hx hb dX2_asleepBehind_22 hl (by decide) rfl (fun ls hl => ?_)
        refine lv_iload hx hb dX2_asleepBehind_24 (lv_at hl 0 rfl) ?_
        refine lv_iload_n hx hb dX2_asleepBehind_26 rfl (lv_at hl 2 rfl) ?_
        refine lv_icmp_ne (tgt := 33) hx hb dX2_asleepBehind_27 (by decide) (fun c9 => ?_) (fun c9 => ?_)
        · have hc94 : ¬ (v92.toInt = v4.toInt) := fun h9 => c9 ((fi_eq rfl rfl).mpr h9)
          refine lv_iload hx hb dX2_asleepBehind_33 (lv_at hl 0 rfl) ?_
          refine lv_istore_n (lv' := [(3, .int v92), (5, .int v92), (4, .int v3), (0, .ref a0), (2, .int p2)]) hx hb dX2_asleepBehind_35 rfl hl (by decide) rfl (fun ls hl => ?_)
          obtain ⟨v95, h_v95, e_v95⟩ := tk_inc v3 1 (by decide) (by omega) (by omega)
          refine lv_iinc (v := v95) (lv' := [(4, .int v95), (3, .int v92), (5, .int v92), (0, .ref a0), (2, .int p2)]) hx hb dX2_asleepBehind_36 hl (k := 2) rfl e_v95 (by decide) rfl (fun ls hl => ?_)
          refine lv_goto (tgt := 9) hx hb dX2_asleepBehind_39 (by decide) ?_
          exact ih_l83 v95 v92 _ _ (by omega) (by omega) (by omega) hG hS _ (lv_sub hl [0, 1, 3, 4] rfl)
        · have hc94 : v92.toInt = v4.toInt := (fi_eq rfl rfl).mp c9
          refine lv_goto (tgt := 42) hx hb dX2_asleepBehind_30 (by decide) ?_
          exact hj91 _ _ hG hS _ (lv_sub hl [2] rfl)
  have hk_0 : (0 : Int32).toInt = 0 := by decide
  exact hl83 9 0 v1 _ _ (by omega) (by omega) (by omega) hG hS _ (lv_sub hl [0, 1, 2, 4] rfl)
theorem dX2_roundsBehind_0 : decode cX2_roundsBehind 0 = .ok (.aload_n 0, 1) := by decide +kernel
theorem dX2_roundsBehind_1 : decode cX2_roundsBehind 1 = .ok (.iload_n 1, 1) := by decide +kernel
theorem dX2_roundsBehind_2 : decode cX2_roundsBehind 2 = .ok (.invokevirtual 110, 3) := by decide +kernel
theorem dX2_roundsBehind_5 : decode cX2_roundsBehind 5 = .ok (.istore_n 2, 1) := by decide +kernel
theorem dX2_roundsBehind_6 : decode cX2_roundsBehind 6 = .ok (.iconst 0, 1) := by decide +kernel
theorem dX2_roundsBehind_7 : decode cX2_roundsBehind 7 = .ok (.istore_n 3, 1) := by decide +kernel
theorem dX2_roundsBehind_8 : decode cX2_roundsBehind 8 = .ok (.iload_n 3, 1) := by decide +kernel
theorem dX2_roundsBehind_9 : decode cX2_roundsBehind 9 = .ok (.bipush 8, 2) := by decide +kernel
theorem dX2_roundsBehind_40 : decode cX2_roundsBehind 40 = .ok (.iload_n 3, 1) := by decide +kernel
theorem dX2_roundsBehind_41 : decode cX2_roundsBehind 41 = .ok (.ireturn, 1) := by decide +kernel
theorem dX2_roundsBehind_11 : decode cX2_roundsBehind 11 = .ok (.if_icmp .ge 29, 3) := by decide +kernel
theorem dX2_roundsBehind_14 : decode cX2_roundsBehind 14 = .ok (.aload_n 0, 1) := by decide +kernel
theorem dX2_roundsBehind_15 : decode cX2_roundsBehind 15 = .ok (.iload_n 2, 1) := by decide +kernel
theorem dX2_roundsBehind_16 : decode cX2_roundsBehind 16 = .ok (.iconst 0, 1) := by decide +kernel
theorem dX2_roundsBehind_17 : decode cX2_roundsBehind 17 = .ok (.invokevirtual 114, 3) := by decide +kernel
theorem dX2_roundsBehind_20 : decode cX2_roundsBehind 20 = .ok (.istore 4, 2) := by decide +kernel
theorem dX2_roundsBehind_22 : decode cX2_roundsBehind 22 = .ok (.iload 4, 2) := by decide +kernel
theorem dX2_roundsBehind_24 : decode cX2_roundsBehind 24 = .ok (.iload_n 2, 1) := by decide +kernel
theorem dX2_roundsBehind_25 : decode cX2_roundsBehind 25 = .ok (.if_icmp .ne 6, 3) := by decide +kernel
theorem dX2_roundsBehind_31 : decode cX2_roundsBehind 31 = .ok (.iload 4, 2) := by decide +kernel
theorem dX2_roundsBehind_33 : decode cX2_roundsBehind 33 = .ok (.istore_n 2, 1) := by decide +kernel
theorem dX2_roundsBehind_34 : decode cX2_roundsBehind 34 = .ok (.iinc 3 1, 3) := by decide +kernel
theorem dX2_roundsBehind_37 : decode cX2_roundsBehind 37 = .ok (.goto (-29), 3) := by decide +kernel
theorem dX2_roundsBehind_28 : decode cX2_roundsBehind 28 = .ok (.goto 12, 3) := by decide +kernel
set_option maxHeartbeats 4000000 in
set_option maxRecDepth 100000 in
theorem k_X2_roundsBehind (l : Launch) (D : va_G) (cy : Nat → ClassId) (ld : Nat → Nat) (t : tk_T) (a0 : Nat) (p1 : Int32) (ht_a0 : t a0 = (3, 0, 0)) : Met l yX2_roundsBehind (wl yX2_roundsBehind cX2_roundsBehind 5 (some .int)) ({ frames := 4, cells := 0, slots := 0, locals := 210 }) (tp D cy ld t [] [.ref a0, .int p1] (fun H => True)) (ti D cy ld t [] (fun r H => 0 ≤ r.toInt ∧ r.toInt ≤ 8) (tk_w t [])) 0 0 (tk_w t []) := by
  refine tk_met (y := yX2_roundsBehind) (cc := cX2_roundsBehind) (maxL := 5) (ret := (some .int)) (av := [.ref a0, .int p1]) _ _ (by decide) (Nat.le_of_ble_eq_true rfl) ?_
  intro p e s m args below meth c hx hb hr hml hts htl hown hlocks hK H locs hH hG hS hB hZ ls hl
  have hown : s.vm.findClass RX2 = some m.cls := hown
  have hl : lv_has ls 5 [(0, .ref a0), (1, .int p1)] := hl
  have hr_p1 := tk_rng p1
  refine lv_aload_n hx hb dX2_roundsBehind_0 rfl (lv_at hl 0 rfl) ?_
  refine lv_iload_n hx hb dX2_roundsBehind_1 rfl (lv_at hl 1 rfl) ?_
  refine tk_Vi (As := [.int p1]) (rest := []) (ci := 2) ⟨hx, hb, hml, hown, hts⟩ hK hG hZ hS (k_X2_asleepWith l D cy ld t a0 p1 ht_a0) trivial ⟨callB_of 1 hts (wl_in mw_1582) rfl rfl rfl (htl _ mw_14) (htl _ mw_1579) hd_yX2_asleepWith ⟨(Nat.le_of_ble_eq_true rfl), (Nat.le_of_ble_eq_true rfl)⟩, htl _ mw_1580, htl _ mw_1581⟩ ht_a0 (by decide) tk_no rfl (tk_w.pick [] rfl) rfl hl.1 rfl (Nat.le_of_ble_eq_true rfl) dX2_roundsBehind_2 ⟨(Nat.le_of_ble_eq_true rfl), (Nat.le_of_ble_eq_true rfl)⟩ (fun v1 H locs hpo hG hS hq9 => ?_)
  refine lv_istore_n (lv' := [(2, .int v1), (0, .ref a0), (1, .int p1)]) hx hb dX2_roundsBehind_5 rfl hl (by decide) rfl (fun ls hl => ?_)
  refine lv_iconst (v := 0) hx hb dX2_roundsBehind_6 (by decide) ?_
  refine lv_istore_n (lv' := [(3, .int 0), (2, .int v1), (0, .ref a0), (1, .int p1)]) hx hb dX2_roundsBehind_7 rfl hl (by decide) rfl (fun ls hl => ?_)
  have hl83 : ∀ (N_l83 : Nat) (v3 : Int32) (v4 : Int32) (H : Heap) (locs : List Loc), v3.toInt ≤ 8 → 0 ≤ v3.toInt → (-1) * v3.toInt + 8 < (N_l83 : Int) → tk_G D cy ld t [] H → va_S (tk_w t []) s.heap H locs → ∀ ls : Array Slot, lv_has ls 5 [(3, .int v3), (2, .int v4), (0, .ref a0)] → W p l e ({ frames := 4, cells := 0, slots := 0, locals := 210 }) s m args below meth c H locs 0 0 (MQ below (ti D cy ld t [] (fun r H => 0 ≤ r.toInt ∧ r.toInt ≤ 8) (tk_w t [])) args s 0 0 (tk_w t [])) (F0 m 8 ls []) := by
    intro N_l83
    induction N_l83 with
    | zero => intro v3 v4 H locs hq0_l83 hq1_l83 hm_l83 hG hS ls hl; exfalso; omega
    | succ N_l83 ih_l83 =>
      intro v3 v4 H locs hq0_l83 hq1_l83 hm_l83 hG hS ls hl
      refine lv_iload_n hx hb dX2_roundsBehind_8 rfl (lv_at hl 0 rfl) ?_
      refine lv_bipush (v := 8) hx hb dX2_roundsBehind_9 (by decide) ?_
      have hj91 : ∀ (H : Heap) (locs : List Loc), tk_G D cy ld t [] H → va_S (tk_w t []) s.heap H locs → ∀ ls : Array Slot, lv_has ls 5 [(3, .int v3)] → W p l e ({ frames := 4, cells := 0, slots := 0, locals := 210 }) s m args below meth c H locs 0 0 (MQ below (ti D cy ld t [] (fun r H => 0 ≤ r.toInt ∧ r.toInt ≤ 8) (tk_w t [])) args s 0 0 (tk_w t [])) (F0 m 40 ls []) := by
        intro H locs hG hS ls hl
        refine lv_iload_n hx hb dX2_roundsBehind_40 rfl (lv_at hl 0 rfl) ?_
        exact tk_iret (v := v3) hx hb hr rfl hlocks (show 0 ≤ v3.toInt ∧ v3.toInt ≤ 8 from ⟨(by omega), (by omega)⟩) hG hS dX2_roundsBehind_41
      refine lv_icmp_ge (tgt := 40) hx hb dX2_roundsBehind_11 (by decide) (fun c9 => ?_) (fun c9 => ?_)
      · have hc84 : 8 ≤ v3.toInt := (fi_le (show (8 : Int32).toInt = 8 by decide) rfl).mp c9
        exact hj91 _ _ hG hS _ (lv_sub hl [0] rfl)
      · have hc84 : ¬ (8 ≤ v3.toInt) := fun h9 => c9 ((fi_le (show (8 : Int32).toInt = 8 by decide) rfl).mpr h9)
        refine lv_aload_n hx hb dX2_roundsBehind_14 rfl (lv_at hl 2 rfl) ?_
        refine lv_iload_n hx hb dX2_roundsBehind_15 rfl (lv_at hl 1 rfl) ?_
        refine lv_iconst (v := 0) hx hb dX2_roundsBehind_16 (by decide) ?_
        have hk_0 : (0 : Int32).toInt = 0 := by decide
        refine tk_Vi (As := [.int v4, .int 0]) (rest := []) (ci := 2) ⟨hx, hb, hml, hown, hts⟩ hK hG hZ hS (k_X2_oneRoundMore l D cy ld t a0 v4 0 ht_a0) trivial ⟨callB_of 2 hts (wl_in mw_1586) rfl rfl rfl (htl _ mw_14) (htl _ mw_1583) hd_yX2_oneRoundMore ⟨(Nat.le_of_ble_eq_true rfl), (Nat.le_of_ble_eq_true rfl)⟩, htl _ mw_1584, htl _ mw_1585⟩ ht_a0 (by decide) tk_no rfl (tk_w.pick [] rfl) rfl hl.1 rfl (Nat.le_of_ble_eq_true rfl) dX2_roundsBehind_17 ⟨(Nat.le_of_ble_eq_true rfl), (Nat.le_of_ble_eq_true rfl)⟩ (fun v92 H locs hpo hG hS hq9 => ?_)
        refine lv_istore (lv' := [(4, .int v92), (3, .int v3), (2, .int v4), (0, .ref a0)]) hx hb dX2_roundsBehind_20 hl (by decide) rfl (fun ls hl => ?_)
        refine lv_iload hx hb dX2_roundsBehind_22 (lv_at hl 0 rfl) ?_
        refine lv_iload_n hx hb dX2_roundsBehind_24 rfl (lv_at hl 2 rfl) ?_
        refine lv_icmp_ne (tgt := 31) hx hb dX2_roundsBehind_25 (by decide) (fun c9 => ?_) (fun c9 => ?_)
        · have hc94 : ¬ (v92.toInt = v4.toInt) := fun h9 => c9 ((fi_eq rfl rfl).mpr h9)
          refine lv_iload hx hb dX2_roundsBehind_31 (lv_at hl 0 rfl) ?_
          refine lv_istore_n (lv' := [(2, .int v92), (4, .int v92), (3, .int v3), (0, .ref a0)]) hx hb dX2_roundsBehind_33 rfl hl (by decide) rfl (fun ls hl => ?_)
          obtain ⟨v95, h_v95, e_v95⟩ := tk_inc v3 1 (by decide) (by omega) (by omega)
          refine lv_iinc (v := v95) (lv' := [(3, .int v95), (2, .int v92), (4, .int v92), (0, .ref a0)]) hx hb dX2_roundsBehind_34 hl (k := 2) rfl e_v95 (by decide) rfl (fun ls hl => ?_)
          refine lv_goto (tgt := 8) hx hb dX2_roundsBehind_37 (by decide) ?_
          exact ih_l83 v95 v92 _ _ (by omega) (by omega) (by omega) hG hS _ (lv_sub hl [0, 1, 3] rfl)
        · have hc94 : v92.toInt = v4.toInt := (fi_eq rfl rfl).mp c9
          refine lv_goto (tgt := 40) hx hb dX2_roundsBehind_28 (by decide) ?_
          exact hj91 _ _ hG hS _ (lv_sub hl [1] rfl)
  have hk_0 : (0 : Int32).toInt = 0 := by decide
  exact hl83 9 0 v1 _ _ (by omega) (by omega) (by omega) hG hS _ (lv_sub hl [0, 1, 2] rfl)
theorem dJ6_bitCount_0f7a4_0 : decode cJ6_bitCount_0f7a4 0 = .ok (.iload_n 0, 1) := by decide +kernel
theorem dJ6_bitCount_0f7a4_1 : decode cJ6_bitCount_0f7a4 1 = .ok (.iload_n 0, 1) := by decide +kernel
theorem dJ6_bitCount_0f7a4_2 : decode cJ6_bitCount_0f7a4 2 = .ok (.iconst 1, 1) := by decide +kernel
theorem dJ6_bitCount_0f7a4_3 : decode cJ6_bitCount_0f7a4 3 = .ok (.iushr, 1) := by decide +kernel
theorem dJ6_bitCount_0f7a4_4 : decode cJ6_bitCount_0f7a4 4 = .ok (.ldc_w 265, 3) := by decide +kernel
theorem dJ6_bitCount_0f7a4_7 : decode cJ6_bitCount_0f7a4 7 = .ok (.iand, 1) := by decide +kernel
theorem dJ6_bitCount_0f7a4_8 : decode cJ6_bitCount_0f7a4 8 = .ok (.isub, 1) := by decide +kernel
theorem dJ6_bitCount_0f7a4_9 : decode cJ6_bitCount_0f7a4 9 = .ok (.istore_n 0, 1) := by decide +kernel
theorem dJ6_bitCount_0f7a4_10 : decode cJ6_bitCount_0f7a4 10 = .ok (.iload_n 0, 1) := by decide +kernel
theorem dJ6_bitCount_0f7a4_11 : decode cJ6_bitCount_0f7a4 11 = .ok (.ldc_w 266, 3) := by decide +kernel
theorem dJ6_bitCount_0f7a4_14 : decode cJ6_bitCount_0f7a4 14 = .ok (.iand, 1) := by decide +kernel
theorem dJ6_bitCount_0f7a4_15 : decode cJ6_bitCount_0f7a4 15 = .ok (.iload_n 0, 1) := by decide +kernel
theorem dJ6_bitCount_0f7a4_16 : decode cJ6_bitCount_0f7a4 16 = .ok (.iconst 2, 1) := by decide +kernel
theorem dJ6_bitCount_0f7a4_17 : decode cJ6_bitCount_0f7a4 17 = .ok (.iushr, 1) := by decide +kernel
theorem dJ6_bitCount_0f7a4_18 : decode cJ6_bitCount_0f7a4 18 = .ok (.ldc_w 266, 3) := by decide +kernel
theorem dJ6_bitCount_0f7a4_21 : decode cJ6_bitCount_0f7a4 21 = .ok (.iand, 1) := by decide +kernel
theorem dJ6_bitCount_0f7a4_22 : decode cJ6_bitCount_0f7a4 22 = .ok (.iadd, 1) := by decide +kernel
theorem dJ6_bitCount_0f7a4_23 : decode cJ6_bitCount_0f7a4 23 = .ok (.istore_n 0, 1) := by decide +kernel
theorem dJ6_bitCount_0f7a4_24 : decode cJ6_bitCount_0f7a4 24 = .ok (.iload_n 0, 1) := by decide +kernel
theorem dJ6_bitCount_0f7a4_25 : decode cJ6_bitCount_0f7a4 25 = .ok (.iload_n 0, 1) := by decide +kernel
theorem dJ6_bitCount_0f7a4_26 : decode cJ6_bitCount_0f7a4 26 = .ok (.iconst 4, 1) := by decide +kernel
theorem dJ6_bitCount_0f7a4_27 : decode cJ6_bitCount_0f7a4 27 = .ok (.iushr, 1) := by decide +kernel
theorem dJ6_bitCount_0f7a4_28 : decode cJ6_bitCount_0f7a4 28 = .ok (.iadd, 1) := by decide +kernel
theorem dJ6_bitCount_0f7a4_29 : decode cJ6_bitCount_0f7a4 29 = .ok (.ldc_w 267, 3) := by decide +kernel
theorem dJ6_bitCount_0f7a4_32 : decode cJ6_bitCount_0f7a4 32 = .ok (.iand, 1) := by decide +kernel
theorem dJ6_bitCount_0f7a4_33 : decode cJ6_bitCount_0f7a4 33 = .ok (.istore_n 0, 1) := by decide +kernel
theorem dJ6_bitCount_0f7a4_34 : decode cJ6_bitCount_0f7a4 34 = .ok (.iload_n 0, 1) := by decide +kernel
theorem dJ6_bitCount_0f7a4_35 : decode cJ6_bitCount_0f7a4 35 = .ok (.iload_n 0, 1) := by decide +kernel
theorem dJ6_bitCount_0f7a4_36 : decode cJ6_bitCount_0f7a4 36 = .ok (.bipush 8, 2) := by decide +kernel
theorem dJ6_bitCount_0f7a4_38 : decode cJ6_bitCount_0f7a4 38 = .ok (.iushr, 1) := by decide +kernel
theorem dJ6_bitCount_0f7a4_39 : decode cJ6_bitCount_0f7a4 39 = .ok (.iadd, 1) := by decide +kernel
theorem dJ6_bitCount_0f7a4_40 : decode cJ6_bitCount_0f7a4 40 = .ok (.istore_n 0, 1) := by decide +kernel
theorem dJ6_bitCount_0f7a4_41 : decode cJ6_bitCount_0f7a4 41 = .ok (.iload_n 0, 1) := by decide +kernel
theorem dJ6_bitCount_0f7a4_42 : decode cJ6_bitCount_0f7a4 42 = .ok (.iload_n 0, 1) := by decide +kernel
theorem dJ6_bitCount_0f7a4_43 : decode cJ6_bitCount_0f7a4 43 = .ok (.bipush 16, 2) := by decide +kernel
theorem dJ6_bitCount_0f7a4_45 : decode cJ6_bitCount_0f7a4 45 = .ok (.iushr, 1) := by decide +kernel
theorem dJ6_bitCount_0f7a4_46 : decode cJ6_bitCount_0f7a4 46 = .ok (.iadd, 1) := by decide +kernel
theorem dJ6_bitCount_0f7a4_47 : decode cJ6_bitCount_0f7a4 47 = .ok (.istore_n 0, 1) := by decide +kernel
theorem dJ6_bitCount_0f7a4_48 : decode cJ6_bitCount_0f7a4 48 = .ok (.iload_n 0, 1) := by decide +kernel
theorem dJ6_bitCount_0f7a4_49 : decode cJ6_bitCount_0f7a4 49 = .ok (.bipush 63, 2) := by decide +kernel
theorem dJ6_bitCount_0f7a4_51 : decode cJ6_bitCount_0f7a4 51 = .ok (.iand, 1) := by decide +kernel
theorem dJ6_bitCount_0f7a4_52 : decode cJ6_bitCount_0f7a4 52 = .ok (.ireturn, 1) := by decide +kernel
set_option maxHeartbeats 4000000 in
set_option maxRecDepth 100000 in
theorem k_J6_bitCount_0f7a4 (l : Launch) (D : va_G) (cy : Nat → ClassId) (ld : Nat → Nat) (t : tk_T) (X : List Nat) (p0 : Int32) : Met l yJ6_bitCount_0f7a4 (wl yJ6_bitCount_0f7a4 cJ6_bitCount_0f7a4 1 (some .int)) ({ frames := 3, cells := 0, slots := 0, locals := 140 }) (tp D cy ld t X [.int p0] (fun H => True)) (ti D cy ld t X (fun r H => 0 ≤ r.toInt ∧ r.toInt ≤ 64) (tk_w t [])) 0 0 (tk_w t []) := by
  refine tk_met (y := yJ6_bitCount_0f7a4) (cc := cJ6_bitCount_0f7a4) (maxL := 1) (ret := (some .int)) (av := [.int p0]) _ _ (by decide) (Nat.le_of_ble_eq_true rfl) ?_
  intro p e s m args below meth c hx hb hr hml hts htl hown hlocks hK H locs hH hG hS hB hZ ls hl
  have hown : s.vm.findClass RJ6 = some m.cls := hown
  have hl : lv_has ls 1 [(0, .int p0)] := hl
  have hr_p0 := tk_rng p0
  refine lv_iload_n hx hb dJ6_bitCount_0f7a4_0 rfl (lv_at hl 0 rfl) ?_
  refine lv_iload_n hx hb dJ6_bitCount_0f7a4_1 rfl (lv_at hl 0 rfl) ?_
  refine lv_iconst (v := 1) hx hb dJ6_bitCount_0f7a4_2 (by decide) ?_
  refine lv_iushr hx hb dJ6_bitCount_0f7a4_3 rfl ?_
  refine tk_any (fun v1 => ?_)
  refine lv_ldcw hx hb hown (htl _ mw_1615) dJ6_bitCount_0f7a4_4 ?_
  refine lv_iand hx hb dJ6_bitCount_0f7a4_7 ?_
  refine tk_any (fun v2 => ?_)
  refine lv_isub hx hb dJ6_bitCount_0f7a4_8 ?_
  obtain ⟨v3, hm_v3⟩ : ∃ z : Int32, p0 - v2 = z := ⟨_, rfl⟩
  refine fx_ti hm_v3 ?_
  refine lv_istore_n (lv' := [(0, .int v3)]) hx hb dJ6_bitCount_0f7a4_9 rfl hl (by decide) rfl (fun ls hl => ?_)
  refine lv_iload_n hx hb dJ6_bitCount_0f7a4_10 rfl (lv_at hl 0 rfl) ?_
  refine lv_ldcw hx hb hown (htl _ mw_1616) dJ6_bitCount_0f7a4_11 ?_
  refine lv_iand hx hb dJ6_bitCount_0f7a4_14 ?_
  refine tk_any (fun v4 => ?_)
  refine lv_iload_n hx hb dJ6_bitCount_0f7a4_15 rfl (lv_at hl 0 rfl) ?_
  refine lv_iconst (v := 2) hx hb dJ6_bitCount_0f7a4_16 (by decide) ?_
  refine lv_iushr hx hb dJ6_bitCount_0f7a4_17 rfl ?_
  refine tk_any (fun v5 => ?_)
  refine lv_ldcw hx hb hown (htl _ mw_1616) dJ6_bitCount_0f7a4_18 ?_
  refine lv_iand hx hb dJ6_bitCount_0f7a4_21 ?_
  refine tk_any (fun v6 => ?_)
  refine lv_iadd hx hb dJ6_bitCount_0f7a4_22 ?_
  obtain ⟨v7, hm_v7⟩ : ∃ z : Int32, v4 + v6 = z := ⟨_, rfl⟩
  refine fx_ti hm_v7 ?_
  refine lv_istore_n (lv' := [(0, .int v7)]) hx hb dJ6_bitCount_0f7a4_23 rfl hl (by decide) rfl (fun ls hl => ?_)
  refine lv_iload_n hx hb dJ6_bitCount_0f7a4_24 rfl (lv_at hl 0 rfl) ?_
  refine lv_iload_n hx hb dJ6_bitCount_0f7a4_25 rfl (lv_at hl 0 rfl) ?_
  refine lv_iconst (v := 4) hx hb dJ6_bitCount_0f7a4_26 (by decide) ?_
  refine lv_iushr hx hb dJ6_bitCount_0f7a4_27 rfl ?_
  refine tk_any (fun v8 => ?_)
  refine lv_iadd hx hb dJ6_bitCount_0f7a4_28 ?_
  obtain ⟨v9, hm_v9⟩ : ∃ z : Int32, v7 + v8 = z := ⟨_, rfl⟩
  refine fx_ti hm_v9 ?_
  refine lv_ldcw hx hb hown (htl _ mw_1617) dJ6_bitCount_0f7a4_29 ?_
  refine lv_iand hx hb dJ6_bitCount_0f7a4_32 ?_
  refine tk_any (fun v10 => ?_)
  refine lv_istore_n (lv' := [(0, .int v10)]) hx hb dJ6_bitCount_0f7a4_33 rfl hl (by decide) rfl (fun ls hl => ?_)
  refine lv_iload_n hx hb dJ6_bitCount_0f7a4_34 rfl (lv_at hl 0 rfl) ?_
  refine lv_iload_n hx hb dJ6_bitCount_0f7a4_35 rfl (lv_at hl 0 rfl) ?_
  refine lv_bipush (v := 8) hx hb dJ6_bitCount_0f7a4_36 (by decide) ?_
  refine lv_iushr hx hb dJ6_bitCount_0f7a4_38 rfl ?_
  refine tk_any (fun v11 => ?_)
  refine lv_iadd hx hb dJ6_bitCount_0f7a4_39 ?_
  obtain ⟨v12, hm_v12⟩ : ∃ z : Int32, v10 + v11 = z := ⟨_, rfl⟩
  refine fx_ti hm_v12 ?_
  refine lv_istore_n (lv' := [(0, .int v12)]) hx hb dJ6_bitCount_0f7a4_40 rfl hl (by decide) rfl (fun ls hl => ?_)
  refine lv_iload_n hx hb dJ6_bitCount_0f7a4_41 rfl (lv_at hl 0 rfl) ?_
  refine lv_iload_n hx hb dJ6_bitCount_0f7a4_42 rfl (lv_at hl 0 rfl) ?_
  refine lv_bipush (v := 16) hx hb dJ6_bitCount_0f7a4_43 (by decide) ?_
  refine lv_iushr hx hb dJ6_bitCount_0f7a4_45 rfl ?_
  refine tk_any (fun v13 => ?_)
  refine lv_iadd hx hb dJ6_bitCount_0f7a4_46 ?_
  obtain ⟨v14, hm_v14⟩ : ∃ z : Int32, v12 + v13 = z := ⟨_, rfl⟩
  refine fx_ti hm_v14 ?_
  refine lv_istore_n (lv' := [(0, .int v14)]) hx hb dJ6_bitCount_0f7a4_47 rfl hl (by decide) rfl (fun ls hl => ?_)
  refine lv_iload_n hx hb dJ6_bitCount_0f7a4_48 rfl (lv_at hl 0 rfl) ?_
  refine lv_bipush (v := 63) hx hb dJ6_bitCount_0f7a4_49 (by decide) ?_
  refine lv_iand hx hb dJ6_bitCount_0f7a4_51 ?_
  refine tk_say (P := fun z => 0 ≤ z.toInt ∧ z.toInt ≤ 63) (tk_and v14 6 (by decide) (by decide)) (fun v15 h_v15 => ?_)
  exact tk_iret (v := v15) hx hb hr rfl hlocks (show 0 ≤ v15.toInt ∧ v15.toInt ≤ 64 from ⟨(by omega), (by omega)⟩) hG hS dJ6_bitCount_0f7a4_52
theorem dX2_ledAway_0 : decode cX2_ledAway 0 = .ok (.iconst 1, 1) := by decide +kernel
theorem dX2_ledAway_1 : decode cX2_ledAway 1 = .ok (.iload_n 1, 1) := by decide +kernel
theorem dX2_ledAway_2 : decode cX2_ledAway 2 = .ok (.ishl, 1) := by decide +kernel
theorem dX2_ledAway_3 : decode cX2_ledAway 3 = .ok (.iconst 1, 1) := by decide +kernel
theorem dX2_ledAway_4 : decode cX2_ledAway 4 = .ok (.iload_n 2, 1) := by decide +kernel
theorem dX2_ledAway_5 : decode cX2_ledAway 5 = .ok (.ishl, 1) := by decide +kernel
theorem dX2_ledAway_6 : decode cX2_ledAway 6 = .ok (.ior, 1) := by decide +kernel
theorem dX2_ledAway_7 : decode cX2_ledAway 7 = .ok (.istore_n 3, 1) := by decide +kernel
theorem dX2_ledAway_8 : decode cX2_ledAway 8 = .ok (.iconst (-1), 1) := by decide +kernel
theorem dX2_ledAway_9 : decode cX2_ledAway 9 = .ok (.istore 4, 2) := by decide +kernel
theorem dX2_ledAway_11 : decode cX2_ledAway 11 = .ok (.iconst 0, 1) := by decide +kernel
theorem dX2_ledAway_12 : decode cX2_ledAway 12 = .ok (.istore 5, 2) := by decide +kernel
theorem dX2_ledAway_14 : decode cX2_ledAway 14 = .ok (.iload 5, 2) := by decide +kernel
theorem dX2_ledAway_16 : decode cX2_ledAway 16 = .ok (.iconst 1, 1) := by decide +kernel
theorem dX2_ledAway_17 : decode cX2_ledAway 17 = .ok (.aload_n 0, 1) := by decide +kernel
theorem dX2_ledAway_18 : decode cX2_ledAway 18 = .ok (.getfield 62, 3) := by decide +kernel
theorem dX2_ledAway_21 : decode cX2_ledAway 21 = .ok (.ishl, 1) := by decide +kernel
theorem dX2_ledAway_22 : decode cX2_ledAway 22 = .ok (.if_icmp .ge 65, 3) := by decide +kernel
theorem dX2_ledAway_87 : decode cX2_ledAway 87 = .ok (.iload 4, 2) := by decide +kernel
theorem dX2_ledAway_89 : decode cX2_ledAway 89 = .ok (.ireturn, 1) := by decide +kernel
theorem dX2_ledAway_25 : decode cX2_ledAway 25 = .ok (.iload 4, 2) := by decide +kernel
theorem dX2_ledAway_27 : decode cX2_ledAway 27 = .ok (.iconst (-1), 1) := by decide +kernel
theorem dX2_ledAway_49 : decode cX2_ledAway 49 = .ok (.istore 6, 2) := by decide +kernel
theorem dX2_ledAway_51 : decode cX2_ledAway 51 = .ok (.iload 5, 2) := by decide +kernel
theorem dX2_ledAway_53 : decode cX2_ledAway 53 = .ok (.iload_n 3, 1) := by decide +kernel
theorem dX2_ledAway_54 : decode cX2_ledAway 54 = .ok (.iand, 1) := by decide +kernel
theorem dX2_ledAway_81 : decode cX2_ledAway 81 = .ok (.iinc 5 1, 3) := by decide +kernel
theorem dX2_ledAway_84 : decode cX2_ledAway 84 = .ok (.goto (-70), 3) := by decide +kernel
theorem dX2_ledAway_55 : decode cX2_ledAway 55 = .ok (.ifCond .ne 26, 3) := by decide +kernel
theorem dX2_ledAway_58 : decode cX2_ledAway 58 = .ok (.iload 6, 2) := by decide +kernel
theorem dX2_ledAway_60 : decode cX2_ledAway 60 = .ok (.ifCond .eq 21, 3) := by decide +kernel
theorem dX2_ledAway_63 : decode cX2_ledAway 63 = .ok (.aload_n 0, 1) := by decide +kernel
theorem dX2_ledAway_64 : decode cX2_ledAway 64 = .ok (.iload_n 2, 1) := by decide +kernel
theorem dX2_ledAway_65 : decode cX2_ledAway 65 = .ok (.iload 5, 2) := by decide +kernel
theorem dX2_ledAway_67 : decode cX2_ledAway 67 = .ok (.invokevirtual 123, 3) := by decide +kernel
theorem dX2_ledAway_70 : decode cX2_ledAway 70 = .ok (.iload_n 1, 1) := by decide +kernel
theorem dX2_ledAway_71 : decode cX2_ledAway 71 = .ok (.ishr, 1) := by decide +kernel
theorem dX2_ledAway_72 : decode cX2_ledAway 72 = .ok (.iconst 1, 1) := by decide +kernel
theorem dX2_ledAway_73 : decode cX2_ledAway 73 = .ok (.iand, 1) := by decide +kernel
theorem dX2_ledAway_74 : decode cX2_ledAway 74 = .ok (.ifCond .ne 7, 3) := by decide +kernel
theorem dX2_ledAway_77 : decode cX2_ledAway 77 = .ok (.iload 5, 2) := by decide +kernel
theorem dX2_ledAway_79 : decode cX2_ledAway 79 = .ok (.istore 4, 2) := by decide +kernel
theorem dX2_ledAway_28 : decode cX2_ledAway 28 = .ok (.if_icmp .eq 16, 3) := by decide +kernel
theorem dX2_ledAway_44 : decode cX2_ledAway 44 = .ok (.iconst 1, 1) := by decide +kernel
theorem dX2_ledAway_45 : decode cX2_ledAway 45 = .ok (.goto 4, 3) := by decide +kernel
theorem dX2_ledAway_31 : decode cX2_ledAway 31 = .ok (.iload 5, 2) := by decide +kernel
theorem dX2_ledAway_33 : decode cX2_ledAway 33 = .ok (.invokestatic 118, 3) := by decide +kernel
theorem dX2_ledAway_36 : decode cX2_ledAway 36 = .ok (.iload 4, 2) := by decide +kernel
theorem dX2_ledAway_38 : decode cX2_ledAway 38 = .ok (.invokestatic 118, 3) := by decide +kernel
theorem dX2_ledAway_41 : decode cX2_ledAway 41 = .ok (.if_icmp .ge 7, 3) := by decide +kernel
theorem dX2_ledAway_48 : decode cX2_ledAway 48 = .ok (.iconst 0, 1) := by decide +kernel
set_option maxHeartbeats 4000000 in
set_option maxRecDepth 100000 in
theorem k_X2_ledAway (l : Launch) (D : va_G) (cy : Nat → ClassId) (ld : Nat → Nat) (t : tk_T) (a0 : Nat) (p1 : Int32) (p2 : Int32) (ht_a0 : t a0 = (3, 0, 0)) : Met l yX2_ledAway (wl yX2_ledAway cX2_ledAway 7 (some .int)) ({ frames := 5, cells := 0, slots := 0, locals := 280 }) (tp D cy ld t [] [.ref a0, .int p1, .int p2] (fun H => True)) (ti D cy ld t [] (fun r H => (-1) ≤ r.toInt ∧ r.toInt ≤ 1099) (tk_w t [])) 0 0 (tk_w t []) := by
  refine tk_met (y := yX2_ledAway) (cc := cX2_ledAway) (maxL := 7) (ret := (some .int)) (av := [.ref a0, .int p1, .int p2]) _ _ (by decide) (Nat.le_of_ble_eq_true rfl) ?_
  intro p e s m args below meth c hx hb hr hml hts htl hown hlocks hK H locs hH hG hS hB hZ ls hl
  have hown : s.vm.findClass RX2 = some m.cls := hown
  have hl : lv_has ls 7 [(0, .ref a0), (1, .int p1), (2, .int p2)] := hl
  have hr_p1 := tk_rng p1
  have hr_p2 := tk_rng p2
  refine lv_iconst (v := 1) hx hb dX2_ledAway_0 (by decide) ?_
  refine lv_iload_n hx hb dX2_ledAway_1 rfl (lv_at hl 1 rfl) ?_
  refine lv_ishl hx hb dX2_ledAway_2 ?_
  refine tk_any (fun v1 => ?_)
  refine lv_iconst (v := 1) hx hb dX2_ledAway_3 (by decide) ?_
  refine lv_iload_n hx hb dX2_ledAway_4 rfl (lv_at hl 2 rfl) ?_
  refine lv_ishl hx hb dX2_ledAway_5 ?_
  refine tk_any (fun v2 => ?_)
  refine lv_ior hx hb dX2_ledAway_6 ?_
  refine tk_any (fun v3 => ?_)
  refine lv_istore_n (lv' := [(3, .int v3), (0, .ref a0), (1, .int p1), (2, .int p2)]) hx hb dX2_ledAway_7 rfl hl (by decide) rfl (fun ls hl => ?_)
  refine lv_iconst (v := (-1)) hx hb dX2_ledAway_8 (by decide) ?_
  refine lv_istore (lv' := [(4, .int (-1)), (3, .int v3), (0, .ref a0), (1, .int p1), (2, .int p2)]) hx hb dX2_ledAway_9 hl (by decide) rfl (fun ls hl => ?_)
  refine lv_iconst (v := 0) hx hb dX2_ledAway_11 (by decide) ?_
  refine lv_istore (lv' := [(5, .int 0), (4, .int (-1)), (3, .int v3), (0, .ref a0), (1, .int p1), (2, .int p2)]) hx hb dX2_ledAway_12 hl (by decide) rfl (fun ls hl => ?_)
  have hl948 : ∀ (N_l948 : Nat) (v4 : Int32) (v5 : Int32) (H : Heap) (locs : List Loc), v4.toInt ≤ 1099 → (-1) ≤ v5.toInt → 0 ≤ v4.toInt + (-1) * v5.toInt + (-1) → (-1) * v4.toInt + 1099 < (N_l948 : Int) → tk_G D cy ld t [] H → va_S (tk_w t []) s.heap H locs → ∀ ls : Array Slot, lv_has ls 7 [(5, .int v4), (4, .int v5), (3, .int v3), (0, .ref a0), (1, .int p1), (2, .int p2)] → W p l e ({ frames := 5, cells := 0, slots := 0, locals := 280 }) s m args below meth c H locs 0 0 (MQ below (ti D cy ld t [] (fun r H => (-1) ≤ r.toInt ∧ r.toInt ≤ 1099) (tk_w t [])) args s 0 0 (tk_w t [])) (F0 m 14 ls []) := by
    intro N_l948
    induction N_l948 with
    | zero => intro v4 v5 H locs hq0_l948 hq1_l948 hq2_l948 hm_l948 hG hS ls hl; exfalso; omega
    | succ N_l948 ih_l948 =>
      intro v4 v5 H locs hq0_l948 hq1_l948 hq2_l948 hm_l948 hG hS ls hl
      refine lv_iload hx hb dX2_ledAway_14 (lv_at hl 0 rfl) ?_
      refine lv_iconst (v := 1) hx hb dX2_ledAway_16 (by decide) ?_
      refine lv_aload_n hx hb dX2_ledAway_17 rfl (lv_at hl 3 rfl) ?_
      refine tk_get (ci := 2) (C := RX2) (T := TX2) (N := 20) (sp := (0, 0, 8, 0)) hx hb htl inX2 hown hK hG ht_a0 (by decide) tk_no rfl 0 (by decide) (htl _ mw_257) (fun _ h9 => h9) rfl dX2_ledAway_18 (fun v9 hf949 hV9 => ?_)
      obtain ⟨v950, rfl, (ha_v950 : 0 ≤ v950.toInt), (hb_v950 : v950.toInt ≤ 8)⟩ := hV9
      refine lv_ishl hx hb dX2_ledAway_21 ?_
      refine tk_say (P := fun z => 1 ≤ z.toInt ∧ z.toInt ≤ 1024) (tk_shl1 v950 (by omega) (by omega)) (fun v951 h_v951 => ?_)
      refine lv_icmp_ge (tgt := 87) hx hb dX2_ledAway_22 (by decide) (fun c9 => ?_) (fun c9 => ?_)
      · have hc952 : v951.toInt ≤ v4.toInt := (fi_le rfl rfl).mp c9
        refine lv_iload hx hb dX2_ledAway_87 (lv_at hl 1 rfl) ?_
        exact tk_iret (v := v5) hx hb hr rfl hlocks (show (-1) ≤ v5.toInt ∧ v5.toInt ≤ 1099 from ⟨(by omega), (by omega)⟩) hG hS dX2_ledAway_89
      · have hc952 : ¬ (v951.toInt ≤ v4.toInt) := fun h9 => c9 ((fi_le rfl rfl).mpr h9)
        refine lv_iload hx hb dX2_ledAway_25 (lv_at hl 1 rfl) ?_
        refine lv_iconst (v := (-1)) hx hb dX2_ledAway_27 (by decide) ?_
        have hj1011 : ∀ (v1009 : Int32) (H : Heap) (locs : List Loc), 0 ≤ v1009.toInt → v1009.toInt ≤ 1 → tk_G D cy ld t [] H → va_S (tk_w t []) s.heap H locs → tk_f D H a0 2 0 (.int v950) → ∀ ls : Array Slot, lv_has ls 7 [(5, .int v4), (4, .int v5), (3, .int v3), (0, .ref a0), (1, .int p1), (2, .int p2)] → W p l e ({ frames := 5, cells := 0, slots := 0, locals := 280 }) s m args below meth c H locs 0 0 (MQ below (ti D cy ld t [] (fun r H => (-1) ≤ r.toInt ∧ r.toInt ≤ 1099) (tk_w t [])) args s 0 0 (tk_w t [])) (F0 m 49 ls [.int v1009]) := by
          intro v1009 H locs hq0_j1011 hq1_j1011 hG hS hf949 ls hl
          refine lv_istore (lv' := [(6, .int v1009), (5, .int v4), (4, .int v5), (3, .int v3), (0, .ref a0), (1, .int p1), (2, .int p2)]) hx hb dX2_ledAway_49 hl (by decide) rfl (fun ls hl => ?_)
          refine lv_iload hx hb dX2_ledAway_51 (lv_at hl 1 rfl) ?_
          refine lv_iload_n hx hb dX2_ledAway_53 rfl (lv_at hl 3 rfl) ?_
          refine lv_iand hx hb dX2_ledAway_54 ?_
          refine tk_any (fun v1012 => ?_)
          have hj1024 : ∀ (v1022 : Int32) (H : Heap) (locs : List Loc), 0 ≤ (-1) * v1022.toInt + v4.toInt → 0 ≤ v1022.toInt + (-1) * v5.toInt → tk_G D cy ld t [] H → va_S (tk_w t []) s.heap H locs → tk_f D H a0 2 0 (.int v950) → ∀ ls : Array Slot, lv_has ls 7 [(5, .int v4), (4, .int v1022), (3, .int v3), (0, .ref a0), (1, .int p1), (2, .int p2)] → W p l e ({ frames := 5, cells := 0, slots := 0, locals := 280 }) s m args below meth c H locs 0 0 (MQ below (ti D cy ld t [] (fun r H => (-1) ≤ r.toInt ∧ r.toInt ≤ 1099) (tk_w t [])) args s 0 0 (tk_w t [])) (F0 m 81 ls []) := by
            intro v1022 H locs hq0_j1024 hq1_j1024 hG hS hf949 ls hl
            obtain ⟨v1025, h_v1025, e_v1025⟩ := tk_inc v4 1 (by decide) (by omega) (by omega)
            refine lv_iinc (v := v1025) (lv' := [(5, .int v1025), (4, .int v1022), (3, .int v3), (0, .ref a0), (1, .int p1), (2, .int p2)]) hx hb dX2_ledAway_81 hl (k := 0) rfl e_v1025 (by decide) rfl (fun ls hl => ?_)
            refine lv_goto (tgt := 14) hx hb dX2_ledAway_84 (by decide) ?_
            exact ih_l948 v1025 v1022 _ _ (by omega) (by omega) (by omega) (by omega) hG hS _ (lv_sub hl [0, 1, 2, 3, 4, 5] rfl)
          refine lv_if_ne (tgt := 81) hx hb dX2_ledAway_55 (by decide) (fun c9 => ?_) (fun c9 => ?_)
          · have hc1013 : ¬ (v1012.toInt = 0) := fun h9 => c9 ((fi_eq rfl (show (0 : Int32).toInt = 0 by decide)).mpr h9)
            exact hj1024 v5 _ _ (by omega) (by omega) hG hS hf949 _ (lv_sub hl [1, 2, 3, 4, 5, 6] rfl)
          · have hc1013 : v1012.toInt = 0 := (fi_eq rfl (show (0 : Int32).toInt = 0 by decide)).mp c9
            refine lv_iload hx hb dX2_ledAway_58 (lv_at hl 0 rfl) ?_
            refine lv_if_eq (tgt := 81) hx hb dX2_ledAway_60 (by decide) (fun c9 => ?_) (fun c9 => ?_)
            · have hc1026 : v1009.toInt = 0 := (fi_eq rfl (show (0 : Int32).toInt = 0 by decide)).mp c9
              exact hj1024 v5 _ _ (by omega) (by omega) hG hS hf949 _ (lv_sub hl [1, 2, 3, 4, 5, 6] rfl)
            · have hc1026 : ¬ (v1009.toInt = 0) := fun h9 => c9 ((fi_eq rfl (show (0 : Int32).toInt = 0 by decide)).mpr h9)
              refine lv_aload_n hx hb dX2_ledAway_63 rfl (lv_at hl 4 rfl) ?_
              refine lv_iload_n hx hb dX2_ledAway_64 rfl (lv_at hl 6 rfl) ?_
              refine lv_iload hx hb dX2_ledAway_65 (lv_at hl 1 rfl) ?_
              refine tk_Vi (As := [.int p2, .int v4]) (rest := []) (ci := 2) ⟨hx, hb, hml, hown, hts⟩ hK hG hZ hS (k_X2_asleepBehind l D cy ld t a0 p2 v4 ht_a0) trivial ⟨callB_of 2 hts (wl_in mw_1578) rfl rfl rfl (htl _ mw_14) (htl _ mw_1618) hd_yX2_asleepBehind ⟨(Nat.le_of_ble_eq_true rfl), (Nat.le_of_ble_eq_true rfl)⟩, htl _ mw_1576, htl _ mw_1577⟩ ht_a0 (by decide) tk_no rfl (tk_w.pick [] rfl) rfl hl.1 rfl (Nat.le_of_ble_eq_true rfl) dX2_ledAway_67 ⟨(Nat.le_of_ble_eq_true rfl), (Nat.le_of_ble_eq_true rfl)⟩ (fun v1027 H locs hpo hG hS hq9 => ?_)
              have hf949 := hf949.call hq9 tk_w.nil
              refine lv_iload_n hx hb dX2_ledAway_70 rfl (lv_at hl 5 rfl) ?_
              refine lv_ishr hx hb dX2_ledAway_71 ?_
              refine tk_any (fun v1029 => ?_)
              refine lv_iconst (v := 1) hx hb dX2_ledAway_72 (by decide) ?_
              refine lv_iand hx hb dX2_ledAway_73 ?_
              refine tk_say (P := fun z => 0 ≤ z.toInt ∧ z.toInt ≤ 1) (tk_and v1029 1 (by decide) (by decide)) (fun v1030 h_v1030 => ?_)
              refine lv_if_ne (tgt := 81) hx hb dX2_ledAway_74 (by decide) (fun c9 => ?_) (fun c9 => ?_)
              · have hc1031 : ¬ (v1030.toInt = 0) := fun h9 => c9 ((fi_eq rfl (show (0 : Int32).toInt = 0 by decide)).mpr h9)
                exact hj1024 v5 _ _ (by omega) (by omega) hG hS hf949 _ (lv_sub hl [1, 2, 3, 4, 5, 6] rfl)
              · have hc1031 : v1030.toInt = 0 := (fi_eq rfl (show (0 : Int32).toInt = 0 by decide)).mp c9
                refine lv_iload hx hb dX2_ledAway_77 (lv_at hl 1 rfl) ?_
                refine lv_istore (lv' := [(4, .int v4), (6, .int v1009), (5, .int v4), (3, .int v3), (0, .ref a0), (1, .int p1), (2, .int p2)]) hx hb dX2_ledAway_79 hl (by decide) rfl (fun ls hl => ?_)
                exact hj1024 v4 _ _ (by omega) (by omega) hG hS hf949 _ (lv_sub hl [2, 0, 3, 4, 5, 6] rfl)
        refine lv_icmp_eq (tgt := 44) hx hb dX2_ledAway_28 (by decide) (fun c9 => ?_) (fun c9 => ?_)
        · have hc997 : v5.toInt = (-1) := (fi_eq rfl (show ((-1) : Int32).toInt = (-1) by decide)).mp c9
          refine lv_iconst (v := 1) hx hb dX2_ledAway_44 (by decide) ?_
          refine lv_goto (tgt := 49) hx hb dX2_ledAway_45 (by decide) ?_
          have hk_1 : (1 : Int32).toInt = 1 := by decide
          exact hj1011 1 _ _ (by omega) (by omega) hG hS hf949 _ (lv_sub hl [0, 1, 2, 3, 4, 5] rfl)
        · have hc997 : ¬ (v5.toInt = (-1)) := fun h9 => c9 ((fi_eq rfl (show ((-1) : Int32).toInt = (-1) by decide)).mpr h9)
          refine lv_iload hx hb dX2_ledAway_31 (lv_at hl 0 rfl) ?_
          refine tk_Si (As := [.int v4]) (rest := []) ⟨hx, hb, hml, hown, hts⟩ hK hG hZ hS (k_J6_bitCount_0f7a4 l D cy ld t _ v4) trivial ⟨callB_of 1 hts (wl_in mw_1614) rfl rfl rfl (htl _ mw_1613) (htl _ mw_1611) hd_yJ6_bitCount_0f7a4 ⟨(Nat.le_of_ble_eq_true rfl), (Nat.le_of_ble_eq_true rfl)⟩, htl _ mw_1612⟩ (tk_w.pick [] rfl) rfl hl.1 rfl (Nat.le_of_ble_eq_true rfl) dX2_ledAway_33 ⟨(Nat.le_of_ble_eq_true rfl), (Nat.le_of_ble_eq_true rfl)⟩ (fun v1032 H locs hpo hG hS hq9 => ?_)
          have hf949 := hf949.call hq9 tk_w.nil
          obtain ⟨hpo1034, hpo1035⟩ := hpo
          refine lv_iload hx hb dX2_ledAway_36 (lv_at hl 1 rfl) ?_
          refine tk_Si (As := [.int v5]) (rest := [.int v1032]) ⟨hx, hb, hml, hown, hts⟩ hK hG hZ hS (k_J6_bitCount_0f7a4 l D cy ld t _ v5) trivial ⟨callB_of 1 hts (wl_in mw_1614) rfl rfl rfl (htl _ mw_1613) (htl _ mw_1611) hd_yJ6_bitCount_0f7a4 ⟨(Nat.le_of_ble_eq_true rfl), (Nat.le_of_ble_eq_true rfl)⟩, htl _ mw_1612⟩ (tk_w.pick [] rfl) rfl hl.1 rfl (Nat.le_of_ble_eq_true rfl) dX2_ledAway_38 ⟨(Nat.le_of_ble_eq_true rfl), (Nat.le_of_ble_eq_true rfl)⟩ (fun v1036 H locs hpo hG hS hq9 => ?_)
          have hf949 := hf949.call hq9 tk_w.nil
          obtain ⟨hpo1038, hpo1039⟩ := hpo
          refine lv_icmp_ge (tgt := 48) hx hb dX2_ledAway_41 (by decide) (fun c9 => ?_) (fun c9 => ?_)
          · have hc1040 : v1036.toInt ≤ v1032.toInt := (fi_le rfl rfl).mp c9
            refine lv_iconst (v := 0) hx hb dX2_ledAway_48 (by decide) ?_
            have hk_0 : (0 : Int32).toInt = 0 := by decide
            exact hj1011 0 _ _ (by omega) (by omega) hG hS hf949 _ (lv_sub hl [0, 1, 2, 3, 4, 5] rfl)
          · have hc1040 : ¬ (v1036.toInt ≤ v1032.toInt) := fun h9 => c9 ((fi_le rfl rfl).mpr h9)
            refine lv_iconst (v := 1) hx hb dX2_ledAway_44 (by decide) ?_
            refine lv_goto (tgt := 49) hx hb dX2_ledAway_45 (by decide) ?_
            have hk_1 : (1 : Int32).toInt = 1 := by decide
            exact hj1011 1 _ _ (by omega) (by omega) hG hS hf949 _ (lv_sub hl [0, 1, 2, 3, 4, 5] rfl)
  have hk_0 : (0 : Int32).toInt = 0 := by decide
  have hk_m1 : ((-1) : Int32).toInt = (-1) := by decide
  exact hl948 1100 0 (-1) _ _ (by omega) (by omega) (by omega) (by omega) hG hS _ (lv_sub hl [0, 1, 2, 3, 4, 5] rfl)
theorem dX3_joinMore_0 : decode cX3_joinMore 0 = .ok (.iload_n 1, 1) := by decide +kernel
theorem dX3_joinMore_1 : decode cX3_joinMore 1 = .ok (.ifCond .le 35, 3) := by decide +kernel
theorem dX3_joinMore_4 : decode cX3_joinMore 4 = .ok (.iload_n 3, 1) := by decide +kernel
theorem dX3_joinMore_5 : decode cX3_joinMore 5 = .ok (.aload_n 0, 1) := by decide +kernel
theorem dX3_joinMore_6 : decode cX3_joinMore 6 = .ok (.getfield 26, 3) := by decide +kernel
theorem dX3_joinMore_36 : decode cX3_joinMore 36 = .ok (.iload_n 1, 1) := by decide +kernel
theorem dX3_joinMore_37 : decode cX3_joinMore 37 = .ok (.iconst 4, 1) := by decide +kernel
theorem dX3_joinMore_38 : decode cX3_joinMore 38 = .ok (.if_icmp .lt 4, 3) := by decide +kernel
theorem dX3_joinMore_41 : decode cX3_joinMore 41 = .ok (.return_, 1) := by decide +kernel
theorem dX3_joinMore_9 : decode cX3_joinMore 9 = .ok (.if_icmp .le 27, 3) := by decide +kernel
theorem dX3_joinMore_12 : decode cX3_joinMore 12 = .ok (.aload_n 0, 1) := by decide +kernel
theorem dX3_joinMore_13 : decode cX3_joinMore 13 = .ok (.iload_n 3, 1) := by decide +kernel
theorem dX3_joinMore_14 : decode cX3_joinMore 14 = .ok (.putfield 26, 3) := by decide +kernel
theorem dX3_joinMore_17 : decode cX3_joinMore 17 = .ok (.aload_n 0, 1) := by decide +kernel
theorem dX3_joinMore_18 : decode cX3_joinMore 18 = .ok (.iload_n 1, 1) := by decide +kernel
theorem dX3_joinMore_19 : decode cX3_joinMore 19 = .ok (.putfield 22, 3) := by decide +kernel
theorem dX3_joinMore_22 : decode cX3_joinMore 22 = .ok (.aload_n 0, 1) := by decide +kernel
theorem dX3_joinMore_23 : decode cX3_joinMore 23 = .ok (.getfield 11, 3) := by decide +kernel
theorem dX3_joinMore_26 : decode cX3_joinMore 26 = .ok (.iconst 0, 1) := by decide +kernel
theorem dX3_joinMore_27 : decode cX3_joinMore 27 = .ok (.aload_n 0, 1) := by decide +kernel
theorem dX3_joinMore_28 : decode cX3_joinMore 28 = .ok (.getfield 15, 3) := by decide +kernel
theorem dX3_joinMore_31 : decode cX3_joinMore 31 = .ok (.iconst 0, 1) := by decide +kernel
theorem dX3_joinMore_32 : decode cX3_joinMore 32 = .ok (.iconst 4, 1) := by decide +kernel
theorem dX3_joinMore_33 : decode cX3_joinMore 33 = .ok (.invokestatic 37, 3) := by decide +kernel
set_option maxHeartbeats 4000000 in
set_option maxRecDepth 100000 in
theorem k_X3_joinMore_4 (l : Launch) (D : va_G) (cy : Nat → ClassId) (ld : Nat → Nat) (t : tk_T) (a0 : Nat) (p2 : Int32) (p3 : Int32) (p4 : Int32) (ht_a0 : t a0 = (4, 0, 0)) : Met l yX3_joinMore (wl yX3_joinMore cX3_joinMore 8 none) ({ frames := 4, cells := 0, slots := 0, locals := 210 }) (tp D cy ld t [] [.ref a0, .int 4, .int p2, .int p3, .int p4] (fun H => True)) (tv D cy ld t [] (fun H => True) (tk_w t [(4, 0, 0), (20, 0, 0)])) 0 0 (tk_w t [(4, 0, 0), (20, 0, 0)]) := by
  refine tk_met (y := yX3_joinMore) (cc := cX3_joinMore) (maxL := 8) (ret := none) (av := [.ref a0, .int 4, .int p2, .int p3, .int p4]) _ _ (by decide) (Nat.le_of_ble_eq_true rfl) ?_
  intro p e s m args below meth c hx hb hr hml hts htl hown hlocks hK H locs hH hG hS hB hZ ls hl
  have hown : s.vm.findClass RX3 = some m.cls := hown
  have hl : lv_has ls 8 [(0, .ref a0), (1, .int 4), (2, .int p2), (3, .int p3), (4, .int p4)] := hl
  have hr_p2 := tk_rng p2
  have hr_p3 := tk_rng p3
  have hr_p4 := tk_rng p4
  refine lv_iload_n hx hb dX3_joinMore_0 rfl (lv_at hl 1 rfl) ?_
  refine lv_if_le (tgt := 36) hx hb dX3_joinMore_1 (by decide) (fun c9 => absurd c9 (by decide)) (fun _ => ?_)
  refine lv_iload_n hx hb dX3_joinMore_4 rfl (lv_at hl 3 rfl) ?_
  refine lv_aload_n hx hb dX3_joinMore_5 rfl (lv_at hl 0 rfl) ?_
  refine tk_get (ci := 3) (C := RX3) (T := TX3) (N := 5) (sp := (0, (-2147483648), 2147483647, 0)) hx hb htl inX3 hown hK hG ht_a0 (by decide) tk_no rfl 4 (by decide) (htl _ mw_1456) (fun _ h9 => h9) rfl dX3_joinMore_6 (fun v9 hf1 hV9 => ?_)
  obtain ⟨v2, rfl, (ha_v2 : (-2147483648) ≤ v2.toInt), (hb_v2 : v2.toInt ≤ 2147483647)⟩ := hV9
  have hj15 : ∀ (H : Heap) (locs : List Loc), tk_G D cy ld t [] H → va_S (tk_w t [(4, 0, 0), (20, 0, 0)]) s.heap H locs → ∀ ls : Array Slot, lv_has ls 8 [(0, .ref a0), (1, .int 4), (2, .int p2), (3, .int p3), (4, .int p4)] → W p l e ({ frames := 4, cells := 0, slots := 0, locals := 210 }) s m args below meth c H locs 0 0 (MQ below (tv D cy ld t [] (fun H => True) (tk_w t [(4, 0, 0), (20, 0, 0)])) args s 0 0 (tk_w t [(4, 0, 0), (20, 0, 0)])) (F0 m 36 ls []) := by
    intro H locs hG hS ls hl
    refine lv_iload_n hx hb dX3_joinMore_36 rfl (lv_at hl 1 rfl) ?_
    refine lv_iconst (v := 4) hx hb dX3_joinMore_37 (by decide) ?_
    refine lv_icmp_lt (tgt := 42) hx hb dX3_joinMore_38 (by decide) (fun c9 => absurd c9 (by decide)) (fun _ => ?_)
    exact tk_vret hx hb hr hlocks trivial hG hS dX3_joinMore_41
  refine lv_icmp_le (tgt := 36) hx hb dX3_joinMore_9 (by decide) (fun c9 => ?_) (fun c9 => ?_)
  · have hc3 : p3.toInt ≤ v2.toInt := (fi_le rfl rfl).mp c9
    exact hj15 _ _ hG hS _ (lv_sub hl [0, 1, 2, 3, 4] rfl)
  · have hc3 : ¬ (p3.toInt ≤ v2.toInt) := fun h9 => c9 ((fi_le rfl rfl).mpr h9)
    refine lv_aload_n hx hb dX3_joinMore_12 rfl (lv_at hl 0 rfl) ?_
    refine lv_iload_n hx hb dX3_joinMore_13 rfl (lv_at hl 3 rfl) ?_
    refine tk_put (ci := 3) (v := .int p3) (ty := .int) (C := RX3) (T := TX3) (N := 5) (sp := (0, (-2147483648), 2147483647, 0)) hx hb htl inX3 tyX3 tyX3_ok nmX3 hown hK hG hS ht_a0 (by decide) tk_no rfl 4 (by decide) (htl _ mw_1456) (fun _ h9 => h9) rfl (tyX3_ok 4 (by decide)) rfl rfl rfl (tk_V0 (tk_rng _).1 (tk_rng _).2) (fun _ h => h) (tk_w.of ht_a0 (by decide) (List.mem_of_getElem? (i := 0) rfl) (Nat.le_refl _) (Nat.le_refl _)) dX3_joinMore_14 (fun H locs hG hS hf16 hq9 hj9 => ?_)
    refine lv_aload_n hx hb dX3_joinMore_17 rfl (lv_at hl 0 rfl) ?_
    refine lv_iload_n hx hb dX3_joinMore_18 rfl (lv_at hl 1 rfl) ?_
    refine tk_put (ci := 3) (v := .int 4) (ty := .int) (C := RX3) (T := TX3) (N := 5) (sp := (0, 0, 4, 0)) hx hb htl inX3 tyX3 tyX3_ok nmX3 hown hK hG hS ht_a0 (by decide) tk_no rfl 3 (by decide) (htl _ mw_1455) (fun _ h9 => h9) rfl (tyX3_ok 3 (by decide)) rfl rfl rfl (tk_V0 (by decide) (by decide)) (fun _ h => h) (tk_w.of ht_a0 (by decide) (List.mem_of_getElem? (i := 0) rfl) (Nat.le_refl _) (Nat.le_refl _)) dX3_joinMore_19 (fun H locs hG hS hf18 hq9 hj9 => ?_)
    refine lv_aload_n hx hb dX3_joinMore_22 rfl (lv_at hl 0 rfl) ?_
    refine tk_get (ci := 3) (C := RX3) (T := TX3) (N := 5) (sp := (6, 22, 4, 0)) hx hb htl inX3 hown hK hG ht_a0 (by decide) tk_no rfl 1 (by decide) (htl _ mw_173) (fun _ h9 => h9) rfl dX3_joinMore_23 (fun v9 hf20 hV9 => ?_)
    obtain ⟨b21, rfl, ht_b21⟩ := hV9
    have ht_b21 : t b21 = (22, 4, 0) := ht_b21
    refine lv_iconst (v := 0) hx hb dX3_joinMore_26 (by decide) ?_
    refine lv_aload_n hx hb dX3_joinMore_27 rfl (lv_at hl 0 rfl) ?_
    refine tk_get (ci := 3) (C := RX3) (T := TX3) (N := 5) (sp := (6, 20, 4, 0)) hx hb htl inX3 hown hK hG ht_a0 (by decide) tk_no rfl 2 (by decide) (htl _ mw_174) (fun _ h9 => h9) rfl dX3_joinMore_28 (fun v9 hf22 hV9 => ?_)
    obtain ⟨b23, rfl, ht_b23⟩ := hV9
    have ht_b23 : t b23 = (20, 4, 0) := ht_b23
    refine lv_iconst (v := 0) hx hb dX3_joinMore_31 (by decide) ?_
    refine lv_iconst (v := 4) hx hb dX3_joinMore_32 (by decide) ?_
    refine tk_copy (SP := 0) (DP := 0) (NC := 4) hx hb (by rw [hml]; exact hl.1.symm) hown (htl _ mw_1461) (htl _ mw_655) (htl _ mw_656) (htl _ mw_657) hK hG hS ht_b21 ht_b23 (by decide) (by decide) (fun _ h => h) (fun _ => Iff.rfl) tk_no tk_no (show (0 : Int32).toInt = 0 by decide) (show (0 : Int32).toInt = 0 by decide) (show (4 : Int32).toInt = 4 by decide) (by decide) (by decide) (by decide) (by decide) (by decide) (fun _ _ _ _ _ => trivial) (tk_w.of ht_b23 (by decide) (List.mem_of_getElem? (i := 1) rfl) (Nat.le_refl _) (Nat.le_refl _)) (Nat.le_of_ble_eq_true rfl) (Nat.le_of_ble_eq_true rfl) dX3_joinMore_33 (fun H locs hG hS hq9 => ?_)
    exact hj15 _ _ hG hS _ (lv_sub hl [0, 1, 2, 3, 4] rfl)
theorem dX3_joinMore_42 : decode cX3_joinMore 42 = .ok (.iconst 0, 1) := by decide +kernel
theorem dX3_joinMore_43 : decode cX3_joinMore 43 = .ok (.istore 5, 2) := by decide +kernel
theorem dX3_joinMore_45 : decode cX3_joinMore 45 = .ok (.iload 5, 2) := by decide +kernel
theorem dX3_joinMore_47 : decode cX3_joinMore 47 = .ok (.aload_n 0, 1) := by decide +kernel
theorem dX3_joinMore_48 : decode cX3_joinMore 48 = .ok (.getfield 18, 3) := by decide +kernel
theorem dX3_joinMore_51 : decode cX3_joinMore 51 = .ok (.getfield 43, 3) := by decide +kernel
theorem dX3_joinMore_54 : decode cX3_joinMore 54 = .ok (.if_icmp .ge 134, 3) := by decide +kernel
theorem dX3_joinMore_188 : decode cX3_joinMore 188 = .ok (.return_, 1) := by decide +kernel
theorem dX3_joinMore_57 : decode cX3_joinMore 57 = .ok (.iload_n 2, 1) := by decide +kernel
theorem dX3_joinMore_58 : decode cX3_joinMore 58 = .ok (.iload 5, 2) := by decide +kernel
theorem dX3_joinMore_60 : decode cX3_joinMore 60 = .ok (.ishr, 1) := by decide +kernel
theorem dX3_joinMore_61 : decode cX3_joinMore 61 = .ok (.iconst 1, 1) := by decide +kernel
theorem dX3_joinMore_62 : decode cX3_joinMore 62 = .ok (.iand, 1) := by decide +kernel
theorem dX3_joinMore_182 : decode cX3_joinMore 182 = .ok (.iinc 5 1, 3) := by decide +kernel
theorem dX3_joinMore_185 : decode cX3_joinMore 185 = .ok (.goto (-140), 3) := by decide +kernel
theorem dX3_joinMore_63 : decode cX3_joinMore 63 = .ok (.ifCond .ne 119, 3) := by decide +kernel
theorem dX3_joinMore_66 : decode cX3_joinMore 66 = .ok (.aload_n 0, 1) := by decide +kernel
theorem dX3_joinMore_67 : decode cX3_joinMore 67 = .ok (.getfield 18, 3) := by decide +kernel
theorem dX3_joinMore_70 : decode cX3_joinMore 70 = .ok (.getfield 48, 3) := by decide +kernel
theorem dX3_joinMore_73 : decode cX3_joinMore 73 = .ok (.iload 5, 2) := by decide +kernel
theorem dX3_joinMore_75 : decode cX3_joinMore 75 = .ok (.iaload, 1) := by decide +kernel
theorem dX3_joinMore_76 : decode cX3_joinMore 76 = .ok (.iload 4, 2) := by decide +kernel
theorem dX3_joinMore_78 : decode cX3_joinMore 78 = .ok (.if_icmp .gt 104, 3) := by decide +kernel
theorem dX3_joinMore_81 : decode cX3_joinMore 81 = .ok (.iload_n 1, 1) := by decide +kernel
theorem dX3_joinMore_82 : decode cX3_joinMore 82 = .ok (.ifCond .le 36, 3) := by decide +kernel
theorem dX3_joinMore_85 : decode cX3_joinMore 85 = .ok (.aload_n 0, 1) := by decide +kernel
theorem dX3_joinMore_86 : decode cX3_joinMore 86 = .ok (.getfield 18, 3) := by decide +kernel
theorem dX3_joinMore_89 : decode cX3_joinMore 89 = .ok (.getfield 51, 3) := by decide +kernel
theorem dX3_joinMore_92 : decode cX3_joinMore 92 = .ok (.aload_n 0, 1) := by decide +kernel
theorem dX3_joinMore_93 : decode cX3_joinMore 93 = .ok (.getfield 11, 3) := by decide +kernel
theorem dX3_joinMore_96 : decode cX3_joinMore 96 = .ok (.iload_n 1, 1) := by decide +kernel
theorem dX3_joinMore_97 : decode cX3_joinMore 97 = .ok (.iconst 1, 1) := by decide +kernel
theorem dX3_joinMore_98 : decode cX3_joinMore 98 = .ok (.isub, 1) := by decide +kernel
theorem dX3_joinMore_99 : decode cX3_joinMore 99 = .ok (.iaload, 1) := by decide +kernel
theorem dX3_joinMore_100 : decode cX3_joinMore 100 = .ok (.iaload, 1) := by decide +kernel
theorem dX3_joinMore_101 : decode cX3_joinMore 101 = .ok (.aload_n 0, 1) := by decide +kernel
theorem dX3_joinMore_102 : decode cX3_joinMore 102 = .ok (.getfield 18, 3) := by decide +kernel
theorem dX3_joinMore_105 : decode cX3_joinMore 105 = .ok (.getfield 51, 3) := by decide +kernel
theorem dX3_joinMore_108 : decode cX3_joinMore 108 = .ok (.iload 5, 2) := by decide +kernel
theorem dX3_joinMore_110 : decode cX3_joinMore 110 = .ok (.iaload, 1) := by decide +kernel
theorem dX3_joinMore_119 : decode cX3_joinMore 119 = .ok (.istore 6, 2) := by decide +kernel
theorem dX3_joinMore_121 : decode cX3_joinMore 121 = .ok (.aload_n 0, 1) := by decide +kernel
theorem dX3_joinMore_122 : decode cX3_joinMore 122 = .ok (.getfield 11, 3) := by decide +kernel
theorem dX3_joinMore_125 : decode cX3_joinMore 125 = .ok (.iload_n 1, 1) := by decide +kernel
theorem dX3_joinMore_126 : decode cX3_joinMore 126 = .ok (.iload 5, 2) := by decide +kernel
theorem dX3_joinMore_128 : decode cX3_joinMore 128 = .ok (.iastore, 1) := by decide +kernel
theorem dX3_joinMore_129 : decode cX3_joinMore 129 = .ok (.iload_n 3, 1) := by decide +kernel
theorem dX3_joinMore_130 : decode cX3_joinMore 130 = .ok (.aload_n 0, 1) := by decide +kernel
theorem dX3_joinMore_131 : decode cX3_joinMore 131 = .ok (.getfield 18, 3) := by decide +kernel
theorem dX3_joinMore_134 : decode cX3_joinMore 134 = .ok (.getfield 54, 3) := by decide +kernel
theorem dX3_joinMore_137 : decode cX3_joinMore 137 = .ok (.iload 5, 2) := by decide +kernel
theorem dX3_joinMore_139 : decode cX3_joinMore 139 = .ok (.iaload, 1) := by decide +kernel
theorem dX3_joinMore_140 : decode cX3_joinMore 140 = .ok (.iadd, 1) := by decide +kernel
theorem dX3_joinMore_141 : decode cX3_joinMore 141 = .ok (.iload 6, 2) := by decide +kernel
theorem dX3_joinMore_151 : decode cX3_joinMore 151 = .ok (.iadd, 1) := by decide +kernel
theorem dX3_joinMore_152 : decode cX3_joinMore 152 = .ok (.istore 7, 2) := by decide +kernel
theorem dX3_joinMore_154 : decode cX3_joinMore 154 = .ok (.aload_n 0, 1) := by decide +kernel
theorem dX3_joinMore_155 : decode cX3_joinMore 155 = .ok (.iload_n 1, 1) := by decide +kernel
theorem dX3_joinMore_156 : decode cX3_joinMore 156 = .ok (.iconst 1, 1) := by decide +kernel
theorem dX3_joinMore_157 : decode cX3_joinMore 157 = .ok (.iadd, 1) := by decide +kernel
theorem dX3_joinMore_158 : decode cX3_joinMore 158 = .ok (.iload_n 2, 1) := by decide +kernel
theorem dX3_joinMore_159 : decode cX3_joinMore 159 = .ok (.iconst 1, 1) := by decide +kernel
theorem dX3_joinMore_160 : decode cX3_joinMore 160 = .ok (.iload 5, 2) := by decide +kernel
theorem dX3_joinMore_162 : decode cX3_joinMore 162 = .ok (.ishl, 1) := by decide +kernel
theorem dX3_joinMore_163 : decode cX3_joinMore 163 = .ok (.ior, 1) := by decide +kernel
theorem dX3_joinMore_164 : decode cX3_joinMore 164 = .ok (.iload 7, 2) := by decide +kernel
theorem dX3_joinMore_166 : decode cX3_joinMore 166 = .ok (.iload 4, 2) := by decide +kernel
theorem dX3_joinMore_168 : decode cX3_joinMore 168 = .ok (.aload_n 0, 1) := by decide +kernel
theorem dX3_joinMore_169 : decode cX3_joinMore 169 = .ok (.getfield 18, 3) := by decide +kernel
theorem dX3_joinMore_172 : decode cX3_joinMore 172 = .ok (.getfield 48, 3) := by decide +kernel
theorem dX3_joinMore_175 : decode cX3_joinMore 175 = .ok (.iload 5, 2) := by decide +kernel
theorem dX3_joinMore_177 : decode cX3_joinMore 177 = .ok (.iaload, 1) := by decide +kernel
theorem dX3_joinMore_178 : decode cX3_joinMore 178 = .ok (.isub, 1) := by decide +kernel
theorem dX3_joinMore_179 : decode cX3_joinMore 179 = .ok (.invokevirtual 29, 3) := by decide +kernel
theorem dX3_joinMore_143 : decode cX3_joinMore 143 = .ok (.ifCond .eq 7, 3) := by decide +kernel
theorem dX3_joinMore_150 : decode cX3_joinMore 150 = .ok (.iconst 0, 1) := by decide +kernel
theorem dX3_joinMore_146 : decode cX3_joinMore 146 = .ok (.iconst 3, 1) := by decide +kernel
theorem dX3_joinMore_147 : decode cX3_joinMore 147 = .ok (.goto 4, 3) := by decide +kernel
theorem dX3_joinMore_111 : decode cX3_joinMore 111 = .ok (.if_icmp .ne 7, 3) := by decide +kernel
theorem dX3_joinMore_118 : decode cX3_joinMore 118 = .ok (.iconst 0, 1) := by decide +kernel
theorem dX3_joinMore_114 : decode cX3_joinMore 114 = .ok (.iconst 1, 1) := by decide +kernel
theorem dX3_joinMore_115 : decode cX3_joinMore 115 = .ok (.goto 4, 3) := by decide +kernel
set_option maxHeartbeats 4000000 in
set_option maxRecDepth 100000 in
theorem k_X3_joinMore_3 (l : Launch) (D : va_G) (cy : Nat → ClassId) (ld : Nat → Nat) (t : tk_T) (a0 : Nat) (p2 : Int32) (p3 : Int32) (p4 : Int32) (ht_a0 : t a0 = (4, 0, 0)) : Met l yX3_joinMore (wl yX3_joinMore cX3_joinMore 8 none) ({ frames := 5, cells := 0, slots := 0, locals := 280 }) (tp D cy ld t [] [.ref a0, .int 3, .int p2, .int p3, .int p4] (fun H => True)) (tv D cy ld t [] (fun H => True) (tk_w t [(4, 0, 0), (20, 0, 0), (22, 0, 0)])) 0 0 (tk_w t [(4, 0, 0), (20, 0, 0), (22, 0, 0)]) := by
  refine tk_met (y := yX3_joinMore) (cc := cX3_joinMore) (maxL := 8) (ret := none) (av := [.ref a0, .int 3, .int p2, .int p3, .int p4]) _ _ (by decide) (Nat.le_of_ble_eq_true rfl) ?_
  intro p e s m args below meth c hx hb hr hml hts htl hown hlocks hK H locs hH hG hS hB hZ ls hl
  have hown : s.vm.findClass RX3 = some m.cls := hown
  have hl : lv_has ls 8 [(0, .ref a0), (1, .int 3), (2, .int p2), (3, .int p3), (4, .int p4)] := hl
  have hr_p2 := tk_rng p2
  have hr_p3 := tk_rng p3
  have hr_p4 := tk_rng p4
  refine lv_iload_n hx hb dX3_joinMore_0 rfl (lv_at hl 1 rfl) ?_
  refine lv_if_le (tgt := 36) hx hb dX3_joinMore_1 (by decide) (fun c9 => absurd c9 (by decide)) (fun _ => ?_)
  refine lv_iload_n hx hb dX3_joinMore_4 rfl (lv_at hl 3 rfl) ?_
  refine lv_aload_n hx hb dX3_joinMore_5 rfl (lv_at hl 0 rfl) ?_
  refine tk_get (ci := 3) (C := RX3) (T := TX3) (N := 5) (sp := (0, (-2147483648), 2147483647, 0)) hx hb htl inX3 hown hK hG ht_a0 (by decide) tk_no rfl 4 (by decide) (htl _ mw_1456) (fun _ h9 => h9) rfl dX3_joinMore_6 (fun v9 hf1 hV9 => ?_)
  obtain ⟨v2, rfl, (ha_v2 : (-2147483648) ≤ v2.toInt), (hb_v2 : v2.toInt ≤ 2147483647)⟩ := hV9
  have hj15 : ∀ (H : Heap) (locs : List Loc), tk_G D cy ld t [] H → va_S (tk_w t [(4, 0, 0), (20, 0, 0), (22, 0, 0)]) s.heap H locs → ∀ ls : Array Slot, lv_has ls 8 [(0, .ref a0), (1, .int 3), (2, .int p2), (3, .int p3), (4, .int p4)] → W p l e ({ frames := 5, cells := 0, slots := 0, locals := 280 }) s m args below meth c H locs 0 0 (MQ below (tv D cy ld t [] (fun H => True) (tk_w t [(4, 0, 0), (20, 0, 0), (22, 0, 0)])) args s 0 0 (tk_w t [(4, 0, 0), (20, 0, 0), (22, 0, 0)])) (F0 m 36 ls []) := by
    intro H locs hG hS ls hl
    refine lv_iload_n hx hb dX3_joinMore_36 rfl (lv_at hl 1 rfl) ?_
    refine lv_iconst (v := 4) hx hb dX3_joinMore_37 (by decide) ?_
    refine lv_icmp_lt (tgt := 42) hx hb dX3_joinMore_38 (by decide) (fun _ => ?_) (fun c9 => absurd (by decide) c9)
    refine lv_iconst (v := 0) hx hb dX3_joinMore_42 (by decide) ?_
    refine lv_istore (lv' := [(5, .int 0), (0, .ref a0), (1, .int 3), (2, .int p2), (3, .int p3), (4, .int p4)]) hx hb dX3_joinMore_43 hl (by decide) rfl (fun ls hl => ?_)
    have hl599 : ∀ (N_l599 : Nat) (v16 : Int32) (H : Heap) (locs : List Loc), v16.toInt ≤ 10 → 0 ≤ v16.toInt → (-1) * v16.toInt + 10 < (N_l599 : Int) → tk_G D cy ld t [] H → va_S (tk_w t [(4, 0, 0), (20, 0, 0), (22, 0, 0)]) s.heap H locs → ∀ ls : Array Slot, lv_has ls 8 [(5, .int v16), (0, .ref a0), (1, .int 3), (2, .int p2), (3, .int p3), (4, .int p4)] → W p l e ({ frames := 5, cells := 0, slots := 0, locals := 280 }) s m args below meth c H locs 0 0 (MQ below (tv D cy ld t [] (fun H => True) (tk_w t [(4, 0, 0), (20, 0, 0), (22, 0, 0)])) args s 0 0 (tk_w t [(4, 0, 0), (20, 0, 0), (22, 0, 0)])) (F0 m 45 ls []) := by
      intro N_l599
      induction N_l599 with
      | zero => intro v16 H locs hq0_l599 hq1_l599 hm_l599 hG hS ls hl; exfalso; omega
      | succ N_l599 ih_l599 =>
        intro v16 H locs hq0_l599 hq1_l599 hm_l599 hG hS ls hl
        refine lv_iload hx hb dX3_joinMore_45 (lv_at hl 0 rfl) ?_
        refine lv_aload_n hx hb dX3_joinMore_47 rfl (lv_at hl 1 rfl) ?_
        refine tk_get (ci := 3) (C := RX3) (T := TX3) (N := 5) (sp := (8, 20, 3, 0)) hx hb htl inX3 hown hK hG ht_a0 (by decide) tk_no rfl 0 (by decide) (htl _ mw_175) (fun _ h9 => h9) rfl dX3_joinMore_48 (fun v9 hf600 hV9 => ?_)
        obtain ⟨rfl, ht_ld20⟩ := hV9
        have ht_ld20 : t (ld 20) = (3, 0, 0) := ht_ld20
        refine fx_top (v := .ref (ld 20)) rfl ?_
        refine tk_get (ci := 2) (C := RX2) (T := TX2) (N := 20) (sp := (0, 0, 10, 0)) hx hb htl inX2 hown hK hG ht_ld20 (by decide) tk_no rfl 7 (by decide) (htl _ mw_1462) (fun _ h9 => h9) rfl dX3_joinMore_51 (fun v9 hf601 hV9 => ?_)
        obtain ⟨v602, rfl, (ha_v602 : 0 ≤ v602.toInt), (hb_v602 : v602.toInt ≤ 10)⟩ := hV9
        refine lv_icmp_ge (tgt := 188) hx hb dX3_joinMore_54 (by decide) (fun c9 => ?_) (fun c9 => ?_)
        · have hc603 : v602.toInt ≤ v16.toInt := (fi_le rfl rfl).mp c9
          exact tk_vret hx hb hr hlocks trivial hG hS dX3_joinMore_188
        · have hc603 : ¬ (v602.toInt ≤ v16.toInt) := fun h9 => c9 ((fi_le rfl rfl).mpr h9)
          refine lv_iload_n hx hb dX3_joinMore_57 rfl (lv_at hl 3 rfl) ?_
          refine lv_iload hx hb dX3_joinMore_58 (lv_at hl 0 rfl) ?_
          refine lv_ishr hx hb dX3_joinMore_60 ?_
          refine tk_any (fun v604 => ?_)
          refine lv_iconst (v := 1) hx hb dX3_joinMore_61 (by decide) ?_
          refine lv_iand hx hb dX3_joinMore_62 ?_
          refine tk_say (P := fun z => 0 ≤ z.toInt ∧ z.toInt ≤ 1) (tk_and v604 1 (by decide) (by decide)) (fun v605 h_v605 => ?_)
          have hj645 : ∀ (H : Heap) (locs : List Loc), tk_G D cy ld t [] H → va_S (tk_w t [(4, 0, 0), (20, 0, 0), (22, 0, 0)]) s.heap H locs → tk_f D H (ld 20) 2 7 (.int v602) → ∀ ls : Array Slot, lv_has ls 8 [(5, .int v16), (0, .ref a0), (1, .int 3), (2, .int p2), (3, .int p3), (4, .int p4)] → W p l e ({ frames := 5, cells := 0, slots := 0, locals := 280 }) s m args below meth c H locs 0 0 (MQ below (tv D cy ld t [] (fun H => True) (tk_w t [(4, 0, 0), (20, 0, 0), (22, 0, 0)])) args s 0 0 (tk_w t [(4, 0, 0), (20, 0, 0), (22, 0, 0)])) (F0 m 182 ls []) := by
            intro H locs hG hS hf601 ls hl
            obtain ⟨v646, h_v646, e_v646⟩ := tk_inc v16 1 (by decide) (by omega) (by omega)
            refine lv_iinc (v := v646) (lv' := [(5, .int v646), (0, .ref a0), (1, .int 3), (2, .int p2), (3, .int p3), (4, .int p4)]) hx hb dX3_joinMore_182 hl (k := 0) rfl e_v646 (by decide) rfl (fun ls hl => ?_)
            refine lv_goto (tgt := 45) hx hb dX3_joinMore_185 (by decide) ?_
            exact ih_l599 v646 _ _ (by omega) (by omega) (by omega) hG hS _ (lv_sub hl [0, 1, 2, 3, 4, 5] rfl)
          refine lv_if_ne (tgt := 182) hx hb dX3_joinMore_63 (by decide) (fun c9 => ?_) (fun c9 => ?_)
          · have hc606 : ¬ (v605.toInt = 0) := fun h9 => c9 ((fi_eq rfl (show (0 : Int32).toInt = 0 by decide)).mpr h9)
            exact hj645 _ _ hG hS hf601 _ (lv_sub hl [0, 1, 2, 3, 4, 5] rfl)
          · have hc606 : v605.toInt = 0 := (fi_eq rfl (show (0 : Int32).toInt = 0 by decide)).mp c9
            refine lv_aload_n hx hb dX3_joinMore_66 rfl (lv_at hl 1 rfl) ?_
            refine tk_get (ci := 3) (C := RX3) (T := TX3) (N := 5) (sp := (8, 20, 3, 0)) hx hb htl inX3 hown hK hG ht_a0 (by decide) tk_no rfl 0 (by decide) (htl _ mw_175) (fun _ h9 => h9) rfl dX3_joinMore_67 (fun v9 hf647 hV9 => ?_)
            obtain ⟨rfl, ht_ld20⟩ := hV9
            have ht_ld20 : t (ld 20) = (3, 0, 0) := ht_ld20
            refine fx_top (v := .ref (ld 20)) rfl ?_
            refine tk_get (ci := 2) (C := RX2) (T := TX2) (N := 20) (sp := (11, 120, 37, 10)) hx hb htl inX2 hown hK hG ht_ld20 (by decide) tk_no rfl 10 (by decide) (htl _ mw_1463) (fun _ h9 => h9) rfl dX3_joinMore_70 (fun v9 hf648 hV9 => ?_)
            obtain ⟨rfl, ht_ld120⟩ := hV9
            have ht_ld120 : t (ld 120) = (37, 10, 0) := ht_ld120
            refine fx_top (v := .ref (ld 120)) rfl ?_
            refine lv_iload hx hb dX3_joinMore_73 (lv_at hl 0 rfl) ?_
            refine tk_iald hx hb hK hG ht_ld120 (by decide) (fun _ h => h) tk_no rfl (by omega) (by omega) dX3_joinMore_75 (fun v649 _ _ => ?_)
            have hr_v649 := tk_rng v649
            refine lv_iload hx hb dX3_joinMore_76 (lv_at hl 5 rfl) ?_
            refine lv_icmp_gt (tgt := 182) hx hb dX3_joinMore_78 (by decide) (fun c9 => ?_) (fun c9 => ?_)
            · have hc650 : p4.toInt < v649.toInt := (fi_lt rfl rfl).mp c9
              exact hj645 _ _ hG hS hf601 _ (lv_sub hl [0, 1, 2, 3, 4, 5] rfl)
            · have hc650 : ¬ (p4.toInt < v649.toInt) := fun h9 => c9 ((fi_lt rfl rfl).mpr h9)
              refine lv_iload_n hx hb dX3_joinMore_81 rfl (lv_at hl 2 rfl) ?_
              refine lv_if_le (tgt := 118) hx hb dX3_joinMore_82 (by decide) (fun c9 => absurd c9 (by decide)) (fun _ => ?_)
              refine lv_aload_n hx hb dX3_joinMore_85 rfl (lv_at hl 1 rfl) ?_
              refine tk_get (ci := 3) (C := RX3) (T := TX3) (N := 5) (sp := (8, 20, 3, 0)) hx hb htl inX3 hown hK hG ht_a0 (by decide) tk_no rfl 0 (by decide) (htl _ mw_175) (fun _ h9 => h9) rfl dX3_joinMore_86 (fun v9 hf651 hV9 => ?_)
              obtain ⟨rfl, ht_ld20⟩ := hV9
              have ht_ld20 : t (ld 20) = (3, 0, 0) := ht_ld20
              refine fx_top (v := .ref (ld 20)) rfl ?_
              refine tk_get (ci := 2) (C := RX2) (T := TX2) (N := 20) (sp := (11, 110, 36, 10)) hx hb htl inX2 hown hK hG ht_ld20 (by decide) tk_no rfl 9 (by decide) (htl _ mw_1464) (fun _ h9 => h9) rfl dX3_joinMore_89 (fun v9 hf652 hV9 => ?_)
              obtain ⟨rfl, ht_ld110⟩ := hV9
              have ht_ld110 : t (ld 110) = (36, 10, 0) := ht_ld110
              refine fx_top (v := .ref (ld 110)) rfl ?_
              refine lv_aload_n hx hb dX3_joinMore_92 rfl (lv_at hl 1 rfl) ?_
              refine tk_get (ci := 3) (C := RX3) (T := TX3) (N := 5) (sp := (6, 22, 4, 0)) hx hb htl inX3 hown hK hG ht_a0 (by decide) tk_no rfl 1 (by decide) (htl _ mw_173) (fun _ h9 => h9) rfl dX3_joinMore_93 (fun v9 hf653 hV9 => ?_)
              obtain ⟨b654, rfl, ht_b654⟩ := hV9
              have ht_b654 : t b654 = (22, 4, 0) := ht_b654
              refine lv_iload_n hx hb dX3_joinMore_96 rfl (lv_at hl 2 rfl) ?_
              refine lv_iconst (v := 1) hx hb dX3_joinMore_97 (by decide) ?_
              refine lv_isub hx hb dX3_joinMore_98 ?_
              refine fx_ti (v := 2) (by decide) ?_
              refine tk_iald hx hb hK hG ht_b654 (by decide) (fun _ h => h) tk_no (I := 2) (by decide) (by decide) (by decide) dX3_joinMore_99 (fun v655 hE9 _ => ?_)
              have he_v655 : 0 ≤ v655.toInt ∧ v655.toInt ≤ 9 := hE9
              refine tk_iald hx hb hK hG ht_ld110 (by decide) (fun _ h => h) tk_no rfl (by omega) (by omega) dX3_joinMore_100 (fun v656 _ _ => ?_)
              have hr_v656 := tk_rng v656
              refine lv_aload_n hx hb dX3_joinMore_101 rfl (lv_at hl 1 rfl) ?_
              refine tk_get (ci := 3) (C := RX3) (T := TX3) (N := 5) (sp := (8, 20, 3, 0)) hx hb htl inX3 hown hK hG ht_a0 (by decide) tk_no rfl 0 (by decide) (htl _ mw_175) (fun _ h9 => h9) rfl dX3_joinMore_102 (fun v9 hf657 hV9 => ?_)
              obtain ⟨rfl, ht_ld20⟩ := hV9
              have ht_ld20 : t (ld 20) = (3, 0, 0) := ht_ld20
              refine fx_top (v := .ref (ld 20)) rfl ?_
              refine tk_get (ci := 2) (C := RX2) (T := TX2) (N := 20) (sp := (11, 110, 36, 10)) hx hb htl inX2 hown hK hG ht_ld20 (by decide) tk_no rfl 9 (by decide) (htl _ mw_1464) (fun _ h9 => h9) rfl dX3_joinMore_105 (fun v9 hf658 hV9 => ?_)
              obtain ⟨rfl, ht_ld110⟩ := hV9
              have ht_ld110 : t (ld 110) = (36, 10, 0) := ht_ld110
              refine fx_top (v := .ref (ld 110)) rfl ?_
              refine lv_iload hx hb dX3_joinMore_108 (lv_at hl 0 rfl) ?_
              refine tk_iald hx hb hK hG ht_ld110 (by decide) (fun _ h => h) tk_no rfl (by omega) (by omega) dX3_joinMore_110 (fun v659 _ _ => ?_)
              have hr_v659 := tk_rng v659
              have hj663 : ∀ (v662 : Int32), 0 ≤ v662.toInt → v662.toInt ≤ 1 → ∀ ls : Array Slot, lv_has ls 8 [(5, .int v16), (0, .ref a0), (1, .int 3), (2, .int p2), (3, .int p3), (4, .int p4)] → W p l e ({ frames := 5, cells := 0, slots := 0, locals := 280 }) s m args below meth c H locs 0 0 (MQ below (tv D cy ld t [] (fun H => True) (tk_w t [(4, 0, 0), (20, 0, 0), (22, 0, 0)])) args s 0 0 (tk_w t [(4, 0, 0), (20, 0, 0), (22, 0, 0)])) (F0 m 119 ls [.int v662]) := by
                intro v662 hq0_j663 hq1_j663 ls hl
                refine lv_istore (lv' := [(6, .int v662), (5, .int v16), (0, .ref a0), (1, .int 3), (2, .int p2), (3, .int p3), (4, .int p4)]) hx hb dX3_joinMore_119 hl (by decide) rfl (fun ls hl => ?_)
                refine lv_aload_n hx hb dX3_joinMore_121 rfl (lv_at hl 2 rfl) ?_
                refine tk_get (ci := 3) (C := RX3) (T := TX3) (N := 5) (sp := (6, 22, 4, 0)) hx hb htl inX3 hown hK hG ht_a0 (by decide) tk_no rfl 1 (by decide) (htl _ mw_173) (fun _ h9 => h9) rfl dX3_joinMore_122 (fun v9 hf664 hV9 => ?_)
                obtain ⟨b665, rfl, ht_b665⟩ := hV9
                have ht_b665 : t b665 = (22, 4, 0) := ht_b665
                refine lv_iload_n hx hb dX3_joinMore_125 rfl (lv_at hl 3 rfl) ?_
                refine lv_iload hx hb dX3_joinMore_126 (lv_at hl 1 rfl) ?_
                refine tk_iast hx hb hK hG hS ht_b665 (by decide) (fun _ => Iff.rfl) tk_no (I := 3) (by decide) (by decide) (by decide) (show 0 ≤ (v16 : Int32).toInt ∧ (v16 : Int32).toInt ≤ 9 from ⟨by omega, by omega⟩) (tk_w.of ht_b665 (by decide) (List.mem_of_getElem? (i := 2) rfl) (Nat.le_refl _) (Nat.le_refl _)) dX3_joinMore_128 (fun H locs hG hS hq9 => ?_)
                have hf601 := hf601.kept (hq9 _ (tk_ne ht_ld20 ht_b665 (Or.inl (by decide))))
                refine lv_iload_n hx hb dX3_joinMore_129 rfl (lv_at hl 5 rfl) ?_
                refine lv_aload_n hx hb dX3_joinMore_130 rfl (lv_at hl 2 rfl) ?_
                refine tk_get (ci := 3) (C := RX3) (T := TX3) (N := 5) (sp := (8, 20, 3, 0)) hx hb htl inX3 hown hK hG ht_a0 (by decide) tk_no rfl 0 (by decide) (htl _ mw_175) (fun _ h9 => h9) rfl dX3_joinMore_131 (fun v9 hf667 hV9 => ?_)
                obtain ⟨rfl, ht_ld20⟩ := hV9
                have ht_ld20 : t (ld 20) = (3, 0, 0) := ht_ld20
                refine fx_top (v := .ref (ld 20)) rfl ?_
                refine tk_get (ci := 2) (C := RX2) (T := TX2) (N := 20) (sp := (11, 100, 35, 10)) hx hb htl inX2 hown hK hG ht_ld20 (by decide) tk_no rfl 8 (by decide) (htl _ mw_1465) (fun _ h9 => h9) rfl dX3_joinMore_134 (fun v9 hf668 hV9 => ?_)
                obtain ⟨rfl, ht_ld100⟩ := hV9
                have ht_ld100 : t (ld 100) = (35, 10, 0) := ht_ld100
                refine fx_top (v := .ref (ld 100)) rfl ?_
                refine lv_iload hx hb dX3_joinMore_137 (lv_at hl 1 rfl) ?_
                refine tk_iald hx hb hK hG ht_ld100 (by decide) (fun _ h => h) tk_no rfl (by omega) (by omega) dX3_joinMore_139 (fun v669 _ _ => ?_)
                have hr_v669 := tk_rng v669
                refine lv_iadd hx hb dX3_joinMore_140 ?_
                obtain ⟨v670, hm_v670⟩ : ∃ z : Int32, p3 + v669 = z := ⟨_, rfl⟩
                refine fx_ti hm_v670 ?_
                refine lv_iload hx hb dX3_joinMore_141 (lv_at hl 0 rfl) ?_
                have hj674 : ∀ (v673 : Int32), v673.toInt ≤ 3 → 0 ≤ (-1) * v662.toInt + v673.toInt → ∀ ls : Array Slot, lv_has ls 8 [(5, .int v16), (0, .ref a0), (1, .int 3), (2, .int p2), (3, .int p3), (4, .int p4)] → W p l e ({ frames := 5, cells := 0, slots := 0, locals := 280 }) s m args below meth c H locs 0 0 (MQ below (tv D cy ld t [] (fun H => True) (tk_w t [(4, 0, 0), (20, 0, 0), (22, 0, 0)])) args s 0 0 (tk_w t [(4, 0, 0), (20, 0, 0), (22, 0, 0)])) (F0 m 151 ls [.int v673, .int v670]) := by
                  intro v673 hq0_j674 hq1_j674 ls hl
                  refine lv_iadd hx hb dX3_joinMore_151 ?_
                  obtain ⟨v675, hm_v675⟩ : ∃ z : Int32, v670 + v673 = z := ⟨_, rfl⟩
                  refine fx_ti hm_v675 ?_
                  refine lv_istore (lv' := [(7, .int v675), (5, .int v16), (0, .ref a0), (1, .int 3), (2, .int p2), (3, .int p3), (4, .int p4)]) hx hb dX3_joinMore_152 hl (by decide) rfl (fun ls hl => ?_)
                  refine lv_aload_n hx hb dX3_joinMore_154 rfl (lv_at hl 2 rfl) ?_
                  refine lv_iload_n hx hb dX3_joinMore_155 rfl (lv_at hl 3 rfl) ?_
                  refine lv_iconst (v := 1) hx hb dX3_joinMore_156 (by decide) ?_
                  refine lv_iadd hx hb dX3_joinMore_157 ?_
                  refine fx_ti (v := 4) (by decide) ?_
                  refine lv_iload_n hx hb dX3_joinMore_158 rfl (lv_at hl 4 rfl) ?_
                  refine lv_iconst (v := 1) hx hb dX3_joinMore_159 (by decide) ?_
                  refine lv_iload hx hb dX3_joinMore_160 (lv_at hl 1 rfl) ?_
                  refine lv_ishl hx hb dX3_joinMore_162 ?_
                  refine tk_say (P := fun z => 1 ≤ z.toInt ∧ z.toInt ≤ 1024) (tk_shl1 v16 (by omega) (by omega)) (fun v676 h_v676 => ?_)
                  refine lv_ior hx hb dX3_joinMore_163 ?_
                  refine tk_any (fun v677 => ?_)
                  refine lv_iload hx hb dX3_joinMore_164 (lv_at hl 0 rfl) ?_
                  refine lv_iload hx hb dX3_joinMore_166 (lv_at hl 6 rfl) ?_
                  refine lv_aload_n hx hb dX3_joinMore_168 rfl (lv_at hl 2 rfl) ?_
                  refine tk_get (ci := 3) (C := RX3) (T := TX3) (N := 5) (sp := (8, 20, 3, 0)) hx hb htl inX3 hown hK hG ht_a0 (by decide) tk_no rfl 0 (by decide) (htl _ mw_175) (fun _ h9 => h9) rfl dX3_joinMore_169 (fun v9 hf678 hV9 => ?_)
                  obtain ⟨rfl, ht_ld20⟩ := hV9
                  have ht_ld20 : t (ld 20) = (3, 0, 0) := ht_ld20
                  refine fx_top (v := .ref (ld 20)) rfl ?_
                  refine tk_get (ci := 2) (C := RX2) (T := TX2) (N := 20) (sp := (11, 120, 37, 10)) hx hb htl inX2 hown hK hG ht_ld20 (by decide) tk_no rfl 10 (by decide) (htl _ mw_1463) (fun _ h9 => h9) rfl dX3_joinMore_172 (fun v9 hf679 hV9 => ?_)
                  obtain ⟨rfl, ht_ld120⟩ := hV9
                  have ht_ld120 : t (ld 120) = (37, 10, 0) := ht_ld120
                  refine fx_top (v := .ref (ld 120)) rfl ?_
                  refine lv_iload hx hb dX3_joinMore_175 (lv_at hl 1 rfl) ?_
                  refine tk_iald hx hb hK hG ht_ld120 (by decide) (fun _ h => h) tk_no rfl (by omega) (by omega) dX3_joinMore_177 (fun v680 _ _ => ?_)
                  have hr_v680 := tk_rng v680
                  refine lv_isub hx hb dX3_joinMore_178 ?_
                  obtain ⟨v681, hm_v681⟩ : ∃ z : Int32, p4 - v680 = z := ⟨_, rfl⟩
                  refine fx_ti hm_v681 ?_
                  have hk_4 : (4 : Int32).toInt = 4 := by decide
                  refine tk_Vv (As := [.int 4, .int v677, .int v675, .int v681]) (rest := []) (ci := 3) ⟨hx, hb, hml, hown, hts⟩ hK hG hZ hS (k_X3_joinMore_4 l D cy ld t a0 v677 v675 v681 ht_a0) trivial ⟨callB_of 4 hts (wl_in mw_1460) rfl rfl rfl (htl _ mw_48) (htl _ mw_1457) hd_yX3_joinMore ⟨(Nat.le_of_ble_eq_true rfl), (Nat.le_of_ble_eq_true rfl)⟩, htl _ mw_1458, htl _ mw_1459⟩ ht_a0 (by decide) tk_no rfl (tk_w.pick [0, 1] rfl) rfl hl.1 rfl (Nat.le_of_ble_eq_true rfl) dX3_joinMore_179 ⟨(Nat.le_of_ble_eq_true rfl), (Nat.le_of_ble_eq_true rfl)⟩ (fun H locs hpo hG hS hq9 => ?_)
                  have hf601 := hf601.call hq9 (tk_w.no ht_ld20 (by decide))
                  exact hj645 _ _ hG hS hf601 _ (lv_sub hl [1, 2, 3, 4, 5, 6] rfl)
                refine lv_if_eq (tgt := 150) hx hb dX3_joinMore_143 (by decide) (fun c9 => ?_) (fun c9 => ?_)
                · have hc671 : v662.toInt = 0 := (fi_eq rfl (show (0 : Int32).toInt = 0 by decide)).mp c9
                  refine lv_iconst (v := 0) hx hb dX3_joinMore_150 (by decide) ?_
                  have hk_0 : (0 : Int32).toInt = 0 := by decide
                  exact hj674 0 (by omega) (by omega) _ (lv_sub hl [1, 2, 3, 4, 5, 6] rfl)
                · have hc671 : ¬ (v662.toInt = 0) := fun h9 => c9 ((fi_eq rfl (show (0 : Int32).toInt = 0 by decide)).mpr h9)
                  refine lv_iconst (v := 3) hx hb dX3_joinMore_146 (by decide) ?_
                  refine lv_goto (tgt := 151) hx hb dX3_joinMore_147 (by decide) ?_
                  have hk_3 : (3 : Int32).toInt = 3 := by decide
                  exact hj674 3 (by omega) (by omega) _ (lv_sub hl [1, 2, 3, 4, 5, 6] rfl)
              refine lv_icmp_ne (tgt := 118) hx hb dX3_joinMore_111 (by decide) (fun c9 => ?_) (fun c9 => ?_)
              · have hc660 : ¬ (v656.toInt = v659.toInt) := fun h9 => c9 ((fi_eq rfl rfl).mpr h9)
                refine lv_iconst (v := 0) hx hb dX3_joinMore_118 (by decide) ?_
                have hk_0 : (0 : Int32).toInt = 0 := by decide
                exact hj663 0 (by omega) (by omega) _ (lv_sub hl [0, 1, 2, 3, 4, 5] rfl)
              · have hc660 : v656.toInt = v659.toInt := (fi_eq rfl rfl).mp c9
                refine lv_iconst (v := 1) hx hb dX3_joinMore_114 (by decide) ?_
                refine lv_goto (tgt := 119) hx hb dX3_joinMore_115 (by decide) ?_
                have hk_1 : (1 : Int32).toInt = 1 := by decide
                exact hj663 1 (by omega) (by omega) _ (lv_sub hl [0, 1, 2, 3, 4, 5] rfl)
    have hk_0 : (0 : Int32).toInt = 0 := by decide
    exact hl599 11 0 _ _ (by omega) (by omega) (by omega) hG hS _ (lv_sub hl [0, 1, 2, 3, 4, 5] rfl)
  refine lv_icmp_le (tgt := 36) hx hb dX3_joinMore_9 (by decide) (fun c9 => ?_) (fun c9 => ?_)
  · have hc3 : p3.toInt ≤ v2.toInt := (fi_le rfl rfl).mp c9
    exact hj15 _ _ hG hS _ (lv_sub hl [0, 1, 2, 3, 4] rfl)
  · have hc3 : ¬ (p3.toInt ≤ v2.toInt) := fun h9 => c9 ((fi_le rfl rfl).mpr h9)
    refine lv_aload_n hx hb dX3_joinMore_12 rfl (lv_at hl 0 rfl) ?_
    refine lv_iload_n hx hb dX3_joinMore_13 rfl (lv_at hl 3 rfl) ?_
    refine tk_put (ci := 3) (v := .int p3) (ty := .int) (C := RX3) (T := TX3) (N := 5) (sp := (0, (-2147483648), 2147483647, 0)) hx hb htl inX3 tyX3 tyX3_ok nmX3 hown hK hG hS ht_a0 (by decide) tk_no rfl 4 (by decide) (htl _ mw_1456) (fun _ h9 => h9) rfl (tyX3_ok 4 (by decide)) rfl rfl rfl (tk_V0 (tk_rng _).1 (tk_rng _).2) (fun _ h => h) (tk_w.of ht_a0 (by decide) (List.mem_of_getElem? (i := 0) rfl) (Nat.le_refl _) (Nat.le_refl _)) dX3_joinMore_14 (fun H locs hG hS hf683 hq9 hj9 => ?_)
    refine lv_aload_n hx hb dX3_joinMore_17 rfl (lv_at hl 0 rfl) ?_
    refine lv_iload_n hx hb dX3_joinMore_18 rfl (lv_at hl 1 rfl) ?_
    refine tk_put (ci := 3) (v := .int 3) (ty := .int) (C := RX3) (T := TX3) (N := 5) (sp := (0, 0, 4, 0)) hx hb htl inX3 tyX3 tyX3_ok nmX3 hown hK hG hS ht_a0 (by decide) tk_no rfl 3 (by decide) (htl _ mw_1455) (fun _ h9 => h9) rfl (tyX3_ok 3 (by decide)) rfl rfl rfl (tk_V0 (by decide) (by decide)) (fun _ h => h) (tk_w.of ht_a0 (by decide) (List.mem_of_getElem? (i := 0) rfl) (Nat.le_refl _) (Nat.le_refl _)) dX3_joinMore_19 (fun H locs hG hS hf685 hq9 hj9 => ?_)
    refine lv_aload_n hx hb dX3_joinMore_22 rfl (lv_at hl 0 rfl) ?_
    refine tk_get (ci := 3) (C := RX3) (T := TX3) (N := 5) (sp := (6, 22, 4, 0)) hx hb htl inX3 hown hK hG ht_a0 (by decide) tk_no rfl 1 (by decide) (htl _ mw_173) (fun _ h9 => h9) rfl dX3_joinMore_23 (fun v9 hf687 hV9 => ?_)
    obtain ⟨b688, rfl, ht_b688⟩ := hV9
    have ht_b688 : t b688 = (22, 4, 0) := ht_b688
    refine lv_iconst (v := 0) hx hb dX3_joinMore_26 (by decide) ?_
    refine lv_aload_n hx hb dX3_joinMore_27 rfl (lv_at hl 0 rfl) ?_
    refine tk_get (ci := 3) (C := RX3) (T := TX3) (N := 5) (sp := (6, 20, 4, 0)) hx hb htl inX3 hown hK hG ht_a0 (by decide) tk_no rfl 2 (by decide) (htl _ mw_174) (fun _ h9 => h9) rfl dX3_joinMore_28 (fun v9 hf689 hV9 => ?_)
    obtain ⟨b690, rfl, ht_b690⟩ := hV9
    have ht_b690 : t b690 = (20, 4, 0) := ht_b690
    refine lv_iconst (v := 0) hx hb dX3_joinMore_31 (by decide) ?_
    refine lv_iconst (v := 4) hx hb dX3_joinMore_32 (by decide) ?_
    refine tk_copy (SP := 0) (DP := 0) (NC := 4) hx hb (by rw [hml]; exact hl.1.symm) hown (htl _ mw_1461) (htl _ mw_655) (htl _ mw_656) (htl _ mw_657) hK hG hS ht_b688 ht_b690 (by decide) (by decide) (fun _ h => h) (fun _ => Iff.rfl) tk_no tk_no (show (0 : Int32).toInt = 0 by decide) (show (0 : Int32).toInt = 0 by decide) (show (4 : Int32).toInt = 4 by decide) (by decide) (by decide) (by decide) (by decide) (by decide) (fun _ _ _ _ _ => trivial) (tk_w.of ht_b690 (by decide) (List.mem_of_getElem? (i := 1) rfl) (Nat.le_refl _) (Nat.le_refl _)) (Nat.le_of_ble_eq_true rfl) (Nat.le_of_ble_eq_true rfl) dX3_joinMore_33 (fun H locs hG hS hq9 => ?_)
    exact hj15 _ _ hG hS _ (lv_sub hl [0, 1, 2, 3, 4] rfl)
set_option maxHeartbeats 4000000 in
set_option maxRecDepth 100000 in
theorem k_X3_joinMore_2 (l : Launch) (D : va_G) (cy : Nat → ClassId) (ld : Nat → Nat) (t : tk_T) (a0 : Nat) (p2 : Int32) (p3 : Int32) (p4 : Int32) (ht_a0 : t a0 = (4, 0, 0)) : Met l yX3_joinMore (wl yX3_joinMore cX3_joinMore 8 none) ({ frames := 6, cells := 0, slots := 0, locals := 350 }) (tp D cy ld t [] [.ref a0, .int 2, .int p2, .int p3, .int p4] (fun H => True)) (tv D cy ld t [] (fun H => True) (tk_w t [(4, 0, 0), (20, 0, 0), (22, 0, 0)])) 0 0 (tk_w t [(4, 0, 0), (20, 0, 0), (22, 0, 0)]) := by
  refine tk_met (y := yX3_joinMore) (cc := cX3_joinMore) (maxL := 8) (ret := none) (av := [.ref a0, .int 2, .int p2, .int p3, .int p4]) _ _ (by decide) (Nat.le_of_ble_eq_true rfl) ?_
  intro p e s m args below meth c hx hb hr hml hts htl hown hlocks hK H locs hH hG hS hB hZ ls hl
  have hown : s.vm.findClass RX3 = some m.cls := hown
  have hl : lv_has ls 8 [(0, .ref a0), (1, .int 2), (2, .int p2), (3, .int p3), (4, .int p4)] := hl
  have hr_p2 := tk_rng p2
  have hr_p3 := tk_rng p3
  have hr_p4 := tk_rng p4
  refine lv_iload_n hx hb dX3_joinMore_0 rfl (lv_at hl 1 rfl) ?_
  refine lv_if_le (tgt := 36) hx hb dX3_joinMore_1 (by decide) (fun c9 => absurd c9 (by decide)) (fun _ => ?_)
  refine lv_iload_n hx hb dX3_joinMore_4 rfl (lv_at hl 3 rfl) ?_
  refine lv_aload_n hx hb dX3_joinMore_5 rfl (lv_at hl 0 rfl) ?_
  refine tk_get (ci := 3) (C := RX3) (T := TX3) (N := 5) (sp := (0, (-2147483648), 2147483647, 0)) hx hb htl inX3 hown hK hG ht_a0 (by decide) tk_no rfl 4 (by decide) (htl _ mw_1456) (fun _ h9 => h9) rfl dX3_joinMore_6 (fun v9 hf1 hV9 => ?_)
  obtain ⟨v2, rfl, (ha_v2 : (-2147483648) ≤ v2.toInt), (hb_v2 : v2.toInt ≤ 2147483647)⟩ := hV9
  have hj15 : ∀ (H : Heap) (locs : List Loc), tk_G D cy ld t [] H → va_S (tk_w t [(4, 0, 0), (20, 0, 0), (22, 0, 0)]) s.heap H locs → ∀ ls : Array Slot, lv_has ls 8 [(0, .ref a0), (1, .int 2), (2, .int p2), (3, .int p3), (4, .int p4)] → W p l e ({ frames := 6, cells := 0, slots := 0, locals := 350 }) s m args below meth c H locs 0 0 (MQ below (tv D cy ld t [] (fun H => True) (tk_w t [(4, 0, 0), (20, 0, 0), (22, 0, 0)])) args s 0 0 (tk_w t [(4, 0, 0), (20, 0, 0), (22, 0, 0)])) (F0 m 36 ls []) := by
    intro H locs hG hS ls hl
    refine lv_iload_n hx hb dX3_joinMore_36 rfl (lv_at hl 1 rfl) ?_
    refine lv_iconst (v := 4) hx hb dX3_joinMore_37 (by decide) ?_
    refine lv_icmp_lt (tgt := 42) hx hb dX3_joinMore_38 (by decide) (fun _ => ?_) (fun c9 => absurd (by decide) c9)
    refine lv_iconst (v := 0) hx hb dX3_joinMore_42 (by decide) ?_
    refine lv_istore (lv' := [(5, .int 0), (0, .ref a0), (1, .int 2), (2, .int p2), (3, .int p3), (4, .int p4)]) hx hb dX3_joinMore_43 hl (by decide) rfl (fun ls hl => ?_)
    have hl599 : ∀ (N_l599 : Nat) (v16 : Int32) (H : Heap) (locs : List Loc), v16.toInt ≤ 10 → 0 ≤ v16.toInt → (-1) * v16.toInt + 10 < (N_l599 : Int) → tk_G D cy ld t [] H → va_S (tk_w t [(4, 0, 0), (20, 0, 0), (22, 0, 0)]) s.heap H locs → ∀ ls : Array Slot, lv_has ls 8 [(5, .int v16), (0, .ref a0), (1, .int 2), (2, .int p2), (3, .int p3), (4, .int p4)] → W p l e ({ frames := 6, cells := 0, slots := 0, locals := 350 }) s m args below meth c H locs 0 0 (MQ below (tv D cy ld t [] (fun H => True) (tk_w t [(4, 0, 0), (20, 0, 0), (22, 0, 0)])) args s 0 0 (tk_w t [(4, 0, 0), (20, 0, 0), (22, 0, 0)])) (F0 m 45 ls []) := by
      intro N_l599
      induction N_l599 with
      | zero => intro v16 H locs hq0_l599 hq1_l599 hm_l599 hG hS ls hl; exfalso; omega
      | succ N_l599 ih_l599 =>
        intro v16 H locs hq0_l599 hq1_l599 hm_l599 hG hS ls hl
        refine lv_iload hx hb dX3_joinMore_45 (lv_at hl 0 rfl) ?_
        refine lv_aload_n hx hb dX3_joinMore_47 rfl (lv_at hl 1 rfl) ?_
        refine tk_get (ci := 3) (C := RX3) (T := TX3) (N := 5) (sp := (8, 20, 3, 0)) hx hb htl inX3 hown hK hG ht_a0 (by decide) tk_no rfl 0 (by decide) (htl _ mw_175) (fun _ h9 => h9) rfl dX3_joinMore_48 (fun v9 hf600 hV9 => ?_)
        obtain ⟨rfl, ht_ld20⟩ := hV9
        have ht_ld20 : t (ld 20) = (3, 0, 0) := ht_ld20
        refine fx_top (v := .ref (ld 20)) rfl ?_
        refine tk_get (ci := 2) (C := RX2) (T := TX2) (N := 20) (sp := (0, 0, 10, 0)) hx hb htl inX2 hown hK hG ht_ld20 (by decide) tk_no rfl 7 (by decide) (htl _ mw_1462) (fun _ h9 => h9) rfl dX3_joinMore_51 (fun v9 hf601 hV9 => ?_)
        obtain ⟨v602, rfl, (ha_v602 : 0 ≤ v602.toInt), (hb_v602 : v602.toInt ≤ 10)⟩ := hV9
        refine lv_icmp_ge (tgt := 188) hx hb dX3_joinMore_54 (by decide) (fun c9 => ?_) (fun c9 => ?_)
        · have hc603 : v602.toInt ≤ v16.toInt := (fi_le rfl rfl).mp c9
          exact tk_vret hx hb hr hlocks trivial hG hS dX3_joinMore_188
        · have hc603 : ¬ (v602.toInt ≤ v16.toInt) := fun h9 => c9 ((fi_le rfl rfl).mpr h9)
          refine lv_iload_n hx hb dX3_joinMore_57 rfl (lv_at hl 3 rfl) ?_
          refine lv_iload hx hb dX3_joinMore_58 (lv_at hl 0 rfl) ?_
          refine lv_ishr hx hb dX3_joinMore_60 ?_
          refine tk_any (fun v604 => ?_)
          refine lv_iconst (v := 1) hx hb dX3_joinMore_61 (by decide) ?_
          refine lv_iand hx hb dX3_joinMore_62 ?_
          refine tk_say (P := fun z => 0 ≤ z.toInt ∧ z.toInt ≤ 1) (tk_and v604 1 (by decide) (by decide)) (fun v605 h_v605 => ?_)
          have hj645 : ∀ (H : Heap) (locs : List Loc), tk_G D cy ld t [] H → va_S (tk_w t [(4, 0, 0), (20, 0, 0), (22, 0, 0)]) s.heap H locs → tk_f D H (ld 20) 2 7 (.int v602) → ∀ ls : Array Slot, lv_has ls 8 [(5, .int v16), (0, .ref a0), (1, .int 2), (2, .int p2), (3, .int p3), (4, .int p4)] → W p l e ({ frames := 6, cells := 0, slots := 0, locals := 350 }) s m args below meth c H locs 0 0 (MQ below (tv D cy ld t [] (fun H => True) (tk_w t [(4, 0, 0), (20, 0, 0), (22, 0, 0)])) args s 0 0 (tk_w t [(4, 0, 0), (20, 0, 0), (22, 0, 0)])) (F0 m 182 ls []) := by
            intro H locs hG hS hf601 ls hl
            obtain ⟨v646, h_v646, e_v646⟩ := tk_inc v16 1 (by decide) (by omega) (by omega)
            refine lv_iinc (v := v646) (lv' := [(5, .int v646), (0, .ref a0), (1, .int 2), (2, .int p2), (3, .int p3), (4, .int p4)]) hx hb dX3_joinMore_182 hl (k := 0) rfl e_v646 (by decide) rfl (fun ls hl => ?_)
            refine lv_goto (tgt := 45) hx hb dX3_joinMore_185 (by decide) ?_
            exact ih_l599 v646 _ _ (by omega) (by omega) (by omega) hG hS _ (lv_sub hl [0, 1, 2, 3, 4, 5] rfl)
          refine lv_if_ne (tgt := 182) hx hb dX3_joinMore_63 (by decide) (fun c9 => ?_) (fun c9 => ?_)
          · have hc606 : ¬ (v605.toInt = 0) := fun h9 => c9 ((fi_eq rfl (show (0 : Int32).toInt = 0 by decide)).mpr h9)
            exact hj645 _ _ hG hS hf601 _ (lv_sub hl [0, 1, 2, 3, 4, 5] rfl)
          · have hc606 : v605.toInt = 0 := (fi_eq rfl (show (0 : Int32).toInt = 0 by decide)).mp c9
            refine lv_aload_n hx hb dX3_joinMore_66 rfl (lv_at hl 1 rfl) ?_
            refine tk_get (ci := 3) (C := RX3) (T := TX3) (N := 5) (sp := (8, 20, 3, 0)) hx hb htl inX3 hown hK hG ht_a0 (by decide) tk_no rfl 0 (by decide) (htl _ mw_175) (fun _ h9 => h9) rfl dX3_joinMore_67 (fun v9 hf647 hV9 => ?_)
            obtain ⟨rfl, ht_ld20⟩ := hV9
            have ht_ld20 : t (ld 20) = (3, 0, 0) := ht_ld20
            refine fx_top (v := .ref (ld 20)) rfl ?_
            refine tk_get (ci := 2) (C := RX2) (T := TX2) (N := 20) (sp := (11, 120, 37, 10)) hx hb htl inX2 hown hK hG ht_ld20 (by decide) tk_no rfl 10 (by decide) (htl _ mw_1463) (fun _ h9 => h9) rfl dX3_joinMore_70 (fun v9 hf648 hV9 => ?_)
            obtain ⟨rfl, ht_ld120⟩ := hV9
            have ht_ld120 : t (ld 120) = (37, 10, 0) := ht_ld120
            refine fx_top (v := .ref (ld 120)) rfl ?_
            refine lv_iload hx hb dX3_joinMore_73 (lv_at hl 0 rfl) ?_
            refine tk_iald hx hb hK hG ht_ld120 (by decide) (fun _ h => h) tk_no rfl (by omega) (by omega) dX3_joinMore_75 (fun v649 _ _ => ?_)
            have hr_v649 := tk_rng v649
            refine lv_iload hx hb dX3_joinMore_76 (lv_at hl 5 rfl) ?_
            refine lv_icmp_gt (tgt := 182) hx hb dX3_joinMore_78 (by decide) (fun c9 => ?_) (fun c9 => ?_)
            · have hc650 : p4.toInt < v649.toInt := (fi_lt rfl rfl).mp c9
              exact hj645 _ _ hG hS hf601 _ (lv_sub hl [0, 1, 2, 3, 4, 5] rfl)
            · have hc650 : ¬ (p4.toInt < v649.toInt) := fun h9 => c9 ((fi_lt rfl rfl).mpr h9)
              refine lv_iload_n hx hb dX3_joinMore_81 rfl (lv_at hl 2 rfl) ?_
              refine lv_if_le (tgt := 118) hx hb dX3_joinMore_82 (by decide) (fun c9 => absurd c9 (by decide)) (fun _ => ?_)
              refine lv_aload_n hx hb dX3_joinMore_85 rfl (lv_at hl 1 rfl) ?_
              refine tk_get (ci := 3) (C := RX3) (T := TX3) (N := 5) (sp := (8, 20, 3, 0)) hx hb htl inX3 hown hK hG ht_a0 (by decide) tk_no rfl 0 (by decide) (htl _ mw_175) (fun _ h9 => h9) rfl dX3_joinMore_86 (fun v9 hf651 hV9 => ?_)
              obtain ⟨rfl, ht_ld20⟩ := hV9
              have ht_ld20 : t (ld 20) = (3, 0, 0) := ht_ld20
              refine fx_top (v := .ref (ld 20)) rfl ?_
              refine tk_get (ci := 2) (C := RX2) (T := TX2) (N := 20) (sp := (11, 110, 36, 10)) hx hb htl inX2 hown hK hG ht_ld20 (by decide) tk_no rfl 9 (by decide) (htl _ mw_1464) (fun _ h9 => h9) rfl dX3_joinMore_89 (fun v9 hf652 hV9 => ?_)
              obtain ⟨rfl, ht_ld110⟩ := hV9
              have ht_ld110 : t (ld 110) = (36, 10, 0) := ht_ld110
              refine fx_top (v := .ref (ld 110)) rfl ?_
              refine lv_aload_n hx hb dX3_joinMore_92 rfl (lv_at hl 1 rfl) ?_
              refine tk_get (ci := 3) (C := RX3) (T := TX3) (N := 5) (sp := (6, 22, 4, 0)) hx hb htl inX3 hown hK hG ht_a0 (by decide) tk_no rfl 1 (by decide) (htl _ mw_173) (fun _ h9 => h9) rfl dX3_joinMore_93 (fun v9 hf653 hV9 => ?_)
              obtain ⟨b654, rfl, ht_b654⟩ := hV9
              have ht_b654 : t b654 = (22, 4, 0) := ht_b654
              refine lv_iload_n hx hb dX3_joinMore_96 rfl (lv_at hl 2 rfl) ?_
              refine lv_iconst (v := 1) hx hb dX3_joinMore_97 (by decide) ?_
              refine lv_isub hx hb dX3_joinMore_98 ?_
              refine fx_ti (v := 1) (by decide) ?_
              refine tk_iald hx hb hK hG ht_b654 (by decide) (fun _ h => h) tk_no (I := 1) (by decide) (by decide) (by decide) dX3_joinMore_99 (fun v655 hE9 _ => ?_)
              have he_v655 : 0 ≤ v655.toInt ∧ v655.toInt ≤ 9 := hE9
              refine tk_iald hx hb hK hG ht_ld110 (by decide) (fun _ h => h) tk_no rfl (by omega) (by omega) dX3_joinMore_100 (fun v656 _ _ => ?_)
              have hr_v656 := tk_rng v656
              refine lv_aload_n hx hb dX3_joinMore_101 rfl (lv_at hl 1 rfl) ?_
              refine tk_get (ci := 3) (C := RX3) (T := TX3) (N := 5) (sp := (8, 20, 3, 0)) hx hb htl inX3 hown hK hG ht_a0 (by decide) tk_no rfl 0 (by decide) (htl _ mw_175) (fun _ h9 => h9) rfl dX3_joinMore_102 (fun v9 hf657 hV9 => ?_)
              obtain ⟨rfl, ht_ld20⟩ := hV9
              have ht_ld20 : t (ld 20) = (3, 0, 0) := ht_ld20
              refine fx_top (v := .ref (ld 20)) rfl ?_
              refine tk_get (ci := 2) (C := RX2) (T := TX2) (N := 20) (sp := (11, 110, 36, 10)) hx hb htl inX2 hown hK hG ht_ld20 (by decide) tk_no rfl 9 (by decide) (htl _ mw_1464) (fun _ h9 => h9) rfl dX3_joinMore_105 (fun v9 hf658 hV9 => ?_)
              obtain ⟨rfl, ht_ld110⟩ := hV9
              have ht_ld110 : t (ld 110) = (36, 10, 0) := ht_ld110
              refine fx_top (v := .ref (ld 110)) rfl ?_
              refine lv_iload hx hb dX3_joinMore_108 (lv_at hl 0 rfl) ?_
              refine tk_iald hx hb hK hG ht_ld110 (by decide) (fun _ h => h) tk_no rfl (by omega) (by omega) dX3_joinMore_110 (fun v659 _ _ => ?_)
              have hr_v659 := tk_rng v659
              have hj663 : ∀ (v662 : Int32), 0 ≤ v662.toInt → v662.toInt ≤ 1 → ∀ ls : Array Slot, lv_has ls 8 [(5, .int v16), (0, .ref a0), (1, .int 2), (2, .int p2), (3, .int p3), (4, .int p4)] → W p l e ({ frames := 6, cells := 0, slots := 0, locals := 350 }) s m args below meth c H locs 0 0 (MQ below (tv D cy ld t [] (fun H => True) (tk_w t [(4, 0, 0), (20, 0, 0), (22, 0, 0)])) args s 0 0 (tk_w t [(4, 0, 0), (20, 0, 0), (22, 0, 0)])) (F0 m 119 ls [.int v662]) := by
                intro v662 hq0_j663 hq1_j663 ls hl
                refine lv_istore (lv' := [(6, .int v662), (5, .int v16), (0, .ref a0), (1, .int 2), (2, .int p2), (3, .int p3), (4, .int p4)]) hx hb dX3_joinMore_119 hl (by decide) rfl (fun ls hl => ?_)
                refine lv_aload_n hx hb dX3_joinMore_121 rfl (lv_at hl 2 rfl) ?_
                refine tk_get (ci := 3) (C := RX3) (T := TX3) (N := 5) (sp := (6, 22, 4, 0)) hx hb htl inX3 hown hK hG ht_a0 (by decide) tk_no rfl 1 (by decide) (htl _ mw_173) (fun _ h9 => h9) rfl dX3_joinMore_122 (fun v9 hf664 hV9 => ?_)
                obtain ⟨b665, rfl, ht_b665⟩ := hV9
                have ht_b665 : t b665 = (22, 4, 0) := ht_b665
                refine lv_iload_n hx hb dX3_joinMore_125 rfl (lv_at hl 3 rfl) ?_
                refine lv_iload hx hb dX3_joinMore_126 (lv_at hl 1 rfl) ?_
                refine tk_iast hx hb hK hG hS ht_b665 (by decide) (fun _ => Iff.rfl) tk_no (I := 2) (by decide) (by decide) (by decide) (show 0 ≤ (v16 : Int32).toInt ∧ (v16 : Int32).toInt ≤ 9 from ⟨by omega, by omega⟩) (tk_w.of ht_b665 (by decide) (List.mem_of_getElem? (i := 2) rfl) (Nat.le_refl _) (Nat.le_refl _)) dX3_joinMore_128 (fun H locs hG hS hq9 => ?_)
                have hf601 := hf601.kept (hq9 _ (tk_ne ht_ld20 ht_b665 (Or.inl (by decide))))
                refine lv_iload_n hx hb dX3_joinMore_129 rfl (lv_at hl 5 rfl) ?_
                refine lv_aload_n hx hb dX3_joinMore_130 rfl (lv_at hl 2 rfl) ?_
                refine tk_get (ci := 3) (C := RX3) (T := TX3) (N := 5) (sp := (8, 20, 3, 0)) hx hb htl inX3 hown hK hG ht_a0 (by decide) tk_no rfl 0 (by decide) (htl _ mw_175) (fun _ h9 => h9) rfl dX3_joinMore_131 (fun v9 hf667 hV9 => ?_)
                obtain ⟨rfl, ht_ld20⟩ := hV9
                have ht_ld20 : t (ld 20) = (3, 0, 0) := ht_ld20
                refine fx_top (v := .ref (ld 20)) rfl ?_
                refine tk_get (ci := 2) (C := RX2) (T := TX2) (N := 20) (sp := (11, 100, 35, 10)) hx hb htl inX2 hown hK hG ht_ld20 (by decide) tk_no rfl 8 (by decide) (htl _ mw_1465) (fun _ h9 => h9) rfl dX3_joinMore_134 (fun v9 hf668 hV9 => ?_)
                obtain ⟨rfl, ht_ld100⟩ := hV9
                have ht_ld100 : t (ld 100) = (35, 10, 0) := ht_ld100
                refine fx_top (v := .ref (ld 100)) rfl ?_
                refine lv_iload hx hb dX3_joinMore_137 (lv_at hl 1 rfl) ?_
                refine tk_iald hx hb hK hG ht_ld100 (by decide) (fun _ h => h) tk_no rfl (by omega) (by omega) dX3_joinMore_139 (fun v669 _ _ => ?_)
                have hr_v669 := tk_rng v669
                refine lv_iadd hx hb dX3_joinMore_140 ?_
                obtain ⟨v670, hm_v670⟩ : ∃ z : Int32, p3 + v669 = z := ⟨_, rfl⟩
                refine fx_ti hm_v670 ?_
                refine lv_iload hx hb dX3_joinMore_141 (lv_at hl 0 rfl) ?_
                have hj674 : ∀ (v673 : Int32), v673.toInt ≤ 3 → 0 ≤ (-1) * v662.toInt + v673.toInt → ∀ ls : Array Slot, lv_has ls 8 [(5, .int v16), (0, .ref a0), (1, .int 2), (2, .int p2), (3, .int p3), (4, .int p4)] → W p l e ({ frames := 6, cells := 0, slots := 0, locals := 350 }) s m args below meth c H locs 0 0 (MQ below (tv D cy ld t [] (fun H => True) (tk_w t [(4, 0, 0), (20, 0, 0), (22, 0, 0)])) args s 0 0 (tk_w t [(4, 0, 0), (20, 0, 0), (22, 0, 0)])) (F0 m 151 ls [.int v673, .int v670]) := by
                  intro v673 hq0_j674 hq1_j674 ls hl
                  refine lv_iadd hx hb dX3_joinMore_151 ?_
                  obtain ⟨v675, hm_v675⟩ : ∃ z : Int32, v670 + v673 = z := ⟨_, rfl⟩
                  refine fx_ti hm_v675 ?_
                  refine lv_istore (lv' := [(7, .int v675), (5, .int v16), (0, .ref a0), (1, .int 2), (2, .int p2), (3, .int p3), (4, .int p4)]) hx hb dX3_joinMore_152 hl (by decide) rfl (fun ls hl => ?_)
                  refine lv_aload_n hx hb dX3_joinMore_154 rfl (lv_at hl 2 rfl) ?_
                  refine lv_iload_n hx hb dX3_joinMore_155 rfl (lv_at hl 3 rfl) ?_
                  refine lv_iconst (v := 1) hx hb dX3_joinMore_156 (by decide) ?_
                  refine lv_iadd hx hb dX3_joinMore_157 ?_
                  refine fx_ti (v := 3) (by decide) ?_
                  refine lv_iload_n hx hb dX3_joinMore_158 rfl (lv_at hl 4 rfl) ?_
                  refine lv_iconst (v := 1) hx hb dX3_joinMore_159 (by decide) ?_
                  refine lv_iload hx hb dX3_joinMore_160 (lv_at hl 1 rfl) ?_
                  refine lv_ishl hx hb dX3_joinMore_162 ?_
                  refine tk_say (P := fun z => 1 ≤ z.toInt ∧ z.toInt ≤ 1024) (tk_shl1 v16 (by omega) (by omega)) (fun v676 h_v676 => ?_)
                  refine lv_ior hx hb dX3_joinMore_163 ?_
                  refine tk_any (fun v677 => ?_)
                  refine lv_iload hx hb dX3_joinMore_164 (lv_at hl 0 rfl) ?_
                  refine lv_iload hx hb dX3_joinMore_166 (lv_at hl 6 rfl) ?_
                  refine lv_aload_n hx hb dX3_joinMore_168 rfl (lv_at hl 2 rfl) ?_
                  refine tk_get (ci := 3) (C := RX3) (T := TX3) (N := 5) (sp := (8, 20, 3, 0)) hx hb htl inX3 hown hK hG ht_a0 (by decide) tk_no rfl 0 (by decide) (htl _ mw_175) (fun _ h9 => h9) rfl dX3_joinMore_169 (fun v9 hf678 hV9 => ?_)
                  obtain ⟨rfl, ht_ld20⟩ := hV9
                  have ht_ld20 : t (ld 20) = (3, 0, 0) := ht_ld20
                  refine fx_top (v := .ref (ld 20)) rfl ?_
                  refine tk_get (ci := 2) (C := RX2) (T := TX2) (N := 20) (sp := (11, 120, 37, 10)) hx hb htl inX2 hown hK hG ht_ld20 (by decide) tk_no rfl 10 (by decide) (htl _ mw_1463) (fun _ h9 => h9) rfl dX3_joinMore_172 (fun v9 hf679 hV9 => ?_)
                  obtain ⟨rfl, ht_ld120⟩ := hV9
                  have ht_ld120 : t (ld 120) = (37, 10, 0) := ht_ld120
                  refine fx_top (v := .ref (ld 120)) rfl ?_
                  refine lv_iload hx hb dX3_joinMore_175 (lv_at hl 1 rfl) ?_
                  refine tk_iald hx hb hK hG ht_ld120 (by decide) (fun _ h => h) tk_no rfl (by omega) (by omega) dX3_joinMore_177 (fun v680 _ _ => ?_)
                  have hr_v680 := tk_rng v680
                  refine lv_isub hx hb dX3_joinMore_178 ?_
                  obtain ⟨v681, hm_v681⟩ : ∃ z : Int32, p4 - v680 = z := ⟨_, rfl⟩
                  refine fx_ti hm_v681 ?_
                  have hk_3 : (3 : Int32).toInt = 3 := by decide
                  refine tk_Vv (As := [.int 3, .int v677, .int v675, .int v681]) (rest := []) (ci := 3) ⟨hx, hb, hml, hown, hts⟩ hK hG hZ hS (k_X3_joinMore_3 l D cy ld t a0 v677 v675 v681 ht_a0) trivial ⟨callB_of 4 hts (wl_in mw_1460) rfl rfl rfl (htl _ mw_48) (htl _ mw_1457) hd_yX3_joinMore ⟨(Nat.le_of_ble_eq_true rfl), (Nat.le_of_ble_eq_true rfl)⟩, htl _ mw_1458, htl _ mw_1459⟩ ht_a0 (by decide) tk_no rfl (tk_w.pick [0, 1, 2] rfl) rfl hl.1 rfl (Nat.le_of_ble_eq_true rfl) dX3_joinMore_179 ⟨(Nat.le_of_ble_eq_true rfl), (Nat.le_of_ble_eq_true rfl)⟩ (fun H locs hpo hG hS hq9 => ?_)
                  have hf601 := hf601.call hq9 (tk_w.no ht_ld20 (by decide))
                  exact hj645 _ _ hG hS hf601 _ (lv_sub hl [1, 2, 3, 4, 5, 6] rfl)
                refine lv_if_eq (tgt := 150) hx hb dX3_joinMore_143 (by decide) (fun c9 => ?_) (fun c9 => ?_)
                · have hc671 : v662.toInt = 0 := (fi_eq rfl (show (0 : Int32).toInt = 0 by decide)).mp c9
                  refine lv_iconst (v := 0) hx hb dX3_joinMore_150 (by decide) ?_
                  have hk_0 : (0 : Int32).toInt = 0 := by decide
                  exact hj674 0 (by omega) (by omega) _ (lv_sub hl [1, 2, 3, 4, 5, 6] rfl)
                · have hc671 : ¬ (v662.toInt = 0) := fun h9 => c9 ((fi_eq rfl (show (0 : Int32).toInt = 0 by decide)).mpr h9)
                  refine lv_iconst (v := 3) hx hb dX3_joinMore_146 (by decide) ?_
                  refine lv_goto (tgt := 151) hx hb dX3_joinMore_147 (by decide) ?_
                  have hk_3 : (3 : Int32).toInt = 3 := by decide
                  exact hj674 3 (by omega) (by omega) _ (lv_sub hl [1, 2, 3, 4, 5, 6] rfl)
              refine lv_icmp_ne (tgt := 118) hx hb dX3_joinMore_111 (by decide) (fun c9 => ?_) (fun c9 => ?_)
              · have hc660 : ¬ (v656.toInt = v659.toInt) := fun h9 => c9 ((fi_eq rfl rfl).mpr h9)
                refine lv_iconst (v := 0) hx hb dX3_joinMore_118 (by decide) ?_
                have hk_0 : (0 : Int32).toInt = 0 := by decide
                exact hj663 0 (by omega) (by omega) _ (lv_sub hl [0, 1, 2, 3, 4, 5] rfl)
              · have hc660 : v656.toInt = v659.toInt := (fi_eq rfl rfl).mp c9
                refine lv_iconst (v := 1) hx hb dX3_joinMore_114 (by decide) ?_
                refine lv_goto (tgt := 119) hx hb dX3_joinMore_115 (by decide) ?_
                have hk_1 : (1 : Int32).toInt = 1 := by decide
                exact hj663 1 (by omega) (by omega) _ (lv_sub hl [0, 1, 2, 3, 4, 5] rfl)
    have hk_0 : (0 : Int32).toInt = 0 := by decide
    exact hl599 11 0 _ _ (by omega) (by omega) (by omega) hG hS _ (lv_sub hl [0, 1, 2, 3, 4, 5] rfl)
  refine lv_icmp_le (tgt := 36) hx hb dX3_joinMore_9 (by decide) (fun c9 => ?_) (fun c9 => ?_)
  · have hc3 : p3.toInt ≤ v2.toInt := (fi_le rfl rfl).mp c9
    exact hj15 _ _ hG hS _ (lv_sub hl [0, 1, 2, 3, 4] rfl)
  · have hc3 : ¬ (p3.toInt ≤ v2.toInt) := fun h9 => c9 ((fi_le rfl rfl).mpr h9)
    refine lv_aload_n hx hb dX3_joinMore_12 rfl (lv_at hl 0 rfl) ?_
    refine lv_iload_n hx hb dX3_joinMore_13 rfl (lv_at hl 3 rfl) ?_
    refine tk_put (ci := 3) (v := .int p3) (ty := .int) (C := RX3) (T := TX3) (N := 5) (sp := (0, (-2147483648), 2147483647, 0)) hx hb htl inX3 tyX3 tyX3_ok nmX3 hown hK hG hS ht_a0 (by decide) tk_no rfl 4 (by decide) (htl _ mw_1456) (fun _ h9 => h9) rfl (tyX3_ok 4 (by decide)) rfl rfl rfl (tk_V0 (tk_rng _).1 (tk_rng _).2) (fun _ h => h) (tk_w.of ht_a0 (by decide) (List.mem_of_getElem? (i := 0) rfl) (Nat.le_refl _) (Nat.le_refl _)) dX3_joinMore_14 (fun H locs hG hS hf683 hq9 hj9 => ?_)
    refine lv_aload_n hx hb dX3_joinMore_17 rfl (lv_at hl 0 rfl) ?_
    refine lv_iload_n hx hb dX3_joinMore_18 rfl (lv_at hl 1 rfl) ?_
    refine tk_put (ci := 3) (v := .int 2) (ty := .int) (C := RX3) (T := TX3) (N := 5) (sp := (0, 0, 4, 0)) hx hb htl inX3 tyX3 tyX3_ok nmX3 hown hK hG hS ht_a0 (by decide) tk_no rfl 3 (by decide) (htl _ mw_1455) (fun _ h9 => h9) rfl (tyX3_ok 3 (by decide)) rfl rfl rfl (tk_V0 (by decide) (by decide)) (fun _ h => h) (tk_w.of ht_a0 (by decide) (List.mem_of_getElem? (i := 0) rfl) (Nat.le_refl _) (Nat.le_refl _)) dX3_joinMore_19 (fun H locs hG hS hf685 hq9 hj9 => ?_)
    refine lv_aload_n hx hb dX3_joinMore_22 rfl (lv_at hl 0 rfl) ?_
    refine tk_get (ci := 3) (C := RX3) (T := TX3) (N := 5) (sp := (6, 22, 4, 0)) hx hb htl inX3 hown hK hG ht_a0 (by decide) tk_no rfl 1 (by decide) (htl _ mw_173) (fun _ h9 => h9) rfl dX3_joinMore_23 (fun v9 hf687 hV9 => ?_)
    obtain ⟨b688, rfl, ht_b688⟩ := hV9
    have ht_b688 : t b688 = (22, 4, 0) := ht_b688
    refine lv_iconst (v := 0) hx hb dX3_joinMore_26 (by decide) ?_
    refine lv_aload_n hx hb dX3_joinMore_27 rfl (lv_at hl 0 rfl) ?_
    refine tk_get (ci := 3) (C := RX3) (T := TX3) (N := 5) (sp := (6, 20, 4, 0)) hx hb htl inX3 hown hK hG ht_a0 (by decide) tk_no rfl 2 (by decide) (htl _ mw_174) (fun _ h9 => h9) rfl dX3_joinMore_28 (fun v9 hf689 hV9 => ?_)
    obtain ⟨b690, rfl, ht_b690⟩ := hV9
    have ht_b690 : t b690 = (20, 4, 0) := ht_b690
    refine lv_iconst (v := 0) hx hb dX3_joinMore_31 (by decide) ?_
    refine lv_iconst (v := 4) hx hb dX3_joinMore_32 (by decide) ?_
    refine tk_copy (SP := 0) (DP := 0) (NC := 4) hx hb (by rw [hml]; exact hl.1.symm) hown (htl _ mw_1461) (htl _ mw_655) (htl _ mw_656) (htl _ mw_657) hK hG hS ht_b688 ht_b690 (by decide) (by decide) (fun _ h => h) (fun _ => Iff.rfl) tk_no tk_no (show (0 : Int32).toInt = 0 by decide) (show (0 : Int32).toInt = 0 by decide) (show (4 : Int32).toInt = 4 by decide) (by decide) (by decide) (by decide) (by decide) (by decide) (fun _ _ _ _ _ => trivial) (tk_w.of ht_b690 (by decide) (List.mem_of_getElem? (i := 1) rfl) (Nat.le_refl _) (Nat.le_refl _)) (Nat.le_of_ble_eq_true rfl) (Nat.le_of_ble_eq_true rfl) dX3_joinMore_33 (fun H locs hG hS hq9 => ?_)
    exact hj15 _ _ hG hS _ (lv_sub hl [0, 1, 2, 3, 4] rfl)
set_option maxHeartbeats 4000000 in
set_option maxRecDepth 100000 in
theorem k_X3_joinMore_1 (l : Launch) (D : va_G) (cy : Nat → ClassId) (ld : Nat → Nat) (t : tk_T) (a0 : Nat) (p2 : Int32) (p3 : Int32) (p4 : Int32) (ht_a0 : t a0 = (4, 0, 0)) : Met l yX3_joinMore (wl yX3_joinMore cX3_joinMore 8 none) ({ frames := 7, cells := 0, slots := 0, locals := 420 }) (tp D cy ld t [] [.ref a0, .int 1, .int p2, .int p3, .int p4] (fun H => True)) (tv D cy ld t [] (fun H => True) (tk_w t [(4, 0, 0), (20, 0, 0), (22, 0, 0)])) 0 0 (tk_w t [(4, 0, 0), (20, 0, 0), (22, 0, 0)]) := by
  refine tk_met (y := yX3_joinMore) (cc := cX3_joinMore) (maxL := 8) (ret := none) (av := [.ref a0, .int 1, .int p2, .int p3, .int p4]) _ _ (by decide) (Nat.le_of_ble_eq_true rfl) ?_
  intro p e s m args below meth c hx hb hr hml hts htl hown hlocks hK H locs hH hG hS hB hZ ls hl
  have hown : s.vm.findClass RX3 = some m.cls := hown
  have hl : lv_has ls 8 [(0, .ref a0), (1, .int 1), (2, .int p2), (3, .int p3), (4, .int p4)] := hl
  have hr_p2 := tk_rng p2
  have hr_p3 := tk_rng p3
  have hr_p4 := tk_rng p4
  refine lv_iload_n hx hb dX3_joinMore_0 rfl (lv_at hl 1 rfl) ?_
  refine lv_if_le (tgt := 36) hx hb dX3_joinMore_1 (by decide) (fun c9 => absurd c9 (by decide)) (fun _ => ?_)
  refine lv_iload_n hx hb dX3_joinMore_4 rfl (lv_at hl 3 rfl) ?_
  refine lv_aload_n hx hb dX3_joinMore_5 rfl (lv_at hl 0 rfl) ?_
  refine tk_get (ci := 3) (C := RX3) (T := TX3) (N := 5) (sp := (0, (-2147483648), 2147483647, 0)) hx hb htl inX3 hown hK hG ht_a0 (by decide) tk_no rfl 4 (by decide) (htl _ mw_1456) (fun _ h9 => h9) rfl dX3_joinMore_6 (fun v9 hf1 hV9 => ?_)
  obtain ⟨v2, rfl, (ha_v2 : (-2147483648) ≤ v2.toInt), (hb_v2 : v2.toInt ≤ 2147483647)⟩ := hV9
  have hj15 : ∀ (H : Heap) (locs : List Loc), tk_G D cy ld t [] H → va_S (tk_w t [(4, 0, 0), (20, 0, 0), (22, 0, 0)]) s.heap H locs → ∀ ls : Array Slot, lv_has ls 8 [(0, .ref a0), (1, .int 1), (2, .int p2), (3, .int p3), (4, .int p4)] → W p l e ({ frames := 7, cells := 0, slots := 0, locals := 420 }) s m args below meth c H locs 0 0 (MQ below (tv D cy ld t [] (fun H => True) (tk_w t [(4, 0, 0), (20, 0, 0), (22, 0, 0)])) args s 0 0 (tk_w t [(4, 0, 0), (20, 0, 0), (22, 0, 0)])) (F0 m 36 ls []) := by
    intro H locs hG hS ls hl
    refine lv_iload_n hx hb dX3_joinMore_36 rfl (lv_at hl 1 rfl) ?_
    refine lv_iconst (v := 4) hx hb dX3_joinMore_37 (by decide) ?_
    refine lv_icmp_lt (tgt := 42) hx hb dX3_joinMore_38 (by decide) (fun _ => ?_) (fun c9 => absurd (by decide) c9)
    refine lv_iconst (v := 0) hx hb dX3_joinMore_42 (by decide) ?_
    refine lv_istore (lv' := [(5, .int 0), (0, .ref a0), (1, .int 1), (2, .int p2), (3, .int p3), (4, .int p4)]) hx hb dX3_joinMore_43 hl (by decide) rfl (fun ls hl => ?_)
    have hl599 : ∀ (N_l599 : Nat) (v16 : Int32) (H : Heap) (locs : List Loc), v16.toInt ≤ 10 → 0 ≤ v16.toInt → (-1) * v16.toInt + 10 < (N_l599 : Int) → tk_G D cy ld t [] H → va_S (tk_w t [(4, 0, 0), (20, 0, 0), (22, 0, 0)]) s.heap H locs → ∀ ls : Array Slot, lv_has ls 8 [(5, .int v16), (0, .ref a0), (1, .int 1), (2, .int p2), (3, .int p3), (4, .int p4)] → W p l e ({ frames := 7, cells := 0, slots := 0, locals := 420 }) s m args below meth c H locs 0 0 (MQ below (tv D cy ld t [] (fun H => True) (tk_w t [(4, 0, 0), (20, 0, 0), (22, 0, 0)])) args s 0 0 (tk_w t [(4, 0, 0), (20, 0, 0), (22, 0, 0)])) (F0 m 45 ls []) := by
      intro N_l599
      induction N_l599 with
      | zero => intro v16 H locs hq0_l599 hq1_l599 hm_l599 hG hS ls hl; exfalso; omega
      | succ N_l599 ih_l599 =>
        intro v16 H locs hq0_l599 hq1_l599 hm_l599 hG hS ls hl
        refine lv_iload hx hb dX3_joinMore_45 (lv_at hl 0 rfl) ?_
        refine lv_aload_n hx hb dX3_joinMore_47 rfl (lv_at hl 1 rfl) ?_
        refine tk_get (ci := 3) (C := RX3) (T := TX3) (N := 5) (sp := (8, 20, 3, 0)) hx hb htl inX3 hown hK hG ht_a0 (by decide) tk_no rfl 0 (by decide) (htl _ mw_175) (fun _ h9 => h9) rfl dX3_joinMore_48 (fun v9 hf600 hV9 => ?_)
        obtain ⟨rfl, ht_ld20⟩ := hV9
        have ht_ld20 : t (ld 20) = (3, 0, 0) := ht_ld20
        refine fx_top (v := .ref (ld 20)) rfl ?_
        refine tk_get (ci := 2) (C := RX2) (T := TX2) (N := 20) (sp := (0, 0, 10, 0)) hx hb htl inX2 hown hK hG ht_ld20 (by decide) tk_no rfl 7 (by decide) (htl _ mw_1462) (fun _ h9 => h9) rfl dX3_joinMore_51 (fun v9 hf601 hV9 => ?_)
        obtain ⟨v602, rfl, (ha_v602 : 0 ≤ v602.toInt), (hb_v602 : v602.toInt ≤ 10)⟩ := hV9
        refine lv_icmp_ge (tgt := 188) hx hb dX3_joinMore_54 (by decide) (fun c9 => ?_) (fun c9 => ?_)
        · have hc603 : v602.toInt ≤ v16.toInt := (fi_le rfl rfl).mp c9
          exact tk_vret hx hb hr hlocks trivial hG hS dX3_joinMore_188
        · have hc603 : ¬ (v602.toInt ≤ v16.toInt) := fun h9 => c9 ((fi_le rfl rfl).mpr h9)
          refine lv_iload_n hx hb dX3_joinMore_57 rfl (lv_at hl 3 rfl) ?_
          refine lv_iload hx hb dX3_joinMore_58 (lv_at hl 0 rfl) ?_
          refine lv_ishr hx hb dX3_joinMore_60 ?_
          refine tk_any (fun v604 => ?_)
          refine lv_iconst (v := 1) hx hb dX3_joinMore_61 (by decide) ?_
          refine lv_iand hx hb dX3_joinMore_62 ?_
          refine tk_say (P := fun z => 0 ≤ z.toInt ∧ z.toInt ≤ 1) (tk_and v604 1 (by decide) (by decide)) (fun v605 h_v605 => ?_)
          have hj645 : ∀ (H : Heap) (locs : List Loc), tk_G D cy ld t [] H → va_S (tk_w t [(4, 0, 0), (20, 0, 0), (22, 0, 0)]) s.heap H locs → tk_f D H (ld 20) 2 7 (.int v602) → ∀ ls : Array Slot, lv_has ls 8 [(5, .int v16), (0, .ref a0), (1, .int 1), (2, .int p2), (3, .int p3), (4, .int p4)] → W p l e ({ frames := 7, cells := 0, slots := 0, locals := 420 }) s m args below meth c H locs 0 0 (MQ below (tv D cy ld t [] (fun H => True) (tk_w t [(4, 0, 0), (20, 0, 0), (22, 0, 0)])) args s 0 0 (tk_w t [(4, 0, 0), (20, 0, 0), (22, 0, 0)])) (F0 m 182 ls []) := by
            intro H locs hG hS hf601 ls hl
            obtain ⟨v646, h_v646, e_v646⟩ := tk_inc v16 1 (by decide) (by omega) (by omega)
            refine lv_iinc (v := v646) (lv' := [(5, .int v646), (0, .ref a0), (1, .int 1), (2, .int p2), (3, .int p3), (4, .int p4)]) hx hb dX3_joinMore_182 hl (k := 0) rfl e_v646 (by decide) rfl (fun ls hl => ?_)
            refine lv_goto (tgt := 45) hx hb dX3_joinMore_185 (by decide) ?_
            exact ih_l599 v646 _ _ (by omega) (by omega) (by omega) hG hS _ (lv_sub hl [0, 1, 2, 3, 4, 5] rfl)
          refine lv_if_ne (tgt := 182) hx hb dX3_joinMore_63 (by decide) (fun c9 => ?_) (fun c9 => ?_)
          · have hc606 : ¬ (v605.toInt = 0) := fun h9 => c9 ((fi_eq rfl (show (0 : Int32).toInt = 0 by decide)).mpr h9)
            exact hj645 _ _ hG hS hf601 _ (lv_sub hl [0, 1, 2, 3, 4, 5] rfl)
          · have hc606 : v605.toInt = 0 := (fi_eq rfl (show (0 : Int32).toInt = 0 by decide)).mp c9
            refine lv_aload_n hx hb dX3_joinMore_66 rfl (lv_at hl 1 rfl) ?_
            refine tk_get (ci := 3) (C := RX3) (T := TX3) (N := 5) (sp := (8, 20, 3, 0)) hx hb htl inX3 hown hK hG ht_a0 (by decide) tk_no rfl 0 (by decide) (htl _ mw_175) (fun _ h9 => h9) rfl dX3_joinMore_67 (fun v9 hf647 hV9 => ?_)
            obtain ⟨rfl, ht_ld20⟩ := hV9
            have ht_ld20 : t (ld 20) = (3, 0, 0) := ht_ld20
            refine fx_top (v := .ref (ld 20)) rfl ?_
            refine tk_get (ci := 2) (C := RX2) (T := TX2) (N := 20) (sp := (11, 120, 37, 10)) hx hb htl inX2 hown hK hG ht_ld20 (by decide) tk_no rfl 10 (by decide) (htl _ mw_1463) (fun _ h9 => h9) rfl dX3_joinMore_70 (fun v9 hf648 hV9 => ?_)
            obtain ⟨rfl, ht_ld120⟩ := hV9
            have ht_ld120 : t (ld 120) = (37, 10, 0) := ht_ld120
            refine fx_top (v := .ref (ld 120)) rfl ?_
            refine lv_iload hx hb dX3_joinMore_73 (lv_at hl 0 rfl) ?_
            refine tk_iald hx hb hK hG ht_ld120 (by decide) (fun _ h => h) tk_no rfl (by omega) (by omega) dX3_joinMore_75 (fun v649 _ _ => ?_)
            have hr_v649 := tk_rng v649
            refine lv_iload hx hb dX3_joinMore_76 (lv_at hl 5 rfl) ?_
            refine lv_icmp_gt (tgt := 182) hx hb dX3_joinMore_78 (by decide) (fun c9 => ?_) (fun c9 => ?_)
            · have hc650 : p4.toInt < v649.toInt := (fi_lt rfl rfl).mp c9
              exact hj645 _ _ hG hS hf601 _ (lv_sub hl [0, 1, 2, 3, 4, 5] rfl)
            · have hc650 : ¬ (p4.toInt < v649.toInt) := fun h9 => c9 ((fi_lt rfl rfl).mpr h9)
              refine lv_iload_n hx hb dX3_joinMore_81 rfl (lv_at hl 2 rfl) ?_
              refine lv_if_le (tgt := 118) hx hb dX3_joinMore_82 (by decide) (fun c9 => absurd c9 (by decide)) (fun _ => ?_)
              refine lv_aload_n hx hb dX3_joinMore_85 rfl (lv_at hl 1 rfl) ?_
              refine tk_get (ci := 3) (C := RX3) (T := TX3) (N := 5) (sp := (8, 20, 3, 0)) hx hb htl inX3 hown hK hG ht_a0 (by decide) tk_no rfl 0 (by decide) (htl _ mw_175) (fun _ h9 => h9) rfl dX3_joinMore_86 (fun v9 hf651 hV9 => ?_)
              obtain ⟨rfl, ht_ld20⟩ := hV9
              have ht_ld20 : t (ld 20) = (3, 0, 0) := ht_ld20
              refine fx_top (v := .ref (ld 20)) rfl ?_
              refine tk_get (ci := 2) (C := RX2) (T := TX2) (N := 20) (sp := (11, 110, 36, 10)) hx hb htl inX2 hown hK hG ht_ld20 (by decide) tk_no rfl 9 (by decide) (htl _ mw_1464) (fun _ h9 => h9) rfl dX3_joinMore_89 (fun v9 hf652 hV9 => ?_)
              obtain ⟨rfl, ht_ld110⟩ := hV9
              have ht_ld110 : t (ld 110) = (36, 10, 0) := ht_ld110
              refine fx_top (v := .ref (ld 110)) rfl ?_
              refine lv_aload_n hx hb dX3_joinMore_92 rfl (lv_at hl 1 rfl) ?_
              refine tk_get (ci := 3) (C := RX3) (T := TX3) (N := 5) (sp := (6, 22, 4, 0)) hx hb htl inX3 hown hK hG ht_a0 (by decide) tk_no rfl 1 (by decide) (htl _ mw_173) (fun _ h9 => h9) rfl dX3_joinMore_93 (fun v9 hf653 hV9 => ?_)
              obtain ⟨b654, rfl, ht_b654⟩ := hV9
              have ht_b654 : t b654 = (22, 4, 0) := ht_b654
              refine lv_iload_n hx hb dX3_joinMore_96 rfl (lv_at hl 2 rfl) ?_
              refine lv_iconst (v := 1) hx hb dX3_joinMore_97 (by decide) ?_
              refine lv_isub hx hb dX3_joinMore_98 ?_
              refine fx_ti (v := 0) (by decide) ?_
              refine tk_iald hx hb hK hG ht_b654 (by decide) (fun _ h => h) tk_no (I := 0) (by decide) (by decide) (by decide) dX3_joinMore_99 (fun v655 hE9 _ => ?_)
              have he_v655 : 0 ≤ v655.toInt ∧ v655.toInt ≤ 9 := hE9
              refine tk_iald hx hb hK hG ht_ld110 (by decide) (fun _ h => h) tk_no rfl (by omega) (by omega) dX3_joinMore_100 (fun v656 _ _ => ?_)
              have hr_v656 := tk_rng v656
              refine lv_aload_n hx hb dX3_joinMore_101 rfl (lv_at hl 1 rfl) ?_
              refine tk_get (ci := 3) (C := RX3) (T := TX3) (N := 5) (sp := (8, 20, 3, 0)) hx hb htl inX3 hown hK hG ht_a0 (by decide) tk_no rfl 0 (by decide) (htl _ mw_175) (fun _ h9 => h9) rfl dX3_joinMore_102 (fun v9 hf657 hV9 => ?_)
              obtain ⟨rfl, ht_ld20⟩ := hV9
              have ht_ld20 : t (ld 20) = (3, 0, 0) := ht_ld20
              refine fx_top (v := .ref (ld 20)) rfl ?_
              refine tk_get (ci := 2) (C := RX2) (T := TX2) (N := 20) (sp := (11, 110, 36, 10)) hx hb htl inX2 hown hK hG ht_ld20 (by decide) tk_no rfl 9 (by decide) (htl _ mw_1464) (fun _ h9 => h9) rfl dX3_joinMore_105 (fun v9 hf658 hV9 => ?_)
              obtain ⟨rfl, ht_ld110⟩ := hV9
              have ht_ld110 : t (ld 110) = (36, 10, 0) := ht_ld110
              refine fx_top (v := .ref (ld 110)) rfl ?_
              refine lv_iload hx hb dX3_joinMore_108 (lv_at hl 0 rfl) ?_
              refine tk_iald hx hb hK hG ht_ld110 (by decide) (fun _ h => h) tk_no rfl (by omega) (by omega) dX3_joinMore_110 (fun v659 _ _ => ?_)
              have hr_v659 := tk_rng v659
              have hj663 : ∀ (v662 : Int32), 0 ≤ v662.toInt → v662.toInt ≤ 1 → ∀ ls : Array Slot, lv_has ls 8 [(5, .int v16), (0, .ref a0), (1, .int 1), (2, .int p2), (3, .int p3), (4, .int p4)] → W p l e ({ frames := 7, cells := 0, slots := 0, locals := 420 }) s m args below meth c H locs 0 0 (MQ below (tv D cy ld t [] (fun H => True) (tk_w t [(4, 0, 0), (20, 0, 0), (22, 0, 0)])) args s 0 0 (tk_w t [(4, 0, 0), (20, 0, 0), (22, 0, 0)])) (F0 m 119 ls [.int v662]) := by
                intro v662 hq0_j663 hq1_j663 ls hl
                refine lv_istore (lv' := [(6, .int v662), (5, .int v16), (0, .ref a0), (1, .int 1), (2, .int p2), (3, .int p3), (4, .int p4)]) hx hb dX3_joinMore_119 hl (by decide) rfl (fun ls hl => ?_)
                refine lv_aload_n hx hb dX3_joinMore_121 rfl (lv_at hl 2 rfl) ?_
                refine tk_get (ci := 3) (C := RX3) (T := TX3) (N := 5) (sp := (6, 22, 4, 0)) hx hb htl inX3 hown hK hG ht_a0 (by decide) tk_no rfl 1 (by decide) (htl _ mw_173) (fun _ h9 => h9) rfl dX3_joinMore_122 (fun v9 hf664 hV9 => ?_)
                obtain ⟨b665, rfl, ht_b665⟩ := hV9
                have ht_b665 : t b665 = (22, 4, 0) := ht_b665
                refine lv_iload_n hx hb dX3_joinMore_125 rfl (lv_at hl 3 rfl) ?_
                refine lv_iload hx hb dX3_joinMore_126 (lv_at hl 1 rfl) ?_
                refine tk_iast hx hb hK hG hS ht_b665 (by decide) (fun _ => Iff.rfl) tk_no (I := 1) (by decide) (by decide) (by decide) (show 0 ≤ (v16 : Int32).toInt ∧ (v16 : Int32).toInt ≤ 9 from ⟨by omega, by omega⟩) (tk_w.of ht_b665 (by decide) (List.mem_of_getElem? (i := 2) rfl) (Nat.le_refl _) (Nat.le_refl _)) dX3_joinMore_128 (fun H locs hG hS hq9 => ?_)
                have hf601 := hf601.kept (hq9 _ (tk_ne ht_ld20 ht_b665 (Or.inl (by decide))))
                refine lv_iload_n hx hb dX3_joinMore_129 rfl (lv_at hl 5 rfl) ?_
                refine lv_aload_n hx hb dX3_joinMore_130 rfl (lv_at hl 2 rfl) ?_
                refine tk_get (ci := 3) (C := RX3) (T := TX3) (N := 5) (sp := (8, 20, 3, 0)) hx hb htl inX3 hown hK hG ht_a0 (by decide) tk_no rfl 0 (by decide) (htl _ mw_175) (fun _ h9 => h9) rfl dX3_joinMore_131 (fun v9 hf667 hV9 => ?_)
                obtain ⟨rfl, ht_ld20⟩ := hV9
                have ht_ld20 : t (ld 20) = (3, 0, 0) := ht_ld20
                refine fx_top (v := .ref (ld 20)) rfl ?_
                refine tk_get (ci := 2) (C := RX2) (T := TX2) (N := 20) (sp := (11, 100, 35, 10)) hx hb htl inX2 hown hK hG ht_ld20 (by decide) tk_no rfl 8 (by decide) (htl _ mw_1465) (fun _ h9 => h9) rfl dX3_joinMore_134 (fun v9 hf668 hV9 => ?_)
                obtain ⟨rfl, ht_ld100⟩ := hV9
                have ht_ld100 : t (ld 100) = (35, 10, 0) := ht_ld100
                refine fx_top (v := .ref (ld 100)) rfl ?_
                refine lv_iload hx hb dX3_joinMore_137 (lv_at hl 1 rfl) ?_
                refine tk_iald hx hb hK hG ht_ld100 (by decide) (fun _ h => h) tk_no rfl (by omega) (by omega) dX3_joinMore_139 (fun v669 _ _ => ?_)
                have hr_v669 := tk_rng v669
                refine lv_iadd hx hb dX3_joinMore_140 ?_
                obtain ⟨v670, hm_v670⟩ : ∃ z : Int32, p3 + v669 = z := ⟨_, rfl⟩
                refine fx_ti hm_v670 ?_
                refine lv_iload hx hb dX3_joinMore_141 (lv_at hl 0 rfl) ?_
                have hj674 : ∀ (v673 : Int32), v673.toInt ≤ 3 → 0 ≤ (-1) * v662.toInt + v673.toInt → ∀ ls : Array Slot, lv_has ls 8 [(5, .int v16), (0, .ref a0), (1, .int 1), (2, .int p2), (3, .int p3), (4, .int p4)] → W p l e ({ frames := 7, cells := 0, slots := 0, locals := 420 }) s m args below meth c H locs 0 0 (MQ below (tv D cy ld t [] (fun H => True) (tk_w t [(4, 0, 0), (20, 0, 0), (22, 0, 0)])) args s 0 0 (tk_w t [(4, 0, 0), (20, 0, 0), (22, 0, 0)])) (F0 m 151 ls [.int v673, .int v670]) := by
                  intro v673 hq0_j674 hq1_j674 ls hl
                  refine lv_iadd hx hb dX3_joinMore_151 ?_
                  obtain ⟨v675, hm_v675⟩ : ∃ z : Int32, v670 + v673 = z := ⟨_, rfl⟩
                  refine fx_ti hm_v675 ?_
                  refine lv_istore (lv' := [(7, .int v675), (5, .int v16), (0, .ref a0), (1, .int 1), (2, .int p2), (3, .int p3), (4, .int p4)]) hx hb dX3_joinMore_152 hl (by decide) rfl (fun ls hl => ?_)
                  refine lv_aload_n hx hb dX3_joinMore_154 rfl (lv_at hl 2 rfl) ?_
                  refine lv_iload_n hx hb dX3_joinMore_155 rfl (lv_at hl 3 rfl) ?_
                  refine lv_iconst (v := 1) hx hb dX3_joinMore_156 (by decide) ?_
                  refine lv_iadd hx hb dX3_joinMore_157 ?_
                  refine fx_ti (v := 2) (by decide) ?_
                  refine lv_iload_n hx hb dX3_joinMore_158 rfl (lv_at hl 4 rfl) ?_
                  refine lv_iconst (v := 1) hx hb dX3_joinMore_159 (by decide) ?_
                  refine lv_iload hx hb dX3_joinMore_160 (lv_at hl 1 rfl) ?_
                  refine lv_ishl hx hb dX3_joinMore_162 ?_
                  refine tk_say (P := fun z => 1 ≤ z.toInt ∧ z.toInt ≤ 1024) (tk_shl1 v16 (by omega) (by omega)) (fun v676 h_v676 => ?_)
                  refine lv_ior hx hb dX3_joinMore_163 ?_
                  refine tk_any (fun v677 => ?_)
                  refine lv_iload hx hb dX3_joinMore_164 (lv_at hl 0 rfl) ?_
                  refine lv_iload hx hb dX3_joinMore_166 (lv_at hl 6 rfl) ?_
                  refine lv_aload_n hx hb dX3_joinMore_168 rfl (lv_at hl 2 rfl) ?_
                  refine tk_get (ci := 3) (C := RX3) (T := TX3) (N := 5) (sp := (8, 20, 3, 0)) hx hb htl inX3 hown hK hG ht_a0 (by decide) tk_no rfl 0 (by decide) (htl _ mw_175) (fun _ h9 => h9) rfl dX3_joinMore_169 (fun v9 hf678 hV9 => ?_)
                  obtain ⟨rfl, ht_ld20⟩ := hV9
                  have ht_ld20 : t (ld 20) = (3, 0, 0) := ht_ld20
                  refine fx_top (v := .ref (ld 20)) rfl ?_
                  refine tk_get (ci := 2) (C := RX2) (T := TX2) (N := 20) (sp := (11, 120, 37, 10)) hx hb htl inX2 hown hK hG ht_ld20 (by decide) tk_no rfl 10 (by decide) (htl _ mw_1463) (fun _ h9 => h9) rfl dX3_joinMore_172 (fun v9 hf679 hV9 => ?_)
                  obtain ⟨rfl, ht_ld120⟩ := hV9
                  have ht_ld120 : t (ld 120) = (37, 10, 0) := ht_ld120
                  refine fx_top (v := .ref (ld 120)) rfl ?_
                  refine lv_iload hx hb dX3_joinMore_175 (lv_at hl 1 rfl) ?_
                  refine tk_iald hx hb hK hG ht_ld120 (by decide) (fun _ h => h) tk_no rfl (by omega) (by omega) dX3_joinMore_177 (fun v680 _ _ => ?_)
                  have hr_v680 := tk_rng v680
                  refine lv_isub hx hb dX3_joinMore_178 ?_
                  obtain ⟨v681, hm_v681⟩ : ∃ z : Int32, p4 - v680 = z := ⟨_, rfl⟩
                  refine fx_ti hm_v681 ?_
                  have hk_2 : (2 : Int32).toInt = 2 := by decide
                  refine tk_Vv (As := [.int 2, .int v677, .int v675, .int v681]) (rest := []) (ci := 3) ⟨hx, hb, hml, hown, hts⟩ hK hG hZ hS (k_X3_joinMore_2 l D cy ld t a0 v677 v675 v681 ht_a0) trivial ⟨callB_of 4 hts (wl_in mw_1460) rfl rfl rfl (htl _ mw_48) (htl _ mw_1457) hd_yX3_joinMore ⟨(Nat.le_of_ble_eq_true rfl), (Nat.le_of_ble_eq_true rfl)⟩, htl _ mw_1458, htl _ mw_1459⟩ ht_a0 (by decide) tk_no rfl (tk_w.pick [0, 1, 2] rfl) rfl hl.1 rfl (Nat.le_of_ble_eq_true rfl) dX3_joinMore_179 ⟨(Nat.le_of_ble_eq_true rfl), (Nat.le_of_ble_eq_true rfl)⟩ (fun H locs hpo hG hS hq9 => ?_)
                  have hf601 := hf601.call hq9 (tk_w.no ht_ld20 (by decide))
                  exact hj645 _ _ hG hS hf601 _ (lv_sub hl [1, 2, 3, 4, 5, 6] rfl)
                refine lv_if_eq (tgt := 150) hx hb dX3_joinMore_143 (by decide) (fun c9 => ?_) (fun c9 => ?_)
                · have hc671 : v662.toInt = 0 := (fi_eq rfl (show (0 : Int32).toInt = 0 by decide)).mp c9
                  refine lv_iconst (v := 0) hx hb dX3_joinMore_150 (by decide) ?_
                  have hk_0 : (0 : Int32).toInt = 0 := by decide
                  exact hj674 0 (by omega) (by omega) _ (lv_sub hl [1, 2, 3, 4, 5, 6] rfl)
                · have hc671 : ¬ (v662.toInt = 0) := fun h9 => c9 ((fi_eq rfl (show (0 : Int32).toInt = 0 by decide)).mpr h9)
                  refine lv_iconst (v := 3) hx hb dX3_joinMore_146 (by decide) ?_
                  refine lv_goto (tgt := 151) hx hb dX3_joinMore_147 (by decide) ?_
                  have hk_3 : (3 : Int32).toInt = 3 := by decide
                  exact hj674 3 (by omega) (by omega) _ (lv_sub hl [1, 2, 3, 4, 5, 6] rfl)
              refine lv_icmp_ne (tgt := 118) hx hb dX3_joinMore_111 (by decide) (fun c9 => ?_) (fun c9 => ?_)
              · have hc660 : ¬ (v656.toInt = v659.toInt) := fun h9 => c9 ((fi_eq rfl rfl).mpr h9)
                refine lv_iconst (v := 0) hx hb dX3_joinMore_118 (by decide) ?_
                have hk_0 : (0 : Int32).toInt = 0 := by decide
                exact hj663 0 (by omega) (by omega) _ (lv_sub hl [0, 1, 2, 3, 4, 5] rfl)
              · have hc660 : v656.toInt = v659.toInt := (fi_eq rfl rfl).mp c9
                refine lv_iconst (v := 1) hx hb dX3_joinMore_114 (by decide) ?_
                refine lv_goto (tgt := 119) hx hb dX3_joinMore_115 (by decide) ?_
                have hk_1 : (1 : Int32).toInt = 1 := by decide
                exact hj663 1 (by omega) (by omega) _ (lv_sub hl [0, 1, 2, 3, 4, 5] rfl)
    have hk_0 : (0 : Int32).toInt = 0 := by decide
    exact hl599 11 0 _ _ (by omega) (by omega) (by omega) hG hS _ (lv_sub hl [0, 1, 2, 3, 4, 5] rfl)
  refine lv_icmp_le (tgt := 36) hx hb dX3_joinMore_9 (by decide) (fun c9 => ?_) (fun c9 => ?_)
  · have hc3 : p3.toInt ≤ v2.toInt := (fi_le rfl rfl).mp c9
    exact hj15 _ _ hG hS _ (lv_sub hl [0, 1, 2, 3, 4] rfl)
  · have hc3 : ¬ (p3.toInt ≤ v2.toInt) := fun h9 => c9 ((fi_le rfl rfl).mpr h9)
    refine lv_aload_n hx hb dX3_joinMore_12 rfl (lv_at hl 0 rfl) ?_
    refine lv_iload_n hx hb dX3_joinMore_13 rfl (lv_at hl 3 rfl) ?_
    refine tk_put (ci := 3) (v := .int p3) (ty := .int) (C := RX3) (T := TX3) (N := 5) (sp := (0, (-2147483648), 2147483647, 0)) hx hb htl inX3 tyX3 tyX3_ok nmX3 hown hK hG hS ht_a0 (by decide) tk_no rfl 4 (by decide) (htl _ mw_1456) (fun _ h9 => h9) rfl (tyX3_ok 4 (by decide)) rfl rfl rfl (tk_V0 (tk_rng _).1 (tk_rng _).2) (fun _ h => h) (tk_w.of ht_a0 (by decide) (List.mem_of_getElem? (i := 0) rfl) (Nat.le_refl _) (Nat.le_refl _)) dX3_joinMore_14 (fun H locs hG hS hf683 hq9 hj9 => ?_)
    refine lv_aload_n hx hb dX3_joinMore_17 rfl (lv_at hl 0 rfl) ?_
    refine lv_iload_n hx hb dX3_joinMore_18 rfl (lv_at hl 1 rfl) ?_
    refine tk_put (ci := 3) (v := .int 1) (ty := .int) (C := RX3) (T := TX3) (N := 5) (sp := (0, 0, 4, 0)) hx hb htl inX3 tyX3 tyX3_ok nmX3 hown hK hG hS ht_a0 (by decide) tk_no rfl 3 (by decide) (htl _ mw_1455) (fun _ h9 => h9) rfl (tyX3_ok 3 (by decide)) rfl rfl rfl (tk_V0 (by decide) (by decide)) (fun _ h => h) (tk_w.of ht_a0 (by decide) (List.mem_of_getElem? (i := 0) rfl) (Nat.le_refl _) (Nat.le_refl _)) dX3_joinMore_19 (fun H locs hG hS hf685 hq9 hj9 => ?_)
    refine lv_aload_n hx hb dX3_joinMore_22 rfl (lv_at hl 0 rfl) ?_
    refine tk_get (ci := 3) (C := RX3) (T := TX3) (N := 5) (sp := (6, 22, 4, 0)) hx hb htl inX3 hown hK hG ht_a0 (by decide) tk_no rfl 1 (by decide) (htl _ mw_173) (fun _ h9 => h9) rfl dX3_joinMore_23 (fun v9 hf687 hV9 => ?_)
    obtain ⟨b688, rfl, ht_b688⟩ := hV9
    have ht_b688 : t b688 = (22, 4, 0) := ht_b688
    refine lv_iconst (v := 0) hx hb dX3_joinMore_26 (by decide) ?_
    refine lv_aload_n hx hb dX3_joinMore_27 rfl (lv_at hl 0 rfl) ?_
    refine tk_get (ci := 3) (C := RX3) (T := TX3) (N := 5) (sp := (6, 20, 4, 0)) hx hb htl inX3 hown hK hG ht_a0 (by decide) tk_no rfl 2 (by decide) (htl _ mw_174) (fun _ h9 => h9) rfl dX3_joinMore_28 (fun v9 hf689 hV9 => ?_)
    obtain ⟨b690, rfl, ht_b690⟩ := hV9
    have ht_b690 : t b690 = (20, 4, 0) := ht_b690
    refine lv_iconst (v := 0) hx hb dX3_joinMore_31 (by decide) ?_
    refine lv_iconst (v := 4) hx hb dX3_joinMore_32 (by decide) ?_
    refine tk_copy (SP := 0) (DP := 0) (NC := 4) hx hb (by rw [hml]; exact hl.1.symm) hown (htl _ mw_1461) (htl _ mw_655) (htl _ mw_656) (htl _ mw_657) hK hG hS ht_b688 ht_b690 (by decide) (by decide) (fun _ h => h) (fun _ => Iff.rfl) tk_no tk_no (show (0 : Int32).toInt = 0 by decide) (show (0 : Int32).toInt = 0 by decide) (show (4 : Int32).toInt = 4 by decide) (by decide) (by decide) (by decide) (by decide) (by decide) (fun _ _ _ _ _ => trivial) (tk_w.of ht_b690 (by decide) (List.mem_of_getElem? (i := 1) rfl) (Nat.le_refl _) (Nat.le_refl _)) (Nat.le_of_ble_eq_true rfl) (Nat.le_of_ble_eq_true rfl) dX3_joinMore_33 (fun H locs hG hS hq9 => ?_)
    exact hj15 _ _ hG hS _ (lv_sub hl [0, 1, 2, 3, 4] rfl)
