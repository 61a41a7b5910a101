theorem dX2_howManyOf_0 : decode cX2_howManyOf 0 = .ok (.iconst 0, 1) := by decide +kernel
theorem dX2_howManyOf_1 : decode cX2_howManyOf 1 = .ok (.istore_n 2, 1) := by decide +kernel
theorem dX2_howManyOf_2 : decode cX2_howManyOf 2 = .ok (.iconst 0, 1) := by decide +kernel
theorem dX2_howManyOf_3 : decode cX2_howManyOf 3 = .ok (.istore_n 3, 1) := by decide +kernel
theorem dX2_howManyOf_4 : decode cX2_howManyOf 4 = .ok (.iload_n 3, 1) := by decide +kernel
theorem dX2_howManyOf_5 : decode cX2_howManyOf 5 = .ok (.aload_n 0, 1) := by decide +kernel
theorem dX2_howManyOf_6 : decode cX2_howManyOf 6 = .ok (.getfield 62, 3) := by decide +kernel
theorem dX2_howManyOf_9 : decode cX2_howManyOf 9 = .ok (.if_icmp .ge 22, 3) := by decide +kernel
theorem dX2_howManyOf_31 : decode cX2_howManyOf 31 = .ok (.iload_n 2, 1) := by decide +kernel
theorem dX2_howManyOf_32 : decode cX2_howManyOf 32 = .ok (.ireturn, 1) := by decide +kernel
theorem dX2_howManyOf_12 : decode cX2_howManyOf 12 = .ok (.aload_n 0, 1) := by decide +kernel
theorem dX2_howManyOf_13 : decode cX2_howManyOf 13 = .ok (.getfield 15, 3) := by decide +kernel
theorem dX2_howManyOf_16 : decode cX2_howManyOf 16 = .ok (.iload_n 3, 1) := by decide +kernel
theorem dX2_howManyOf_17 : decode cX2_howManyOf 17 = .ok (.iaload, 1) := by decide +kernel
theorem dX2_howManyOf_18 : decode cX2_howManyOf 18 = .ok (.iload_n 1, 1) := by decide +kernel
theorem dX2_howManyOf_25 : decode cX2_howManyOf 25 = .ok (.iinc 3 1, 3) := by decide +kernel
theorem dX2_howManyOf_28 : decode cX2_howManyOf 28 = .ok (.goto (-24), 3) := by decide +kernel
theorem dX2_howManyOf_19 : decode cX2_howManyOf 19 = .ok (.if_icmp .ne 6, 3) := by decide +kernel
theorem dX2_howManyOf_22 : decode cX2_howManyOf 22 = .ok (.iinc 2 1, 3) := by decide +kernel
set_option maxHeartbeats 4000000 in
set_option maxRecDepth 100000 in
theorem k_X2_howManyOf (l : Launch) (D : va_G) (cy : Nat → ClassId) (ld : Nat → Nat) (t : tk_T) (a0 : Nat) (p1 : Int32) (ht_a0 : t a0 = (3, 0, 0)) : Met l yX2_howManyOf (wl yX2_howManyOf cX2_howManyOf 4 (some .int)) ({ frames := 3, cells := 0, slots := 0, locals := 140 }) (tp D cy ld t [] [.ref a0, .int p1] (fun H => True)) (ti D cy ld t [] (fun r H => 0 ≤ r.toInt ∧ r.toInt ≤ 8) (tk_w t [])) 0 0 (tk_w t []) := by
  refine tk_met (y := yX2_howManyOf) (cc := cX2_howManyOf) (maxL := 4) (ret := (some .int)) (av := [.ref a0, .int p1]) _ _ (by decide) (Nat.le_of_ble_eq_true rfl) ?_
  intro p e s m args below meth c hx hb hr hml hts htl hown hlocks hK H locs hH hG hS hB hZ ls hl
  have hown : s.vm.findClass RX2 = some m.cls := hown
  have hl : lv_has ls 4 [(0, .ref a0), (1, .int p1)] := hl
  have hr_p1 := tk_rng p1
  refine lv_iconst (v := 0) hx hb dX2_howManyOf_0 (by decide) ?_
  refine lv_istore_n (lv' := [(2, .int 0), (0, .ref a0), (1, .int p1)]) hx hb dX2_howManyOf_1 rfl hl (by decide) rfl (fun ls hl => ?_)
  refine lv_iconst (v := 0) hx hb dX2_howManyOf_2 (by decide) ?_
  refine lv_istore_n (lv' := [(3, .int 0), (2, .int 0), (0, .ref a0), (1, .int p1)]) hx hb dX2_howManyOf_3 rfl hl (by decide) rfl (fun ls hl => ?_)
  have hl190 : ∀ (N : Nat) (v27 : Int32) (v28 : Int32), v27.toInt ≤ 8 → 0 ≤ v28.toInt → 0 ≤ v27.toInt + (-1) * v28.toInt → (-1) * v27.toInt + 8 < (N : Int) → ∀ ls : Array Slot, lv_has ls 4 [(3, .int v27), (2, .int v28), (0, .ref a0), (1, .int p1)] → W p l e ({ frames := 3, cells := 0, slots := 0, locals := 140 }) s m args below meth c H locs 0 0 (MQ below (ti D cy ld t [] (fun r H => 0 ≤ r.toInt ∧ r.toInt ≤ 8) (tk_w t [])) args s 0 0 (tk_w t [])) (F0 m 4 ls []) := by
    intro N
    induction N with
    | zero => intro v27 v28 hq0_l190 hq1_l190 hq2_l190 hm_l190 ls hl; exfalso; omega
    | succ N ih =>
      intro v27 v28 hq0_l190 hq1_l190 hq2_l190 hm_l190 ls hl
      refine lv_iload_n hx hb dX2_howManyOf_4 rfl (lv_at hl 0 rfl) ?_
      refine lv_aload_n hx hb dX2_howManyOf_5 rfl (lv_at hl 2 rfl) ?_
      refine tk_get (ci := 2) (C := RX2) (T := TX2) (N := 20) (sp := (0, 0, 8, 0)) hx hb htl inX2 hown hK hG ht_a0 (by decide) tk_no rfl 0 (by decide) (htl _ mw_257) (fun _ h9 => h9) rfl dX2_howManyOf_6 (fun v9 hf191 hV9 => ?_)
      obtain ⟨v192, rfl, ha_v192, hb_v192⟩ := hV9
      refine lv_icmp_ge (tgt := 31) hx hb dX2_howManyOf_9 (by decide) (fun c9 => ?_) (fun c9 => ?_)
      · have hc193 : v192.toInt ≤ v27.toInt := (fi_le rfl rfl).mp c9
        refine lv_iload_n hx hb dX2_howManyOf_31 rfl (lv_at hl 1 rfl) ?_
        exact tk_iret (v := v28) hx hb hr rfl hlocks (show 0 ≤ v28.toInt ∧ v28.toInt ≤ 8 from ⟨(by omega), (by omega)⟩) hG hS dX2_howManyOf_32
      · have hc193 : ¬ (v192.toInt ≤ v27.toInt) := fun h9 => c9 ((fi_le rfl rfl).mpr h9)
        refine lv_aload_n hx hb dX2_howManyOf_12 rfl (lv_at hl 2 rfl) ?_
        refine tk_get (ci := 2) (C := RX2) (T := TX2) (N := 20) (sp := (1, 21, 8, 0)) hx hb htl inX2 hown hK hG ht_a0 (by decide) tk_no rfl 2 (by decide) (htl _ mw_61) (fun _ h9 => h9) rfl dX2_howManyOf_13 (fun v9 hf204 hV9 => ?_)
        obtain ⟨b205, rfl, ht_b205⟩ := hV9
        have ht_b205 : t b205 = (21, 8, 0) := ht_b205
        refine lv_iload_n hx hb dX2_howManyOf_16 rfl (lv_at hl 0 rfl) ?_
        refine tk_iald hx hb hK hG ht_b205 (by decide) (fun _ h => h) tk_no rfl (by omega) (by omega) dX2_howManyOf_17 (fun v206 hE9 _ => ?_)
        have he_v206 : 0 ≤ v206.toInt ∧ v206.toInt ≤ 1 := hE9
        refine lv_iload_n hx hb dX2_howManyOf_18 rfl (lv_at hl 3 rfl) ?_
        have hj211 : ∀ (v210 : Int32), 0 ≤ (-1) * v210.toInt + v28.toInt + 1 → 0 ≤ v210.toInt + (-1) * v28.toInt → ∀ ls : Array Slot, lv_has ls 4 [(3, .int v27), (2, .int v210), (0, .ref a0), (1, .int p1)] → W p l e ({ frames := 3, cells := 0, slots := 0, locals := 140 }) s m args below meth c H locs 0 0 (MQ below (ti D cy ld t [] (fun r H => 0 ≤ r.toInt ∧ r.toInt ≤ 8) (tk_w t [])) args s 0 0 (tk_w t [])) (F0 m 25 ls []) := by
          intro v210 hq0_j211 hq1_j211 ls hl
          obtain ⟨v212, h_v212, e_v212⟩ := tk_inc v27 1 (by decide) (by omega) (by omega)
          refine lv_iinc (v := v212) (lv' := [(3, .int v212), (2, .int v210), (0, .ref a0), (1, .int p1)]) hx hb dX2_howManyOf_25 hl (k := 0) rfl e_v212 (by decide) rfl (fun ls hl => ?_)
          refine lv_goto (tgt := 4) hx hb dX2_howManyOf_28 (by decide) ?_
          exact ih v212 v210 (by omega) (by omega) (by omega) (by omega) _ (lv_sub hl [0, 1, 2, 3] rfl)
        refine lv_icmp_ne (tgt := 25) hx hb dX2_howManyOf_19 (by decide) (fun c9 => ?_) (fun c9 => ?_)
        · have hc207 : ¬ (v206.toInt = p1.toInt) := fun h9 => c9 ((fi_eq rfl rfl).mpr h9)
          exact hj211 v28 (by omega) (by omega) _ (lv_sub hl [0, 1, 2, 3] rfl)
        · have hc207 : v206.toInt = p1.toInt := (fi_eq rfl rfl).mp c9
          obtain ⟨v213, h_v213, e_v213⟩ := tk_inc v28 1 (by decide) (by omega) (by omega)
          refine lv_iinc (v := v213) (lv' := [(2, .int v213), (3, .int v27), (0, .ref a0), (1, .int p1)]) hx hb dX2_howManyOf_22 hl (k := 1) rfl e_v213 (by decide) rfl (fun ls hl => ?_)
          exact hj211 v213 (by omega) (by omega) _ (lv_sub hl [1, 0, 2, 3] rfl)
  have hk_0 : (0 : Int32).toInt = 0 := by decide
  have hk_0 : (0 : Int32).toInt = 0 := by decide
  exact hl190 9 0 0 (by omega) (by omega) (by omega) (by omega) _ (lv_sub hl [0, 1, 2, 3] rfl)
theorem dX2_addSinger_0 : decode cX2_addSinger 0 = .ok (.iload_n 1, 1) := by decide +kernel
theorem dX2_addSinger_1 : decode cX2_addSinger 1 = .ok (.iconst 0, 1) := by decide +kernel
theorem dX2_addSinger_2 : decode cX2_addSinger 2 = .ok (.sipush 999, 3) := by decide +kernel
theorem dX2_addSinger_5 : decode cX2_addSinger 5 = .ok (.invokestatic 94, 3) := by decide +kernel
theorem dX2_addSinger_8 : decode cX2_addSinger 8 = .ok (.ifCond .eq 22, 3) := by decide +kernel
theorem dX2_addSinger_30 : decode cX2_addSinger 30 = .ok (.iconst (-1), 1) := by decide +kernel
theorem dX2_addSinger_31 : decode cX2_addSinger 31 = .ok (.ireturn, 1) := by decide +kernel
theorem dX2_addSinger_11 : decode cX2_addSinger 11 = .ok (.iload_n 2, 1) := by decide +kernel
theorem dX2_addSinger_12 : decode cX2_addSinger 12 = .ok (.iconst 0, 1) := by decide +kernel
theorem dX2_addSinger_13 : decode cX2_addSinger 13 = .ok (.bipush 9, 2) := by decide +kernel
theorem dX2_addSinger_15 : decode cX2_addSinger 15 = .ok (.invokestatic 94, 3) := by decide +kernel
theorem dX2_addSinger_18 : decode cX2_addSinger 18 = .ok (.ifCond .eq 12, 3) := by decide +kernel
theorem dX2_addSinger_21 : decode cX2_addSinger 21 = .ok (.iload_n 3, 1) := by decide +kernel
theorem dX2_addSinger_22 : decode cX2_addSinger 22 = .ok (.iconst 0, 1) := by decide +kernel
theorem dX2_addSinger_23 : decode cX2_addSinger 23 = .ok (.iconst 1, 1) := by decide +kernel
theorem dX2_addSinger_24 : decode cX2_addSinger 24 = .ok (.invokestatic 94, 3) := by decide +kernel
theorem dX2_addSinger_27 : decode cX2_addSinger 27 = .ok (.ifCond .ne 5, 3) := by decide +kernel
theorem dX2_addSinger_32 : decode cX2_addSinger 32 = .ok (.aload_n 0, 1) := by decide +kernel
theorem dX2_addSinger_33 : decode cX2_addSinger 33 = .ok (.getfield 62, 3) := by decide +kernel
theorem dX2_addSinger_36 : decode cX2_addSinger 36 = .ok (.bipush 8, 2) := by decide +kernel
theorem dX2_addSinger_38 : decode cX2_addSinger 38 = .ok (.if_icmp .lt 6, 3) := by decide +kernel
theorem dX2_addSinger_44 : decode cX2_addSinger 44 = .ok (.aload_n 0, 1) := by decide +kernel
theorem dX2_addSinger_45 : decode cX2_addSinger 45 = .ok (.getfield 62, 3) := by decide +kernel
theorem dX2_addSinger_48 : decode cX2_addSinger 48 = .ok (.istore 4, 2) := by decide +kernel
theorem dX2_addSinger_50 : decode cX2_addSinger 50 = .ok (.aload_n 0, 1) := by decide +kernel
theorem dX2_addSinger_51 : decode cX2_addSinger 51 = .ok (.getfield 9, 3) := by decide +kernel
theorem dX2_addSinger_54 : decode cX2_addSinger 54 = .ok (.iload 4, 2) := by decide +kernel
theorem dX2_addSinger_56 : decode cX2_addSinger 56 = .ok (.iload_n 2, 1) := by decide +kernel
theorem dX2_addSinger_57 : decode cX2_addSinger 57 = .ok (.iastore, 1) := by decide +kernel
theorem dX2_addSinger_58 : decode cX2_addSinger 58 = .ok (.aload_n 0, 1) := by decide +kernel
theorem dX2_addSinger_59 : decode cX2_addSinger 59 = .ok (.getfield 15, 3) := by decide +kernel
theorem dX2_addSinger_62 : decode cX2_addSinger 62 = .ok (.iload 4, 2) := by decide +kernel
theorem dX2_addSinger_64 : decode cX2_addSinger 64 = .ok (.iload_n 3, 1) := by decide +kernel
theorem dX2_addSinger_65 : decode cX2_addSinger 65 = .ok (.iastore, 1) := by decide +kernel
theorem dX2_addSinger_66 : decode cX2_addSinger 66 = .ok (.aload_n 0, 1) := by decide +kernel
theorem dX2_addSinger_67 : decode cX2_addSinger 67 = .ok (.getfield 18, 3) := by decide +kernel
theorem dX2_addSinger_70 : decode cX2_addSinger 70 = .ok (.iload 4, 2) := by decide +kernel
theorem dX2_addSinger_72 : decode cX2_addSinger 72 = .ok (.iconst 0, 1) := by decide +kernel
theorem dX2_addSinger_73 : decode cX2_addSinger 73 = .ok (.iastore, 1) := by decide +kernel
theorem dX2_addSinger_74 : decode cX2_addSinger 74 = .ok (.aload_n 0, 1) := by decide +kernel
theorem dX2_addSinger_75 : decode cX2_addSinger 75 = .ok (.getfield 58, 3) := by decide +kernel
theorem dX2_addSinger_78 : decode cX2_addSinger 78 = .ok (.getfield 98, 3) := by decide +kernel
theorem dX2_addSinger_81 : decode cX2_addSinger 81 = .ok (.iload 4, 2) := by decide +kernel
theorem dX2_addSinger_83 : decode cX2_addSinger 83 = .ok (.iload_n 1, 1) := by decide +kernel
theorem dX2_addSinger_84 : decode cX2_addSinger 84 = .ok (.iastore, 1) := by decide +kernel
theorem dX2_addSinger_85 : decode cX2_addSinger 85 = .ok (.aload_n 0, 1) := by decide +kernel
theorem dX2_addSinger_86 : decode cX2_addSinger 86 = .ok (.getfield 58, 3) := by decide +kernel
theorem dX2_addSinger_89 : decode cX2_addSinger 89 = .ok (.getfield 101, 3) := by decide +kernel
theorem dX2_addSinger_92 : decode cX2_addSinger 92 = .ok (.iload 4, 2) := by decide +kernel
theorem dX2_addSinger_94 : decode cX2_addSinger 94 = .ok (.iconst 0, 1) := by decide +kernel
theorem dX2_addSinger_95 : decode cX2_addSinger 95 = .ok (.iastore, 1) := by decide +kernel
theorem dX2_addSinger_96 : decode cX2_addSinger 96 = .ok (.aload_n 0, 1) := by decide +kernel
theorem dX2_addSinger_97 : decode cX2_addSinger 97 = .ok (.getfield 58, 3) := by decide +kernel
theorem dX2_addSinger_100 : decode cX2_addSinger 100 = .ok (.getfield 104, 3) := by decide +kernel
theorem dX2_addSinger_103 : decode cX2_addSinger 103 = .ok (.iload 4, 2) := by decide +kernel
theorem dX2_addSinger_105 : decode cX2_addSinger 105 = .ok (.iconst 0, 1) := by decide +kernel
theorem dX2_addSinger_106 : decode cX2_addSinger 106 = .ok (.iastore, 1) := by decide +kernel
theorem dX2_addSinger_107 : decode cX2_addSinger 107 = .ok (.aload_n 0, 1) := by decide +kernel
theorem dX2_addSinger_108 : decode cX2_addSinger 108 = .ok (.dup, 1) := by decide +kernel
theorem dX2_addSinger_109 : decode cX2_addSinger 109 = .ok (.getfield 62, 3) := by decide +kernel
theorem dX2_addSinger_112 : decode cX2_addSinger 112 = .ok (.iconst 1, 1) := by decide +kernel
theorem dX2_addSinger_113 : decode cX2_addSinger 113 = .ok (.iadd, 1) := by decide +kernel
theorem dX2_addSinger_114 : decode cX2_addSinger 114 = .ok (.putfield 62, 3) := by decide +kernel
theorem dX2_addSinger_117 : decode cX2_addSinger 117 = .ok (.iload 4, 2) := by decide +kernel
theorem dX2_addSinger_119 : decode cX2_addSinger 119 = .ok (.ireturn, 1) := by decide +kernel
theorem dX2_addSinger_41 : decode cX2_addSinger 41 = .ok (.bipush (-5), 2) := by decide +kernel
theorem dX2_addSinger_43 : decode cX2_addSinger 43 = .ok (.ireturn, 1) := by decide +kernel
set_option maxHeartbeats 4000000 in
set_option maxRecDepth 100000 in
theorem k_X2_addSinger (l : Launch) (D : va_G) (cy : Nat → ClassId) (ld : Nat → Nat) (t : tk_T) (a0 : Nat) (p1 : Int32) (p2 : Int32) (p3 : Int32) (ht_a0 : t a0 = (3, 0, 0)) : Met l yX2_addSinger (wl yX2_addSinger cX2_addSinger 5 (some .int)) ({ frames := 4, cells := 0, slots := 0, locals := 210 }) (tp D cy ld t [] [.ref a0, .int p1, .int p2, .int p3] (fun H => True)) (ti D cy ld t [] (fun r H => (-5) ≤ r.toInt ∧ r.toInt ≤ 7) (tk_w t [(20, 0, 0), (21, 0, 0), (3, 0, 0)])) 0 0 (tk_w t [(20, 0, 0), (21, 0, 0), (3, 0, 0)]) := by
  refine tk_met (y := yX2_addSinger) (cc := cX2_addSinger) (maxL := 5) (ret := (some .int)) (av := [.ref a0, .int p1, .int p2, .int p3]) _ _ (by decide) (Nat.le_of_ble_eq_true rfl) ?_
  intro p e s m args below meth c hx hb hr hml hts htl hown hlocks hK H locs hH hG hS hB hZ ls hl
  have hown : s.vm.findClass RX2 = some m.cls := hown
  have hl : lv_has ls 5 [(0, .ref a0), (1, .int p1), (2, .int p2), (3, .int p3)] := hl
  have hr_p1 := tk_rng p1
  have hr_p2 := tk_rng p2
  have hr_p3 := tk_rng p3
  refine lv_iload_n hx hb dX2_addSinger_0 rfl (lv_at hl 1 rfl) ?_
  refine lv_iconst (v := 0) hx hb dX2_addSinger_1 (by decide) ?_
  refine lv_sipush (v := 999) hx hb dX2_addSinger_2 (by decide) ?_
  have hk_0 : (0 : Int32).toInt = 0 := by decide
  have hk_999 : (999 : Int32).toInt = 999 := by decide
  refine tk_Ni (As := [.int p1, .int 0, .int 999]) (rest := []) ⟨hx, hb, hml, hown, hts⟩ hK hG hZ hS (k_X12_within l D cy ld t _ p1 0 999) trivial ⟨va_cnB 3 hts (wl_in mw_262) rfl rfl rfl hK.2.2.2.1.1 (htl _ mw_2) hd_yX12_within ⟨(Nat.le_of_ble_eq_true rfl), (Nat.le_of_ble_eq_true rfl)⟩, htl _ mw_261, trivial⟩ (tk_w.pick [] rfl) rfl hl.1 rfl (Nat.le_of_ble_eq_true rfl) dX2_addSinger_5 ⟨(Nat.le_of_ble_eq_true rfl), (Nat.le_of_ble_eq_true rfl)⟩ (fun v1 H locs hpo hG hS hq9 => ?_)
  obtain ⟨hpo3, hpo4, hpo5, hpo6, hpo7⟩ := hpo
  refine lv_if_eq (tgt := 30) hx hb dX2_addSinger_8 (by decide) (fun c9 => ?_) (fun c9 => ?_)
  · have hc8 : v1.toInt = 0 := (fi_eq rfl (by decide)).mp c9
    refine lv_iconst (v := (-1)) hx hb dX2_addSinger_30 (by decide) ?_
    have hk_m1 : ((-1) : Int32).toInt = (-1) := by decide
    exact tk_iret (v := (-1)) hx hb hr rfl hlocks (show (-5) ≤ ((-1) : Int32).toInt ∧ ((-1) : Int32).toInt ≤ 7 from ⟨(by omega), (by omega)⟩) hG hS dX2_addSinger_31
  · have hc8 : ¬ (v1.toInt = 0) := fun h9 => c9 ((fi_eq rfl (by decide)).mpr h9)
    refine lv_iload_n hx hb dX2_addSinger_11 rfl (lv_at hl 2 rfl) ?_
    refine lv_iconst (v := 0) hx hb dX2_addSinger_12 (by decide) ?_
    refine lv_bipush (v := 9) hx hb dX2_addSinger_13 (by decide) ?_
    have hk_0 : (0 : Int32).toInt = 0 := by decide
    have hk_9 : (9 : Int32).toInt = 9 := by decide
    refine tk_Ni (As := [.int p2, .int 0, .int 9]) (rest := []) ⟨hx, hb, hml, hown, hts⟩ hK hG hZ hS (k_X12_within l D cy ld t _ p2 0 9) trivial ⟨va_cnB 3 hts (wl_in mw_262) rfl rfl rfl hK.2.2.2.1.1 (htl _ mw_2) hd_yX12_within ⟨(Nat.le_of_ble_eq_true rfl), (Nat.le_of_ble_eq_true rfl)⟩, htl _ mw_261, trivial⟩ (tk_w.pick [] rfl) rfl hl.1 rfl (Nat.le_of_ble_eq_true rfl) dX2_addSinger_15 ⟨(Nat.le_of_ble_eq_true rfl), (Nat.le_of_ble_eq_true rfl)⟩ (fun v9 H locs hpo hG hS hq9 => ?_)
    obtain ⟨hpo11, hpo12, hpo13, hpo14, hpo15⟩ := hpo
    refine lv_if_eq (tgt := 30) hx hb dX2_addSinger_18 (by decide) (fun c9 => ?_) (fun c9 => ?_)
    · have hc16 : v9.toInt = 0 := (fi_eq rfl (by decide)).mp c9
      refine lv_iconst (v := (-1)) hx hb dX2_addSinger_30 (by decide) ?_
      have hk_m1 : ((-1) : Int32).toInt = (-1) := by decide
      exact tk_iret (v := (-1)) hx hb hr rfl hlocks (show (-5) ≤ ((-1) : Int32).toInt ∧ ((-1) : Int32).toInt ≤ 7 from ⟨(by omega), (by omega)⟩) hG hS dX2_addSinger_31
    · have hc16 : ¬ (v9.toInt = 0) := fun h9 => c9 ((fi_eq rfl (by decide)).mpr h9)
      refine lv_iload_n hx hb dX2_addSinger_21 rfl (lv_at hl 3 rfl) ?_
      refine lv_iconst (v := 0) hx hb dX2_addSinger_22 (by decide) ?_
      refine lv_iconst (v := 1) hx hb dX2_addSinger_23 (by decide) ?_
      have hk_0 : (0 : Int32).toInt = 0 := by decide
      have hk_1 : (1 : Int32).toInt = 1 := by decide
      refine tk_Ni (As := [.int p3, .int 0, .int 1]) (rest := []) ⟨hx, hb, hml, hown, hts⟩ hK hG hZ hS (k_X12_within l D cy ld t _ p3 0 1) trivial ⟨va_cnB 3 hts (wl_in mw_262) rfl rfl rfl hK.2.2.2.1.1 (htl _ mw_2) hd_yX12_within ⟨(Nat.le_of_ble_eq_true rfl), (Nat.le_of_ble_eq_true rfl)⟩, htl _ mw_261, trivial⟩ (tk_w.pick [] rfl) rfl hl.1 rfl (Nat.le_of_ble_eq_true rfl) dX2_addSinger_24 ⟨(Nat.le_of_ble_eq_true rfl), (Nat.le_of_ble_eq_true rfl)⟩ (fun v17 H locs hpo hG hS hq9 => ?_)
      obtain ⟨hpo19, hpo20, hpo21, hpo22, hpo23⟩ := hpo
      refine lv_if_ne (tgt := 32) hx hb dX2_addSinger_27 (by decide) (fun c9 => ?_) (fun c9 => ?_)
      · have hc24 : ¬ (v17.toInt = 0) := fun h9 => c9 ((fi_eq rfl (by decide)).mpr h9)
        refine lv_aload_n hx hb dX2_addSinger_32 rfl (lv_at hl 0 rfl) ?_
        refine tk_get (ci := 2) (C := RX2) (T := TX2) (N := 20) (sp := (0, 0, 8, 0)) hx hb htl inX2 hown hK hG ht_a0 (by decide) tk_no rfl 0 (by decide) (htl _ mw_257) (fun _ h9 => h9) rfl dX2_addSinger_33 (fun v9 hf25 hV9 => ?_)
        obtain ⟨v26, rfl, ha_v26, hb_v26⟩ := hV9
        refine lv_bipush (v := 8) hx hb dX2_addSinger_36 (by decide) ?_
        refine lv_icmp_lt (tgt := 44) hx hb dX2_addSinger_38 (by decide) (fun c9 => ?_) (fun c9 => ?_)
        · have hc27 : v26.toInt < 8 := (fi_lt rfl (by decide)).mp c9
          refine lv_aload_n hx hb dX2_addSinger_44 rfl (lv_at hl 0 rfl) ?_
          refine tk_getk (ci := 2) (C := RX2) (T := TX2) (N := 20) (sp := (0, 0, 8, 0)) hx hb htl inX2 hown hK hG ht_a0 (by decide) tk_no rfl 0 (by decide) (htl _ mw_257) (fun _ h9 => h9) rfl hf25 dX2_addSinger_45 ?_
          refine lv_istore (lv' := [(4, .int v26), (0, .ref a0), (1, .int p1), (2, .int p2), (3, .int p3)]) hx hb dX2_addSinger_48 hl (by decide) rfl (fun ls hl => ?_)
          refine lv_aload_n hx hb dX2_addSinger_50 rfl (lv_at hl 1 rfl) ?_
          refine tk_get (ci := 2) (C := RX2) (T := TX2) (N := 20) (sp := (1, 20, 8, 0)) hx hb htl inX2 hown hK hG ht_a0 (by decide) tk_no rfl 1 (by decide) (htl _ mw_60) (fun _ h9 => h9) rfl dX2_addSinger_51 (fun v9 hf28 hV9 => ?_)
          obtain ⟨b29, rfl, ht_b29⟩ := hV9
          have ht_b29 : t b29 = (20, 8, 0) := ht_b29
          refine lv_iload hx hb dX2_addSinger_54 (lv_at hl 0 rfl) ?_
          refine lv_iload_n hx hb dX2_addSinger_56 rfl (lv_at hl 3 rfl) ?_
          refine tk_iast hx hb hK hG hS ht_b29 (by decide) (fun _ => Iff.rfl) tk_no rfl (by omega) (by omega) trivial (tk_w.of ht_b29 (by decide) (List.mem_of_getElem? (i := 0) rfl) (Nat.le_refl _) (Nat.le_refl _)) dX2_addSinger_57 (fun H locs hG hS hq9 => ?_)
          have hf25 := hf25.kept (hq9 _ (tk_ne ht_a0 ht_b29 (Or.inl (by decide))))
          refine lv_aload_n hx hb dX2_addSinger_58 rfl (lv_at hl 1 rfl) ?_
          refine tk_get (ci := 2) (C := RX2) (T := TX2) (N := 20) (sp := (1, 21, 8, 0)) hx hb htl inX2 hown hK hG ht_a0 (by decide) tk_no rfl 2 (by decide) (htl _ mw_61) (fun _ h9 => h9) rfl dX2_addSinger_59 (fun v9 hf31 hV9 => ?_)
          obtain ⟨b32, rfl, ht_b32⟩ := hV9
          have ht_b32 : t b32 = (21, 8, 0) := ht_b32
          refine lv_iload hx hb dX2_addSinger_62 (lv_at hl 0 rfl) ?_
          refine lv_iload_n hx hb dX2_addSinger_64 rfl (lv_at hl 4 rfl) ?_
          refine tk_iast hx hb hK hG hS ht_b32 (by decide) (fun _ => Iff.rfl) tk_no rfl (by omega) (by omega) (show 0 ≤ (p3 : Int32).toInt ∧ (p3 : Int32).toInt ≤ 1 from ⟨by omega, by omega⟩) (tk_w.of ht_b32 (by decide) (List.mem_of_getElem? (i := 1) rfl) (Nat.le_refl _) (Nat.le_refl _)) dX2_addSinger_65 (fun H locs hG hS hq9 => ?_)
          have hf25 := hf25.kept (hq9 _ (tk_ne ht_a0 ht_b32 (Or.inl (by decide))))
          refine lv_aload_n hx hb dX2_addSinger_66 rfl (lv_at hl 1 rfl) ?_
          refine tk_get (ci := 2) (C := RX2) (T := TX2) (N := 20) (sp := (1, 20, 8, 0)) hx hb htl inX2 hown hK hG ht_a0 (by decide) tk_no rfl 3 (by decide) (htl _ mw_62) (fun _ h9 => h9) rfl dX2_addSinger_67 (fun v9 hf34 hV9 => ?_)
          obtain ⟨b35, rfl, ht_b35⟩ := hV9
          have ht_b35 : t b35 = (20, 8, 0) := ht_b35
          refine lv_iload hx hb dX2_addSinger_70 (lv_at hl 0 rfl) ?_
          refine lv_iconst (v := 0) hx hb dX2_addSinger_72 (by decide) ?_
          refine tk_iast hx hb hK hG hS ht_b35 (by decide) (fun _ => Iff.rfl) tk_no rfl (by omega) (by omega) trivial (tk_w.of ht_b35 (by decide) (List.mem_of_getElem? (i := 0) rfl) (Nat.le_refl _) (Nat.le_refl _)) dX2_addSinger_73 (fun H locs hG hS hq9 => ?_)
          have hf25 := hf25.kept (hq9 _ (tk_ne ht_a0 ht_b35 (Or.inl (by decide))))
          refine lv_aload_n hx hb dX2_addSinger_74 rfl (lv_at hl 1 rfl) ?_
          refine tk_get (ci := 2) (C := RX2) (T := TX2) (N := 20) (sp := (9, 40, 10, 0)) hx hb htl inX2 hown hK hG ht_a0 (by decide) tk_no rfl 19 (by decide) (htl _ mw_77) (fun _ h9 => h9) rfl dX2_addSinger_75 (fun v9 hf37 hV9 => ?_)
          obtain ⟨rfl, ht_ld40⟩ := hV9
          have ht_ld40 : t (ld 40) = (10, 0, 0) := ht_ld40
          refine fx_top (v := .ref (ld 40)) rfl ?_
          refine tk_get (ci := 9) (C := RX9) (T := TX9) (N := 11) (sp := (1, 20, 8, 0)) hx hb htl inX9 hown hK hG ht_ld40 (by decide) tk_no rfl 0 (by decide) (htl _ mw_258) (fun _ h9 => h9) rfl dX2_addSinger_78 (fun v9 hf38 hV9 => ?_)
          obtain ⟨b39, rfl, ht_b39⟩ := hV9
          have ht_b39 : t b39 = (20, 8, 0) := ht_b39
          refine lv_iload hx hb dX2_addSinger_81 (lv_at hl 0 rfl) ?_
          refine lv_iload_n hx hb dX2_addSinger_83 rfl (lv_at hl 2 rfl) ?_
          refine tk_iast hx hb hK hG hS ht_b39 (by decide) (fun _ => Iff.rfl) tk_no rfl (by omega) (by omega) trivial (tk_w.of ht_b39 (by decide) (List.mem_of_getElem? (i := 0) rfl) (Nat.le_refl _) (Nat.le_refl _)) dX2_addSinger_84 (fun H locs hG hS hq9 => ?_)
          have hf25 := hf25.kept (hq9 _ (tk_ne ht_a0 ht_b39 (Or.inl (by decide))))
          refine lv_aload_n hx hb dX2_addSinger_85 rfl (lv_at hl 1 rfl) ?_
          refine tk_get (ci := 2) (C := RX2) (T := TX2) (N := 20) (sp := (9, 40, 10, 0)) hx hb htl inX2 hown hK hG ht_a0 (by decide) tk_no rfl 19 (by decide) (htl _ mw_77) (fun _ h9 => h9) rfl dX2_addSinger_86 (fun v9 hf41 hV9 => ?_)
          obtain ⟨rfl, ht_ld40⟩ := hV9
          have ht_ld40 : t (ld 40) = (10, 0, 0) := ht_ld40
          refine fx_top (v := .ref (ld 40)) rfl ?_
          refine tk_get (ci := 9) (C := RX9) (T := TX9) (N := 11) (sp := (1, 20, 8, 0)) hx hb htl inX9 hown hK hG ht_ld40 (by decide) tk_no rfl 1 (by decide) (htl _ mw_259) (fun _ h9 => h9) rfl dX2_addSinger_89 (fun v9 hf42 hV9 => ?_)
          obtain ⟨b43, rfl, ht_b43⟩ := hV9
          have ht_b43 : t b43 = (20, 8, 0) := ht_b43
          refine lv_iload hx hb dX2_addSinger_92 (lv_at hl 0 rfl) ?_
          refine lv_iconst (v := 0) hx hb dX2_addSinger_94 (by decide) ?_
          refine tk_iast hx hb hK hG hS ht_b43 (by decide) (fun _ => Iff.rfl) tk_no rfl (by omega) (by omega) trivial (tk_w.of ht_b43 (by decide) (List.mem_of_getElem? (i := 0) rfl) (Nat.le_refl _) (Nat.le_refl _)) dX2_addSinger_95 (fun H locs hG hS hq9 => ?_)
          have hf25 := hf25.kept (hq9 _ (tk_ne ht_a0 ht_b43 (Or.inl (by decide))))
          refine lv_aload_n hx hb dX2_addSinger_96 rfl (lv_at hl 1 rfl) ?_
          refine tk_get (ci := 2) (C := RX2) (T := TX2) (N := 20) (sp := (9, 40, 10, 0)) hx hb htl inX2 hown hK hG ht_a0 (by decide) tk_no rfl 19 (by decide) (htl _ mw_77) (fun _ h9 => h9) rfl dX2_addSinger_97 (fun v9 hf45 hV9 => ?_)
          obtain ⟨rfl, ht_ld40⟩ := hV9
          have ht_ld40 : t (ld 40) = (10, 0, 0) := ht_ld40
          refine fx_top (v := .ref (ld 40)) rfl ?_
          refine tk_get (ci := 9) (C := RX9) (T := TX9) (N := 11) (sp := (1, 20, 8, 0)) hx hb htl inX9 hown hK hG ht_ld40 (by decide) tk_no rfl 2 (by decide) (htl _ mw_260) (fun _ h9 => h9) rfl dX2_addSinger_100 (fun v9 hf46 hV9 => ?_)
          obtain ⟨b47, rfl, ht_b47⟩ := hV9
          have ht_b47 : t b47 = (20, 8, 0) := ht_b47
          refine lv_iload hx hb dX2_addSinger_103 (lv_at hl 0 rfl) ?_
          refine lv_iconst (v := 0) hx hb dX2_addSinger_105 (by decide) ?_
          refine tk_iast hx hb hK hG hS ht_b47 (by decide) (fun _ => Iff.rfl) tk_no rfl (by omega) (by omega) trivial (tk_w.of ht_b47 (by decide) (List.mem_of_getElem? (i := 0) rfl) (Nat.le_refl _) (Nat.le_refl _)) dX2_addSinger_106 (fun H locs hG hS hq9 => ?_)
          have hf25 := hf25.kept (hq9 _ (tk_ne ht_a0 ht_b47 (Or.inl (by decide))))
          refine lv_aload_n hx hb dX2_addSinger_107 rfl (lv_at hl 1 rfl) ?_
          refine lv_dup hx hb dX2_addSinger_108 rfl ?_
          refine tk_getk (ci := 2) (C := RX2) (T := TX2) (N := 20) (sp := (0, 0, 8, 0)) hx hb htl inX2 hown hK hG ht_a0 (by decide) tk_no rfl 0 (by decide) (htl _ mw_257) (fun _ h9 => h9) rfl hf25 dX2_addSinger_109 ?_
          refine lv_iconst (v := 1) hx hb dX2_addSinger_112 (by decide) ?_
          refine lv_iadd hx hb dX2_addSinger_113 ?_
          refine tk_add rfl (by decide) (by omega) (by omega) (fun v49 h_v49 => ?_)
          refine tk_put (ci := 2) (v := .int v49) (ty := .int) (C := RX2) (T := TX2) (N := 20) (sp := (0, 0, 8, 0)) hx hb htl inX2 tyX2 tyX2_ok nmX2 hown hK hG hS ht_a0 (by decide) tk_no rfl 0 (by decide) (htl _ mw_257) (fun _ h9 => h9) rfl (tyX2_ok 0 (by decide)) rfl rfl rfl (tk_Vi (by omega) (by omega)) (fun _ h => h) (tk_w.of ht_a0 (by decide) (List.mem_of_getElem? (i := 2) rfl) (Nat.le_refl _) (Nat.le_refl _)) dX2_addSinger_114 (fun H locs hG hS hf50 hq9 hj9 => ?_)
          refine lv_iload hx hb dX2_addSinger_117 (lv_at hl 0 rfl) ?_
          exact tk_iret (v := v26) hx hb hr rfl hlocks (show (-5) ≤ v26.toInt ∧ v26.toInt ≤ 7 from ⟨(by omega), (by omega)⟩) hG hS dX2_addSinger_119
        · have hc27 : ¬ (v26.toInt < 8) := fun h9 => c9 ((fi_lt rfl (by decide)).mpr h9)
          refine lv_bipush (v := (-5)) hx hb dX2_addSinger_41 (by decide) ?_
          have hk_m5 : ((-5) : Int32).toInt = (-5) := by decide
          exact tk_iret (v := (-5)) hx hb hr rfl hlocks (show (-5) ≤ ((-5) : Int32).toInt ∧ ((-5) : Int32).toInt ≤ 7 from ⟨(by omega), (by omega)⟩) hG hS dX2_addSinger_43
      · have hc24 : v17.toInt = 0 := (fi_eq rfl (by decide)).mp c9
        refine lv_iconst (v := (-1)) hx hb dX2_addSinger_30 (by decide) ?_
        have hk_m1 : ((-1) : Int32).toInt = (-1) := by decide
        exact tk_iret (v := (-1)) hx hb hr rfl hlocks (show (-5) ≤ ((-1) : Int32).toInt ∧ ((-1) : Int32).toInt ≤ 7 from ⟨(by omega), (by omega)⟩) hG hS dX2_addSinger_31
theorem dX2_addVerse_0 : decode cX2_addVerse 0 = .ok (.iload_n 1, 1) := by decide +kernel
theorem dX2_addVerse_1 : decode cX2_addVerse 1 = .ok (.iconst 1, 1) := by decide +kernel
theorem dX2_addVerse_2 : decode cX2_addVerse 2 = .ok (.bipush 99, 2) := by decide +kernel
theorem dX2_addVerse_4 : decode cX2_addVerse 4 = .ok (.invokestatic 94, 3) := by decide +kernel
theorem dX2_addVerse_7 : decode cX2_addVerse 7 = .ok (.ifCond .eq 12, 3) := by decide +kernel
theorem dX2_addVerse_19 : decode cX2_addVerse 19 = .ok (.iconst (-1), 1) := by decide +kernel
theorem dX2_addVerse_20 : decode cX2_addVerse 20 = .ok (.ireturn, 1) := by decide +kernel
theorem dX2_addVerse_10 : decode cX2_addVerse 10 = .ok (.iload_n 2, 1) := by decide +kernel
theorem dX2_addVerse_11 : decode cX2_addVerse 11 = .ok (.iconst 0, 1) := by decide +kernel
theorem dX2_addVerse_12 : decode cX2_addVerse 12 = .ok (.iconst 4, 1) := by decide +kernel
theorem dX2_addVerse_13 : decode cX2_addVerse 13 = .ok (.invokestatic 94, 3) := by decide +kernel
theorem dX2_addVerse_16 : decode cX2_addVerse 16 = .ok (.ifCond .ne 5, 3) := by decide +kernel
theorem dX2_addVerse_21 : decode cX2_addVerse 21 = .ok (.aload_n 0, 1) := by decide +kernel
theorem dX2_addVerse_22 : decode cX2_addVerse 22 = .ok (.getfield 71, 3) := by decide +kernel
theorem dX2_addVerse_25 : decode cX2_addVerse 25 = .ok (.bipush 10, 2) := by decide +kernel
theorem dX2_addVerse_27 : decode cX2_addVerse 27 = .ok (.if_icmp .lt 6, 3) := by decide +kernel
theorem dX2_addVerse_33 : decode cX2_addVerse 33 = .ok (.aload_n 0, 1) := by decide +kernel
theorem dX2_addVerse_34 : decode cX2_addVerse 34 = .ok (.getfield 21, 3) := by decide +kernel
theorem dX2_addVerse_37 : decode cX2_addVerse 37 = .ok (.aload_n 0, 1) := by decide +kernel
theorem dX2_addVerse_38 : decode cX2_addVerse 38 = .ok (.getfield 71, 3) := by decide +kernel
theorem dX2_addVerse_41 : decode cX2_addVerse 41 = .ok (.iload_n 1, 1) := by decide +kernel
theorem dX2_addVerse_42 : decode cX2_addVerse 42 = .ok (.iastore, 1) := by decide +kernel
theorem dX2_addVerse_43 : decode cX2_addVerse 43 = .ok (.aload_n 0, 1) := by decide +kernel
theorem dX2_addVerse_44 : decode cX2_addVerse 44 = .ok (.getfield 24, 3) := by decide +kernel
theorem dX2_addVerse_47 : decode cX2_addVerse 47 = .ok (.aload_n 0, 1) := by decide +kernel
theorem dX2_addVerse_48 : decode cX2_addVerse 48 = .ok (.getfield 71, 3) := by decide +kernel
theorem dX2_addVerse_51 : decode cX2_addVerse 51 = .ok (.iload_n 2, 1) := by decide +kernel
theorem dX2_addVerse_52 : decode cX2_addVerse 52 = .ok (.iastore, 1) := by decide +kernel
theorem dX2_addVerse_53 : decode cX2_addVerse 53 = .ok (.aload_n 0, 1) := by decide +kernel
theorem dX2_addVerse_54 : decode cX2_addVerse 54 = .ok (.dup, 1) := by decide +kernel
theorem dX2_addVerse_55 : decode cX2_addVerse 55 = .ok (.getfield 71, 3) := by decide +kernel
theorem dX2_addVerse_58 : decode cX2_addVerse 58 = .ok (.iconst 1, 1) := by decide +kernel
theorem dX2_addVerse_59 : decode cX2_addVerse 59 = .ok (.iadd, 1) := by decide +kernel
theorem dX2_addVerse_60 : decode cX2_addVerse 60 = .ok (.putfield 71, 3) := by decide +kernel
theorem dX2_addVerse_63 : decode cX2_addVerse 63 = .ok (.aload_n 0, 1) := by decide +kernel
theorem dX2_addVerse_64 : decode cX2_addVerse 64 = .ok (.getfield 71, 3) := by decide +kernel
theorem dX2_addVerse_67 : decode cX2_addVerse 67 = .ok (.iconst 1, 1) := by decide +kernel
theorem dX2_addVerse_68 : decode cX2_addVerse 68 = .ok (.isub, 1) := by decide +kernel
theorem dX2_addVerse_69 : decode cX2_addVerse 69 = .ok (.ireturn, 1) := by decide +kernel
theorem dX2_addVerse_30 : decode cX2_addVerse 30 = .ok (.bipush (-5), 2) := by decide +kernel
theorem dX2_addVerse_32 : decode cX2_addVerse 32 = .ok (.ireturn, 1) := by decide +kernel
set_option maxHeartbeats 4000000 in
set_option maxRecDepth 100000 in
theorem k_X2_addVerse (l : Launch) (D : va_G) (cy : Nat → ClassId) (ld : Nat → Nat) (t : tk_T) (a0 : Nat) (p1 : Int32) (p2 : Int32) (ht_a0 : t a0 = (3, 0, 0)) : Met l yX2_addVerse (wl yX2_addVerse cX2_addVerse 3 (some .int)) ({ frames := 4, cells := 0, slots := 0, locals := 210 }) (tp D cy ld t [] [.ref a0, .int p1, .int p2] (fun H => True)) (ti D cy ld t [] (fun r H => (-5) ≤ r.toInt ∧ r.toInt ≤ 9) (tk_w t [(20, 0, 0), (3, 0, 0)])) 0 0 (tk_w t [(20, 0, 0), (3, 0, 0)]) := by
  refine tk_met (y := yX2_addVerse) (cc := cX2_addVerse) (maxL := 3) (ret := (some .int)) (av := [.ref a0, .int p1, .int p2]) _ _ (by decide) (Nat.le_of_ble_eq_true rfl) ?_
  intro p e s m args below meth c hx hb hr hml hts htl hown hlocks hK H locs hH hG hS hB hZ ls hl
  have hown : s.vm.findClass RX2 = some m.cls := hown
  have hl : lv_has ls 3 [(0, .ref a0), (1, .int p1), (2, .int p2)] := hl
  have hr_p1 := tk_rng p1
  have hr_p2 := tk_rng p2
  refine lv_iload_n hx hb dX2_addVerse_0 rfl (lv_at hl 1 rfl) ?_
  refine lv_iconst (v := 1) hx hb dX2_addVerse_1 (by decide) ?_
  refine lv_bipush (v := 99) hx hb dX2_addVerse_2 (by decide) ?_
  have hk_1 : (1 : Int32).toInt = 1 := by decide
  have hk_99 : (99 : Int32).toInt = 99 := by decide
  refine tk_Ni (As := [.int p1, .int 1, .int 99]) (rest := []) ⟨hx, hb, hml, hown, hts⟩ hK hG hZ hS (k_X12_within l D cy ld t _ p1 1 99) trivial ⟨va_cnB 3 hts (wl_in mw_262) rfl rfl rfl hK.2.2.2.1.1 (htl _ mw_2) hd_yX12_within ⟨(Nat.le_of_ble_eq_true rfl), (Nat.le_of_ble_eq_true rfl)⟩, htl _ mw_261, trivial⟩ (tk_w.pick [] rfl) rfl hl.1 rfl (Nat.le_of_ble_eq_true rfl) dX2_addVerse_4 ⟨(Nat.le_of_ble_eq_true rfl), (Nat.le_of_ble_eq_true rfl)⟩ (fun v1 H locs hpo hG hS hq9 => ?_)
  obtain ⟨hpo3, hpo4, hpo5, hpo6, hpo7⟩ := hpo
  refine lv_if_eq (tgt := 19) hx hb dX2_addVerse_7 (by decide) (fun c9 => ?_) (fun c9 => ?_)
  · have hc8 : v1.toInt = 0 := (fi_eq rfl (by decide)).mp c9
    refine lv_iconst (v := (-1)) hx hb dX2_addVerse_19 (by decide) ?_
    have hk_m1 : ((-1) : Int32).toInt = (-1) := by decide
    exact tk_iret (v := (-1)) hx hb hr rfl hlocks (show (-5) ≤ ((-1) : Int32).toInt ∧ ((-1) : Int32).toInt ≤ 9 from ⟨(by omega), (by omega)⟩) hG hS dX2_addVerse_20
  · have hc8 : ¬ (v1.toInt = 0) := fun h9 => c9 ((fi_eq rfl (by decide)).mpr h9)
    refine lv_iload_n hx hb dX2_addVerse_10 rfl (lv_at hl 2 rfl) ?_
    refine lv_iconst (v := 0) hx hb dX2_addVerse_11 (by decide) ?_
    refine lv_iconst (v := 4) hx hb dX2_addVerse_12 (by decide) ?_
    have hk_0 : (0 : Int32).toInt = 0 := by decide
    have hk_4 : (4 : Int32).toInt = 4 := by decide
    refine tk_Ni (As := [.int p2, .int 0, .int 4]) (rest := []) ⟨hx, hb, hml, hown, hts⟩ hK hG hZ hS (k_X12_within l D cy ld t _ p2 0 4) trivial ⟨va_cnB 3 hts (wl_in mw_262) rfl rfl rfl hK.2.2.2.1.1 (htl _ mw_2) hd_yX12_within ⟨(Nat.le_of_ble_eq_true rfl), (Nat.le_of_ble_eq_true rfl)⟩, htl _ mw_261, trivial⟩ (tk_w.pick [] rfl) rfl hl.1 rfl (Nat.le_of_ble_eq_true rfl) dX2_addVerse_13 ⟨(Nat.le_of_ble_eq_true rfl), (Nat.le_of_ble_eq_true rfl)⟩ (fun v9 H locs hpo hG hS hq9 => ?_)
    obtain ⟨hpo11, hpo12, hpo13, hpo14, hpo15⟩ := hpo
    refine lv_if_ne (tgt := 21) hx hb dX2_addVerse_16 (by decide) (fun c9 => ?_) (fun c9 => ?_)
    · have hc16 : ¬ (v9.toInt = 0) := fun h9 => c9 ((fi_eq rfl (by decide)).mpr h9)
      refine lv_aload_n hx hb dX2_addVerse_21 rfl (lv_at hl 0 rfl) ?_
      refine tk_get (ci := 2) (C := RX2) (T := TX2) (N := 20) (sp := (0, 0, 10, 0)) hx hb htl inX2 hown hK hG ht_a0 (by decide) tk_no rfl 4 (by decide) (htl _ mw_333) (fun _ h9 => h9) rfl dX2_addVerse_22 (fun v9 hf17 hV9 => ?_)
      obtain ⟨v18, rfl, ha_v18, hb_v18⟩ := hV9
      refine lv_bipush (v := 10) hx hb dX2_addVerse_25 (by decide) ?_
      refine lv_icmp_lt (tgt := 33) hx hb dX2_addVerse_27 (by decide) (fun c9 => ?_) (fun c9 => ?_)
      · have hc19 : v18.toInt < 10 := (fi_lt rfl (by decide)).mp c9
        refine lv_aload_n hx hb dX2_addVerse_33 rfl (lv_at hl 0 rfl) ?_
        refine tk_get (ci := 2) (C := RX2) (T := TX2) (N := 20) (sp := (1, 20, 10, 0)) hx hb htl inX2 hown hK hG ht_a0 (by decide) tk_no rfl 5 (by decide) (htl _ mw_63) (fun _ h9 => h9) rfl dX2_addVerse_34 (fun v9 hf20 hV9 => ?_)
        obtain ⟨b21, rfl, ht_b21⟩ := hV9
        have ht_b21 : t b21 = (20, 10, 0) := ht_b21
        refine lv_aload_n hx hb dX2_addVerse_37 rfl (lv_at hl 0 rfl) ?_
        refine tk_getk (ci := 2) (C := RX2) (T := TX2) (N := 20) (sp := (0, 0, 10, 0)) hx hb htl inX2 hown hK hG ht_a0 (by decide) tk_no rfl 4 (by decide) (htl _ mw_333) (fun _ h9 => h9) rfl hf17 dX2_addVerse_38 ?_
        refine lv_iload_n hx hb dX2_addVerse_41 rfl (lv_at hl 1 rfl) ?_
        refine tk_iast hx hb hK hG hS ht_b21 (by decide) (fun _ => Iff.rfl) tk_no rfl (by omega) (by omega) trivial (tk_w.of ht_b21 (by decide) (List.mem_of_getElem? (i := 0) rfl) (Nat.le_refl _) (Nat.le_refl _)) dX2_addVerse_42 (fun H locs hG hS hq9 => ?_)
        have hf17 := hf17.kept (hq9 _ (tk_ne ht_a0 ht_b21 (Or.inl (by decide))))
        refine lv_aload_n hx hb dX2_addVerse_43 rfl (lv_at hl 0 rfl) ?_
        refine tk_get (ci := 2) (C := RX2) (T := TX2) (N := 20) (sp := (1, 20, 10, 0)) hx hb htl inX2 hown hK hG ht_a0 (by decide) tk_no rfl 6 (by decide) (htl _ mw_64) (fun _ h9 => h9) rfl dX2_addVerse_44 (fun v9 hf23 hV9 => ?_)
        obtain ⟨b24, rfl, ht_b24⟩ := hV9
        have ht_b24 : t b24 = (20, 10, 0) := ht_b24
        refine lv_aload_n hx hb dX2_addVerse_47 rfl (lv_at hl 0 rfl) ?_
        refine tk_getk (ci := 2) (C := RX2) (T := TX2) (N := 20) (sp := (0, 0, 10, 0)) hx hb htl inX2 hown hK hG ht_a0 (by decide) tk_no rfl 4 (by decide) (htl _ mw_333) (fun _ h9 => h9) rfl hf17 dX2_addVerse_48 ?_
        refine lv_iload_n hx hb dX2_addVerse_51 rfl (lv_at hl 2 rfl) ?_
        refine tk_iast hx hb hK hG hS ht_b24 (by decide) (fun _ => Iff.rfl) tk_no rfl (by omega) (by omega) trivial (tk_w.of ht_b24 (by decide) (List.mem_of_getElem? (i := 0) rfl) (Nat.le_refl _) (Nat.le_refl _)) dX2_addVerse_52 (fun H locs hG hS hq9 => ?_)
        have hf17 := hf17.kept (hq9 _ (tk_ne ht_a0 ht_b24 (Or.inl (by decide))))
        refine lv_aload_n hx hb dX2_addVerse_53 rfl (lv_at hl 0 rfl) ?_
        refine lv_dup hx hb dX2_addVerse_54 rfl ?_
        refine tk_getk (ci := 2) (C := RX2) (T := TX2) (N := 20) (sp := (0, 0, 10, 0)) hx hb htl inX2 hown hK hG ht_a0 (by decide) tk_no rfl 4 (by decide) (htl _ mw_333) (fun _ h9 => h9) rfl hf17 dX2_addVerse_55 ?_
        refine lv_iconst (v := 1) hx hb dX2_addVerse_58 (by decide) ?_
        refine lv_iadd hx hb dX2_addVerse_59 ?_
        refine tk_add rfl (by decide) (by omega) (by omega) (fun v26 h_v26 => ?_)
        refine tk_put (ci := 2) (v := .int v26) (ty := .int) (C := RX2) (T := TX2) (N := 20) (sp := (0, 0, 10, 0)) hx hb htl inX2 tyX2 tyX2_ok nmX2 hown hK hG hS ht_a0 (by decide) tk_no rfl 4 (by decide) (htl _ mw_333) (fun _ h9 => h9) rfl (tyX2_ok 4 (by decide)) rfl rfl rfl (tk_Vi (by omega) (by omega)) (fun _ h => h) (tk_w.of ht_a0 (by decide) (List.mem_of_getElem? (i := 1) rfl) (Nat.le_refl _) (Nat.le_refl _)) dX2_addVerse_60 (fun H locs hG hS hf27 hq9 hj9 => ?_)
        refine lv_aload_n hx hb dX2_addVerse_63 rfl (lv_at hl 0 rfl) ?_
        refine tk_getk (ci := 2) (C := RX2) (T := TX2) (N := 20) (sp := (0, 0, 10, 0)) hx hb htl inX2 hown hK hG ht_a0 (by decide) tk_no rfl 4 (by decide) (htl _ mw_333) (fun _ h9 => h9) rfl hf27 dX2_addVerse_64 ?_
        refine lv_iconst (v := 1) hx hb dX2_addVerse_67 (by decide) ?_
        refine lv_isub hx hb dX2_addVerse_68 ?_
        refine tk_sub rfl (by decide) (by omega) (by omega) (fun v29 h_v29 => ?_)
        exact tk_iret (v := v29) hx hb hr rfl hlocks (show (-5) ≤ v29.toInt ∧ v29.toInt ≤ 9 from ⟨(by omega), (by omega)⟩) hG hS dX2_addVerse_69
      · have hc19 : ¬ (v18.toInt < 10) := fun h9 => c9 ((fi_lt rfl (by decide)).mpr h9)
        refine lv_bipush (v := (-5)) hx hb dX2_addVerse_30 (by decide) ?_
        have hk_m5 : ((-5) : Int32).toInt = (-5) := by decide
        exact tk_iret (v := (-5)) hx hb hr rfl hlocks (show (-5) ≤ ((-5) : Int32).toInt ∧ ((-5) : Int32).toInt ≤ 9 from ⟨(by omega), (by omega)⟩) hG hS dX2_addVerse_32
    · have hc16 : v9.toInt = 0 := (fi_eq rfl (by decide)).mp c9
      refine lv_iconst (v := (-1)) hx hb dX2_addVerse_19 (by decide) ?_
      have hk_m1 : ((-1) : Int32).toInt = (-1) := by decide
      exact tk_iret (v := (-1)) hx hb hr rfl hlocks (show (-5) ≤ ((-1) : Int32).toInt ∧ ((-1) : Int32).toInt ≤ 9 from ⟨(by omega), (by omega)⟩) hG hS dX2_addVerse_20
theorem dX2_addPart_0 : decode cX2_addPart 0 = .ok (.iload_n 1, 1) := by decide +kernel
theorem dX2_addPart_1 : decode cX2_addPart 1 = .ok (.iconst 1, 1) := by decide +kernel
theorem dX2_addPart_2 : decode cX2_addPart 2 = .ok (.bipush 99, 2) := by decide +kernel
theorem dX2_addPart_4 : decode cX2_addPart 4 = .ok (.invokestatic 94, 3) := by decide +kernel
theorem dX2_addPart_7 : decode cX2_addPart 7 = .ok (.ifCond .eq 22, 3) := by decide +kernel
theorem dX2_addPart_29 : decode cX2_addPart 29 = .ok (.iconst (-1), 1) := by decide +kernel
theorem dX2_addPart_30 : decode cX2_addPart 30 = .ok (.ireturn, 1) := by decide +kernel
theorem dX2_addPart_10 : decode cX2_addPart 10 = .ok (.iload_n 2, 1) := by decide +kernel
theorem dX2_addPart_11 : decode cX2_addPart 11 = .ok (.iconst 0, 1) := by decide +kernel
theorem dX2_addPart_12 : decode cX2_addPart 12 = .ok (.iconst 4, 1) := by decide +kernel
theorem dX2_addPart_13 : decode cX2_addPart 13 = .ok (.invokestatic 94, 3) := by decide +kernel
theorem dX2_addPart_16 : decode cX2_addPart 16 = .ok (.ifCond .eq 13, 3) := by decide +kernel
theorem dX2_addPart_19 : decode cX2_addPart 19 = .ok (.iload_n 3, 1) := by decide +kernel
theorem dX2_addPart_20 : decode cX2_addPart 20 = .ok (.iconst 1, 1) := by decide +kernel
theorem dX2_addPart_21 : decode cX2_addPart 21 = .ok (.bipush 9, 2) := by decide +kernel
theorem dX2_addPart_23 : decode cX2_addPart 23 = .ok (.invokestatic 94, 3) := by decide +kernel
theorem dX2_addPart_26 : decode cX2_addPart 26 = .ok (.ifCond .ne 5, 3) := by decide +kernel
theorem dX2_addPart_31 : decode cX2_addPart 31 = .ok (.aload_n 0, 1) := by decide +kernel
theorem dX2_addPart_32 : decode cX2_addPart 32 = .ok (.getfield 74, 3) := by decide +kernel
theorem dX2_addPart_35 : decode cX2_addPart 35 = .ok (.bipush 10, 2) := by decide +kernel
theorem dX2_addPart_37 : decode cX2_addPart 37 = .ok (.if_icmp .lt 6, 3) := by decide +kernel
theorem dX2_addPart_43 : decode cX2_addPart 43 = .ok (.aload_n 0, 1) := by decide +kernel
theorem dX2_addPart_44 : decode cX2_addPart 44 = .ok (.getfield 27, 3) := by decide +kernel
theorem dX2_addPart_47 : decode cX2_addPart 47 = .ok (.aload_n 0, 1) := by decide +kernel
theorem dX2_addPart_48 : decode cX2_addPart 48 = .ok (.getfield 74, 3) := by decide +kernel
theorem dX2_addPart_51 : decode cX2_addPart 51 = .ok (.iload_n 1, 1) := by decide +kernel
theorem dX2_addPart_52 : decode cX2_addPart 52 = .ok (.iastore, 1) := by decide +kernel
theorem dX2_addPart_53 : decode cX2_addPart 53 = .ok (.aload_n 0, 1) := by decide +kernel
theorem dX2_addPart_54 : decode cX2_addPart 54 = .ok (.getfield 30, 3) := by decide +kernel
theorem dX2_addPart_57 : decode cX2_addPart 57 = .ok (.aload_n 0, 1) := by decide +kernel
theorem dX2_addPart_58 : decode cX2_addPart 58 = .ok (.getfield 74, 3) := by decide +kernel
theorem dX2_addPart_61 : decode cX2_addPart 61 = .ok (.iload_n 2, 1) := by decide +kernel
theorem dX2_addPart_62 : decode cX2_addPart 62 = .ok (.iastore, 1) := by decide +kernel
theorem dX2_addPart_63 : decode cX2_addPart 63 = .ok (.aload_n 0, 1) := by decide +kernel
theorem dX2_addPart_64 : decode cX2_addPart 64 = .ok (.getfield 33, 3) := by decide +kernel
theorem dX2_addPart_67 : decode cX2_addPart 67 = .ok (.aload_n 0, 1) := by decide +kernel
theorem dX2_addPart_68 : decode cX2_addPart 68 = .ok (.getfield 74, 3) := by decide +kernel
theorem dX2_addPart_71 : decode cX2_addPart 71 = .ok (.iload_n 3, 1) := by decide +kernel
theorem dX2_addPart_72 : decode cX2_addPart 72 = .ok (.iastore, 1) := by decide +kernel
theorem dX2_addPart_73 : decode cX2_addPart 73 = .ok (.aload_n 0, 1) := by decide +kernel
theorem dX2_addPart_74 : decode cX2_addPart 74 = .ok (.dup, 1) := by decide +kernel
theorem dX2_addPart_75 : decode cX2_addPart 75 = .ok (.getfield 74, 3) := by decide +kernel
theorem dX2_addPart_78 : decode cX2_addPart 78 = .ok (.iconst 1, 1) := by decide +kernel
theorem dX2_addPart_79 : decode cX2_addPart 79 = .ok (.iadd, 1) := by decide +kernel
theorem dX2_addPart_80 : decode cX2_addPart 80 = .ok (.putfield 74, 3) := by decide +kernel
theorem dX2_addPart_83 : decode cX2_addPart 83 = .ok (.aload_n 0, 1) := by decide +kernel
theorem dX2_addPart_84 : decode cX2_addPart 84 = .ok (.getfield 74, 3) := by decide +kernel
theorem dX2_addPart_87 : decode cX2_addPart 87 = .ok (.iconst 1, 1) := by decide +kernel
theorem dX2_addPart_88 : decode cX2_addPart 88 = .ok (.isub, 1) := by decide +kernel
theorem dX2_addPart_89 : decode cX2_addPart 89 = .ok (.ireturn, 1) := by decide +kernel
theorem dX2_addPart_40 : decode cX2_addPart 40 = .ok (.bipush (-5), 2) := by decide +kernel
theorem dX2_addPart_42 : decode cX2_addPart 42 = .ok (.ireturn, 1) := by decide +kernel
set_option maxHeartbeats 4000000 in
set_option maxRecDepth 100000 in
theorem k_X2_addPart (l : Launch) (D : va_G) (cy : Nat → ClassId) (ld : Nat → Nat) (t : tk_T) (a0 : Nat) (p1 : Int32) (p2 : Int32) (p3 : Int32) (ht_a0 : t a0 = (3, 0, 0)) : Met l yX2_addPart (wl yX2_addPart cX2_addPart 4 (some .int)) ({ frames := 4, cells := 0, slots := 0, locals := 210 }) (tp D cy ld t [] [.ref a0, .int p1, .int p2, .int p3] (fun H => True)) (ti D cy ld t [] (fun r H => (-5) ≤ r.toInt ∧ r.toInt ≤ 9) (tk_w t [(20, 0, 0), (3, 0, 0)])) 0 0 (tk_w t [(20, 0, 0), (3, 0, 0)]) := by
  refine tk_met (y := yX2_addPart) (cc := cX2_addPart) (maxL := 4) (ret := (some .int)) (av := [.ref a0, .int p1, .int p2, .int p3]) _ _ (by decide) (Nat.le_of_ble_eq_true rfl) ?_
  intro p e s m args below meth c hx hb hr hml hts htl hown hlocks hK H locs hH hG hS hB hZ ls hl
  have hown : s.vm.findClass RX2 = some m.cls := hown
  have hl : lv_has ls 4 [(0, .ref a0), (1, .int p1), (2, .int p2), (3, .int p3)] := hl
  have hr_p1 := tk_rng p1
  have hr_p2 := tk_rng p2
  have hr_p3 := tk_rng p3
  refine lv_iload_n hx hb dX2_addPart_0 rfl (lv_at hl 1 rfl) ?_
  refine lv_iconst (v := 1) hx hb dX2_addPart_1 (by decide) ?_
  refine lv_bipush (v := 99) hx hb dX2_addPart_2 (by decide) ?_
  have hk_1 : (1 : Int32).toInt = 1 := by decide
  have hk_99 : (99 : Int32).toInt = 99 := by decide
  refine tk_Ni (As := [.int p1, .int 1, .int 99]) (rest := []) ⟨hx, hb, hml, hown, hts⟩ hK hG hZ hS (k_X12_within l D cy ld t _ p1 1 99) trivial ⟨va_cnB 3 hts (wl_in mw_262) rfl rfl rfl hK.2.2.2.1.1 (htl _ mw_2) hd_yX12_within ⟨(Nat.le_of_ble_eq_true rfl), (Nat.le_of_ble_eq_true rfl)⟩, htl _ mw_261, trivial⟩ (tk_w.pick [] rfl) rfl hl.1 rfl (Nat.le_of_ble_eq_true rfl) dX2_addPart_4 ⟨(Nat.le_of_ble_eq_true rfl), (Nat.le_of_ble_eq_true rfl)⟩ (fun v1 H locs hpo hG hS hq9 => ?_)
  obtain ⟨hpo3, hpo4, hpo5, hpo6, hpo7⟩ := hpo
  refine lv_if_eq (tgt := 29) hx hb dX2_addPart_7 (by decide) (fun c9 => ?_) (fun c9 => ?_)
  · have hc8 : v1.toInt = 0 := (fi_eq rfl (by decide)).mp c9
    refine lv_iconst (v := (-1)) hx hb dX2_addPart_29 (by decide) ?_
    have hk_m1 : ((-1) : Int32).toInt = (-1) := by decide
    exact tk_iret (v := (-1)) hx hb hr rfl hlocks (show (-5) ≤ ((-1) : Int32).toInt ∧ ((-1) : Int32).toInt ≤ 9 from ⟨(by omega), (by omega)⟩) hG hS dX2_addPart_30
  · have hc8 : ¬ (v1.toInt = 0) := fun h9 => c9 ((fi_eq rfl (by decide)).mpr h9)
    refine lv_iload_n hx hb dX2_addPart_10 rfl (lv_at hl 2 rfl) ?_
    refine lv_iconst (v := 0) hx hb dX2_addPart_11 (by decide) ?_
    refine lv_iconst (v := 4) hx hb dX2_addPart_12 (by decide) ?_
    have hk_0 : (0 : Int32).toInt = 0 := by decide
    have hk_4 : (4 : Int32).toInt = 4 := by decide
    refine tk_Ni (As := [.int p2, .int 0, .int 4]) (rest := []) ⟨hx, hb, hml, hown, hts⟩ hK hG hZ hS (k_X12_within l D cy ld t _ p2 0 4) trivial ⟨va_cnB 3 hts (wl_in mw_262) rfl rfl rfl hK.2.2.2.1.1 (htl _ mw_2) hd_yX12_within ⟨(Nat.le_of_ble_eq_true rfl), (Nat.le_of_ble_eq_true rfl)⟩, htl _ mw_261, trivial⟩ (tk_w.pick [] rfl) rfl hl.1 rfl (Nat.le_of_ble_eq_true rfl) dX2_addPart_13 ⟨(Nat.le_of_ble_eq_true rfl), (Nat.le_of_ble_eq_true rfl)⟩ (fun v9 H locs hpo hG hS hq9 => ?_)
    obtain ⟨hpo11, hpo12, hpo13, hpo14, hpo15⟩ := hpo
    refine lv_if_eq (tgt := 29) hx hb dX2_addPart_16 (by decide) (fun c9 => ?_) (fun c9 => ?_)
    · have hc16 : v9.toInt = 0 := (fi_eq rfl (by decide)).mp c9
      refine lv_iconst (v := (-1)) hx hb dX2_addPart_29 (by decide) ?_
      have hk_m1 : ((-1) : Int32).toInt = (-1) := by decide
      exact tk_iret (v := (-1)) hx hb hr rfl hlocks (show (-5) ≤ ((-1) : Int32).toInt ∧ ((-1) : Int32).toInt ≤ 9 from ⟨(by omega), (by omega)⟩) hG hS dX2_addPart_30
    · have hc16 : ¬ (v9.toInt = 0) := fun h9 => c9 ((fi_eq rfl (by decide)).mpr h9)
      refine lv_iload_n hx hb dX2_addPart_19 rfl (lv_at hl 3 rfl) ?_
      refine lv_iconst (v := 1) hx hb dX2_addPart_20 (by decide) ?_
      refine lv_bipush (v := 9) hx hb dX2_addPart_21 (by decide) ?_
      have hk_1 : (1 : Int32).toInt = 1 := by decide
      have hk_9 : (9 : Int32).toInt = 9 := by decide
      refine tk_Ni (As := [.int p3, .int 1, .int 9]) (rest := []) ⟨hx, hb, hml, hown, hts⟩ hK hG hZ hS (k_X12_within l D cy ld t _ p3 1 9) trivial ⟨va_cnB 3 hts (wl_in mw_262) rfl rfl rfl hK.2.2.2.1.1 (htl _ mw_2) hd_yX12_within ⟨(Nat.le_of_ble_eq_true rfl), (Nat.le_of_ble_eq_true rfl)⟩, htl _ mw_261, trivial⟩ (tk_w.pick [] rfl) rfl hl.1 rfl (Nat.le_of_ble_eq_true rfl) dX2_addPart_23 ⟨(Nat.le_of_ble_eq_true rfl), (Nat.le_of_ble_eq_true rfl)⟩ (fun v17 H locs hpo hG hS hq9 => ?_)
      obtain ⟨hpo19, hpo20, hpo21, hpo22, hpo23⟩ := hpo
      refine lv_if_ne (tgt := 31) hx hb dX2_addPart_26 (by decide) (fun c9 => ?_) (fun c9 => ?_)
      · have hc24 : ¬ (v17.toInt = 0) := fun h9 => c9 ((fi_eq rfl (by decide)).mpr h9)
        refine lv_aload_n hx hb dX2_addPart_31 rfl (lv_at hl 0 rfl) ?_
        refine tk_get (ci := 2) (C := RX2) (T := TX2) (N := 20) (sp := (0, 0, 10, 0)) hx hb htl inX2 hown hK hG ht_a0 (by decide) tk_no rfl 7 (by decide) (htl _ mw_369) (fun _ h9 => h9) rfl dX2_addPart_32 (fun v9 hf25 hV9 => ?_)
        obtain ⟨v26, rfl, ha_v26, hb_v26⟩ := hV9
        refine lv_bipush (v := 10) hx hb dX2_addPart_35 (by decide) ?_
        refine lv_icmp_lt (tgt := 43) hx hb dX2_addPart_37 (by decide) (fun c9 => ?_) (fun c9 => ?_)
        · have hc27 : v26.toInt < 10 := (fi_lt rfl (by decide)).mp c9
          refine lv_aload_n hx hb dX2_addPart_43 rfl (lv_at hl 0 rfl) ?_
          refine tk_get (ci := 2) (C := RX2) (T := TX2) (N := 20) (sp := (1, 20, 10, 0)) hx hb htl inX2 hown hK hG ht_a0 (by decide) tk_no rfl 8 (by decide) (htl _ mw_65) (fun _ h9 => h9) rfl dX2_addPart_44 (fun v9 hf28 hV9 => ?_)
          obtain ⟨b29, rfl, ht_b29⟩ := hV9
          have ht_b29 : t b29 = (20, 10, 0) := ht_b29
          refine lv_aload_n hx hb dX2_addPart_47 rfl (lv_at hl 0 rfl) ?_
          refine tk_getk (ci := 2) (C := RX2) (T := TX2) (N := 20) (sp := (0, 0, 10, 0)) hx hb htl inX2 hown hK hG ht_a0 (by decide) tk_no rfl 7 (by decide) (htl _ mw_369) (fun _ h9 => h9) rfl hf25 dX2_addPart_48 ?_
          refine lv_iload_n hx hb dX2_addPart_51 rfl (lv_at hl 1 rfl) ?_
          refine tk_iast hx hb hK hG hS ht_b29 (by decide) (fun _ => Iff.rfl) tk_no rfl (by omega) (by omega) trivial (tk_w.of ht_b29 (by decide) (List.mem_of_getElem? (i := 0) rfl) (Nat.le_refl _) (Nat.le_refl _)) dX2_addPart_52 (fun H locs hG hS hq9 => ?_)
          have hf25 := hf25.kept (hq9 _ (tk_ne ht_a0 ht_b29 (Or.inl (by decide))))
          refine lv_aload_n hx hb dX2_addPart_53 rfl (lv_at hl 0 rfl) ?_
          refine tk_get (ci := 2) (C := RX2) (T := TX2) (N := 20) (sp := (1, 20, 10, 0)) hx hb htl inX2 hown hK hG ht_a0 (by decide) tk_no rfl 9 (by decide) (htl _ mw_66) (fun _ h9 => h9) rfl dX2_addPart_54 (fun v9 hf31 hV9 => ?_)
          obtain ⟨b32, rfl, ht_b32⟩ := hV9
          have ht_b32 : t b32 = (20, 10, 0) := ht_b32
          refine lv_aload_n hx hb dX2_addPart_57 rfl (lv_at hl 0 rfl) ?_
          refine tk_getk (ci := 2) (C := RX2) (T := TX2) (N := 20) (sp := (0, 0, 10, 0)) hx hb htl inX2 hown hK hG ht_a0 (by decide) tk_no rfl 7 (by decide) (htl _ mw_369) (fun _ h9 => h9) rfl hf25 dX2_addPart_58 ?_
          refine lv_iload_n hx hb dX2_addPart_61 rfl (lv_at hl 2 rfl) ?_
          refine tk_iast hx hb hK hG hS ht_b32 (by decide) (fun _ => Iff.rfl) tk_no rfl (by omega) (by omega) trivial (tk_w.of ht_b32 (by decide) (List.mem_of_getElem? (i := 0) rfl) (Nat.le_refl _) (Nat.le_refl _)) dX2_addPart_62 (fun H locs hG hS hq9 => ?_)
          have hf25 := hf25.kept (hq9 _ (tk_ne ht_a0 ht_b32 (Or.inl (by decide))))
          refine lv_aload_n hx hb dX2_addPart_63 rfl (lv_at hl 0 rfl) ?_
          refine tk_get (ci := 2) (C := RX2) (T := TX2) (N := 20) (sp := (1, 20, 10, 0)) hx hb htl inX2 hown hK hG ht_a0 (by decide) tk_no rfl 10 (by decide) (htl _ mw_67) (fun _ h9 => h9) rfl dX2_addPart_64 (fun v9 hf34 hV9 => ?_)
          obtain ⟨b35, rfl, ht_b35⟩ := hV9
          have ht_b35 : t b35 = (20, 10, 0) := ht_b35
          refine lv_aload_n hx hb dX2_addPart_67 rfl (lv_at hl 0 rfl) ?_
          refine tk_getk (ci := 2) (C := RX2) (T := TX2) (N := 20) (sp := (0, 0, 10, 0)) hx hb htl inX2 hown hK hG ht_a0 (by decide) tk_no rfl 7 (by decide) (htl _ mw_369) (fun _ h9 => h9) rfl hf25 dX2_addPart_68 ?_
          refine lv_iload_n hx hb dX2_addPart_71 rfl (lv_at hl 3 rfl) ?_
          refine tk_iast hx hb hK hG hS ht_b35 (by decide) (fun _ => Iff.rfl) tk_no rfl (by omega) (by omega) trivial (tk_w.of ht_b35 (by decide) (List.mem_of_getElem? (i := 0) rfl) (Nat.le_refl _) (Nat.le_refl _)) dX2_addPart_72 (fun H locs hG hS hq9 => ?_)
          have hf25 := hf25.kept (hq9 _ (tk_ne ht_a0 ht_b35 (Or.inl (by decide))))
          refine lv_aload_n hx hb dX2_addPart_73 rfl (lv_at hl 0 rfl) ?_
          refine lv_dup hx hb dX2_addPart_74 rfl ?_
          refine tk_getk (ci := 2) (C := RX2) (T := TX2) (N := 20) (sp := (0, 0, 10, 0)) hx hb htl inX2 hown hK hG ht_a0 (by decide) tk_no rfl 7 (by decide) (htl _ mw_369) (fun _ h9 => h9) rfl hf25 dX2_addPart_75 ?_
          refine lv_iconst (v := 1) hx hb dX2_addPart_78 (by decide) ?_
          refine lv_iadd hx hb dX2_addPart_79 ?_
          refine tk_add rfl (by decide) (by omega) (by omega) (fun v37 h_v37 => ?_)
          refine tk_put (ci := 2) (v := .int v37) (ty := .int) (C := RX2) (T := TX2) (N := 20) (sp := (0, 0, 10, 0)) hx hb htl inX2 tyX2 tyX2_ok nmX2 hown hK hG hS ht_a0 (by decide) tk_no rfl 7 (by decide) (htl _ mw_369) (fun _ h9 => h9) rfl (tyX2_ok 7 (by decide)) rfl rfl rfl (tk_Vi (by omega) (by omega)) (fun _ h => h) (tk_w.of ht_a0 (by decide) (List.mem_of_getElem? (i := 1) rfl) (Nat.le_refl _) (Nat.le_refl _)) dX2_addPart_80 (fun H locs hG hS hf38 hq9 hj9 => ?_)
          refine lv_aload_n hx hb dX2_addPart_83 rfl (lv_at hl 0 rfl) ?_
          refine tk_getk (ci := 2) (C := RX2) (T := TX2) (N := 20) (sp := (0, 0, 10, 0)) hx hb htl inX2 hown hK hG ht_a0 (by decide) tk_no rfl 7 (by decide) (htl _ mw_369) (fun _ h9 => h9) rfl hf38 dX2_addPart_84 ?_
          refine lv_iconst (v := 1) hx hb dX2_addPart_87 (by decide) ?_
          refine lv_isub hx hb dX2_addPart_88 ?_
          refine tk_sub rfl (by decide) (by omega) (by omega) (fun v40 h_v40 => ?_)
          exact tk_iret (v := v40) hx hb hr rfl hlocks (show (-5) ≤ v40.toInt ∧ v40.toInt ≤ 9 from ⟨(by omega), (by omega)⟩) hG hS dX2_addPart_89
        · have hc27 : ¬ (v26.toInt < 10) := fun h9 => c9 ((fi_lt rfl (by decide)).mpr h9)
          refine lv_bipush (v := (-5)) hx hb dX2_addPart_40 (by decide) ?_
          have hk_m5 : ((-5) : Int32).toInt = (-5) := by decide
          exact tk_iret (v := (-5)) hx hb hr rfl hlocks (show (-5) ≤ ((-5) : Int32).toInt ∧ ((-5) : Int32).toInt ≤ 9 from ⟨(by omega), (by omega)⟩) hG hS dX2_addPart_42
      · have hc24 : v17.toInt = 0 := (fi_eq rfl (by decide)).mp c9
        refine lv_iconst (v := (-1)) hx hb dX2_addPart_29 (by decide) ?_
        have hk_m1 : ((-1) : Int32).toInt = (-1) := by decide
        exact tk_iret (v := (-1)) hx hb hr rfl hlocks (show (-5) ≤ ((-1) : Int32).toInt ∧ ((-1) : Int32).toInt ≤ 9 from ⟨(by omega), (by omega)⟩) hG hS dX2_addPart_30
theorem dX2_addLaw_0 : decode cX2_addLaw 0 = .ok (.aload_n 0, 1) := by decide +kernel
theorem dX2_addLaw_1 : decode cX2_addLaw 1 = .ok (.getfield 80, 3) := by decide +kernel
theorem dX2_addLaw_4 : decode cX2_addLaw 4 = .ok (.bipush 6, 2) := by decide +kernel
theorem dX2_addLaw_6 : decode cX2_addLaw 6 = .ok (.if_icmp .lt 6, 3) := by decide +kernel
theorem dX2_addLaw_12 : decode cX2_addLaw 12 = .ok (.aload_n 0, 1) := by decide +kernel
theorem dX2_addLaw_13 : decode cX2_addLaw 13 = .ok (.getfield 41, 3) := by decide +kernel
theorem dX2_addLaw_16 : decode cX2_addLaw 16 = .ok (.aload_n 0, 1) := by decide +kernel
theorem dX2_addLaw_17 : decode cX2_addLaw 17 = .ok (.getfield 80, 3) := by decide +kernel
theorem dX2_addLaw_20 : decode cX2_addLaw 20 = .ok (.aload_n 1, 1) := by decide +kernel
theorem dX2_addLaw_21 : decode cX2_addLaw 21 = .ok (.aastore, 1) := by decide +kernel
theorem dX2_addLaw_22 : decode cX2_addLaw 22 = .ok (.aload_n 0, 1) := by decide +kernel
theorem dX2_addLaw_23 : decode cX2_addLaw 23 = .ok (.dup, 1) := by decide +kernel
theorem dX2_addLaw_24 : decode cX2_addLaw 24 = .ok (.getfield 80, 3) := by decide +kernel
theorem dX2_addLaw_27 : decode cX2_addLaw 27 = .ok (.iconst 1, 1) := by decide +kernel
theorem dX2_addLaw_28 : decode cX2_addLaw 28 = .ok (.iadd, 1) := by decide +kernel
theorem dX2_addLaw_29 : decode cX2_addLaw 29 = .ok (.putfield 80, 3) := by decide +kernel
theorem dX2_addLaw_32 : decode cX2_addLaw 32 = .ok (.aload_n 0, 1) := by decide +kernel
theorem dX2_addLaw_33 : decode cX2_addLaw 33 = .ok (.getfield 80, 3) := by decide +kernel
theorem dX2_addLaw_36 : decode cX2_addLaw 36 = .ok (.iconst 1, 1) := by decide +kernel
theorem dX2_addLaw_37 : decode cX2_addLaw 37 = .ok (.isub, 1) := by decide +kernel
theorem dX2_addLaw_38 : decode cX2_addLaw 38 = .ok (.ireturn, 1) := by decide +kernel
theorem dX2_addLaw_9 : decode cX2_addLaw 9 = .ok (.bipush (-5), 2) := by decide +kernel
theorem dX2_addLaw_11 : decode cX2_addLaw 11 = .ok (.ireturn, 1) := by decide +kernel
set_option maxHeartbeats 4000000 in
set_option maxRecDepth 100000 in
theorem k_X2_addLaw (l : Launch) (D : va_G) (cy : Nat → ClassId) (ld : Nat → Nat) (t : tk_T) (sn1 : Nat) (sr1 : Nat) (a0 : Nat) (a1 : Nat) (ht_a0 : t a0 = (3, 0, 0)) (ht_a1 : t a1 = (8, sn1, sr1)) : Met l yX2_addLaw (wl yX2_addLaw cX2_addLaw 2 (some .int)) ({ frames := 3, cells := 0, slots := 0, locals := 140 }) (tp D cy ld t [] [.ref a0, .ref a1] (fun H => True)) (ti D cy ld t [] (fun r H => (-5) ≤ r.toInt ∧ r.toInt ≤ 5) (tk_w t [(28, 0, 0), (3, 0, 0)])) 0 0 (tk_w t [(28, 0, 0), (3, 0, 0)]) := by
  refine tk_met (y := yX2_addLaw) (cc := cX2_addLaw) (maxL := 2) (ret := (some .int)) (av := [.ref a0, .ref a1]) _ _ (by decide) (Nat.le_of_ble_eq_true rfl) ?_
  intro p e s m args below meth c hx hb hr hml hts htl hown hlocks hK H locs hH hG hS hB hZ ls hl
  have hown : s.vm.findClass RX2 = some m.cls := hown
  have hl : lv_has ls 2 [(0, .ref a0), (1, .ref a1)] := hl
  have hb_a1 := tk_X8 hG ht_a1 tk_no
  refine lv_aload_n hx hb dX2_addLaw_0 rfl (lv_at hl 0 rfl) ?_
  refine tk_get (ci := 2) (C := RX2) (T := TX2) (N := 20) (sp := (0, 0, 6, 0)) hx hb htl inX2 hown hK hG ht_a0 (by decide) tk_no rfl 13 (by decide) (htl _ mw_663) (fun _ h9 => h9) rfl dX2_addLaw_1 (fun v9 hf1 hV9 => ?_)
  obtain ⟨v2, rfl, ha_v2, hb_v2⟩ := hV9
  refine lv_bipush (v := 6) hx hb dX2_addLaw_4 (by decide) ?_
  refine lv_icmp_lt (tgt := 12) hx hb dX2_addLaw_6 (by decide) (fun c9 => ?_) (fun c9 => ?_)
  · have hc3 : v2.toInt < 6 := (fi_lt rfl (by decide)).mp c9
    refine lv_aload_n hx hb dX2_addLaw_12 rfl (lv_at hl 0 rfl) ?_
    refine tk_get (ci := 2) (C := RX2) (T := TX2) (N := 20) (sp := (1, 28, 6, 0)) hx hb htl inX2 hown hK hG ht_a0 (by decide) tk_no rfl 14 (by decide) (htl _ mw_70) (fun _ h9 => h9) rfl dX2_addLaw_13 (fun v9 hf4 hV9 => ?_)
    obtain ⟨b5, rfl, ht_b5⟩ := hV9
    have ht_b5 : t b5 = (28, 6, 0) := ht_b5
    refine lv_aload_n hx hb dX2_addLaw_16 rfl (lv_at hl 0 rfl) ?_
    refine tk_getk (ci := 2) (C := RX2) (T := TX2) (N := 20) (sp := (0, 0, 6, 0)) hx hb htl inX2 hown hK hG ht_a0 (by decide) tk_no rfl 13 (by decide) (htl _ mw_663) (fun _ h9 => h9) rfl hf1 dX2_addLaw_17 ?_
    refine lv_aload_n hx hb dX2_addLaw_20 rfl (lv_at hl 1 rfl) ?_
    refine tk_aast (ci := 7) hx hb hK hG hS 5 rfl ht_b5 (by decide) (fun _ => Iff.rfl) tk_no ht_a1 (by decide) tk_no rfl rfl (by omega) (by omega) (fun _ h => by cases h; exact ⟨_, _, ht_a1⟩) (tk_w.of ht_b5 (by decide) (List.mem_of_getElem? (i := 0) rfl) (Nat.le_refl _) (Nat.le_refl _)) dX2_addLaw_21 (fun H locs hG hS hq9 => ?_)
    have hf1 := hf1.kept (hq9 _ (tk_ne ht_a0 ht_b5 (Or.inl (by decide))))
    refine lv_aload_n hx hb dX2_addLaw_22 rfl (lv_at hl 0 rfl) ?_
    refine lv_dup hx hb dX2_addLaw_23 rfl ?_
    refine tk_getk (ci := 2) (C := RX2) (T := TX2) (N := 20) (sp := (0, 0, 6, 0)) hx hb htl inX2 hown hK hG ht_a0 (by decide) tk_no rfl 13 (by decide) (htl _ mw_663) (fun _ h9 => h9) rfl hf1 dX2_addLaw_24 ?_
    refine lv_iconst (v := 1) hx hb dX2_addLaw_27 (by decide) ?_
    refine lv_iadd hx hb dX2_addLaw_28 ?_
    refine tk_add rfl (by decide) (by omega) (by omega) (fun v7 h_v7 => ?_)
    refine tk_put (ci := 2) (v := .int v7) (ty := .int) (C := RX2) (T := TX2) (N := 20) (sp := (0, 0, 6, 0)) hx hb htl inX2 tyX2 tyX2_ok nmX2 hown hK hG hS ht_a0 (by decide) tk_no rfl 13 (by decide) (htl _ mw_663) (fun _ h9 => h9) rfl (tyX2_ok 13 (by decide)) rfl rfl rfl (tk_Vi (by omega) (by omega)) (fun _ h => h) (tk_w.of ht_a0 (by decide) (List.mem_of_getElem? (i := 1) rfl) (Nat.le_refl _) (Nat.le_refl _)) dX2_addLaw_29 (fun H locs hG hS hf8 hq9 hj9 => ?_)
    refine lv_aload_n hx hb dX2_addLaw_32 rfl (lv_at hl 0 rfl) ?_
    refine tk_getk (ci := 2) (C := RX2) (T := TX2) (N := 20) (sp := (0, 0, 6, 0)) hx hb htl inX2 hown hK hG ht_a0 (by decide) tk_no rfl 13 (by decide) (htl _ mw_663) (fun _ h9 => h9) rfl hf8 dX2_addLaw_33 ?_
    refine lv_iconst (v := 1) hx hb dX2_addLaw_36 (by decide) ?_
    refine lv_isub hx hb dX2_addLaw_37 ?_
    refine tk_sub rfl (by decide) (by omega) (by omega) (fun v10 h_v10 => ?_)
    exact tk_iret (v := v10) hx hb hr rfl hlocks (show (-5) ≤ v10.toInt ∧ v10.toInt ≤ 5 from ⟨(by omega), (by omega)⟩) hG hS dX2_addLaw_38
  · have hc3 : ¬ (v2.toInt < 6) := fun h9 => c9 ((fi_lt rfl (by decide)).mpr h9)
    refine lv_bipush (v := (-5)) hx hb dX2_addLaw_9 (by decide) ?_
    have hk_m5 : ((-5) : Int32).toInt = (-5) := by decide
    exact tk_iret (v := (-5)) hx hb hr rfl hlocks (show (-5) ≤ ((-5) : Int32).toInt ∧ ((-5) : Int32).toInt ≤ 5 from ⟨(by omega), (by omega)⟩) hG hS dX2_addLaw_11
theorem dX2_addSight_0 : decode cX2_addSight 0 = .ok (.aload_n 0, 1) := by decide +kernel
theorem dX2_addSight_1 : decode cX2_addSight 1 = .ok (.getfield 77, 3) := by decide +kernel
theorem dX2_addSight_4 : decode cX2_addSight 4 = .ok (.bipush 8, 2) := by decide +kernel
theorem dX2_addSight_6 : decode cX2_addSight 6 = .ok (.if_icmp .lt 6, 3) := by decide +kernel
theorem dX2_addSight_12 : decode cX2_addSight 12 = .ok (.aload_n 0, 1) := by decide +kernel
theorem dX2_addSight_13 : decode cX2_addSight 13 = .ok (.getfield 77, 3) := by decide +kernel
theorem dX2_addSight_16 : decode cX2_addSight 16 = .ok (.iconst 5, 1) := by decide +kernel
theorem dX2_addSight_17 : decode cX2_addSight 17 = .ok (.imul, 1) := by decide +kernel
theorem dX2_addSight_18 : decode cX2_addSight 18 = .ok (.istore 6, 2) := by decide +kernel
theorem dX2_addSight_20 : decode cX2_addSight 20 = .ok (.aload_n 0, 1) := by decide +kernel
theorem dX2_addSight_21 : decode cX2_addSight 21 = .ok (.getfield 36, 3) := by decide +kernel
theorem dX2_addSight_24 : decode cX2_addSight 24 = .ok (.iload 6, 2) := by decide +kernel
theorem dX2_addSight_26 : decode cX2_addSight 26 = .ok (.iload_n 1, 1) := by decide +kernel
theorem dX2_addSight_27 : decode cX2_addSight 27 = .ok (.iastore, 1) := by decide +kernel
theorem dX2_addSight_28 : decode cX2_addSight 28 = .ok (.aload_n 0, 1) := by decide +kernel
theorem dX2_addSight_29 : decode cX2_addSight 29 = .ok (.getfield 36, 3) := by decide +kernel
theorem dX2_addSight_32 : decode cX2_addSight 32 = .ok (.iload 6, 2) := by decide +kernel
theorem dX2_addSight_34 : decode cX2_addSight 34 = .ok (.iconst 1, 1) := by decide +kernel
theorem dX2_addSight_35 : decode cX2_addSight 35 = .ok (.iadd, 1) := by decide +kernel
theorem dX2_addSight_36 : decode cX2_addSight 36 = .ok (.iload_n 2, 1) := by decide +kernel
theorem dX2_addSight_37 : decode cX2_addSight 37 = .ok (.iastore, 1) := by decide +kernel
theorem dX2_addSight_38 : decode cX2_addSight 38 = .ok (.aload_n 0, 1) := by decide +kernel
theorem dX2_addSight_39 : decode cX2_addSight 39 = .ok (.getfield 36, 3) := by decide +kernel
theorem dX2_addSight_42 : decode cX2_addSight 42 = .ok (.iload 6, 2) := by decide +kernel
theorem dX2_addSight_44 : decode cX2_addSight 44 = .ok (.iconst 2, 1) := by decide +kernel
theorem dX2_addSight_45 : decode cX2_addSight 45 = .ok (.iadd, 1) := by decide +kernel
theorem dX2_addSight_46 : decode cX2_addSight 46 = .ok (.iload_n 3, 1) := by decide +kernel
theorem dX2_addSight_47 : decode cX2_addSight 47 = .ok (.iastore, 1) := by decide +kernel
theorem dX2_addSight_48 : decode cX2_addSight 48 = .ok (.aload_n 0, 1) := by decide +kernel
theorem dX2_addSight_49 : decode cX2_addSight 49 = .ok (.getfield 36, 3) := by decide +kernel
theorem dX2_addSight_52 : decode cX2_addSight 52 = .ok (.iload 6, 2) := by decide +kernel
theorem dX2_addSight_54 : decode cX2_addSight 54 = .ok (.iconst 3, 1) := by decide +kernel
theorem dX2_addSight_55 : decode cX2_addSight 55 = .ok (.iadd, 1) := by decide +kernel
theorem dX2_addSight_56 : decode cX2_addSight 56 = .ok (.iload 4, 2) := by decide +kernel
theorem dX2_addSight_58 : decode cX2_addSight 58 = .ok (.iastore, 1) := by decide +kernel
theorem dX2_addSight_59 : decode cX2_addSight 59 = .ok (.aload_n 0, 1) := by decide +kernel
theorem dX2_addSight_60 : decode cX2_addSight 60 = .ok (.getfield 36, 3) := by decide +kernel
theorem dX2_addSight_63 : decode cX2_addSight 63 = .ok (.iload 6, 2) := by decide +kernel
theorem dX2_addSight_65 : decode cX2_addSight 65 = .ok (.iconst 4, 1) := by decide +kernel
theorem dX2_addSight_66 : decode cX2_addSight 66 = .ok (.iadd, 1) := by decide +kernel
theorem dX2_addSight_67 : decode cX2_addSight 67 = .ok (.iload 5, 2) := by decide +kernel
theorem dX2_addSight_69 : decode cX2_addSight 69 = .ok (.iastore, 1) := by decide +kernel
theorem dX2_addSight_70 : decode cX2_addSight 70 = .ok (.aload_n 0, 1) := by decide +kernel
theorem dX2_addSight_71 : decode cX2_addSight 71 = .ok (.dup, 1) := by decide +kernel
theorem dX2_addSight_72 : decode cX2_addSight 72 = .ok (.getfield 77, 3) := by decide +kernel
theorem dX2_addSight_75 : decode cX2_addSight 75 = .ok (.iconst 1, 1) := by decide +kernel
theorem dX2_addSight_76 : decode cX2_addSight 76 = .ok (.iadd, 1) := by decide +kernel
theorem dX2_addSight_77 : decode cX2_addSight 77 = .ok (.putfield 77, 3) := by decide +kernel
theorem dX2_addSight_80 : decode cX2_addSight 80 = .ok (.aload_n 0, 1) := by decide +kernel
theorem dX2_addSight_81 : decode cX2_addSight 81 = .ok (.getfield 77, 3) := by decide +kernel
theorem dX2_addSight_84 : decode cX2_addSight 84 = .ok (.ireturn, 1) := by decide +kernel
theorem dX2_addSight_9 : decode cX2_addSight 9 = .ok (.bipush (-5), 2) := by decide +kernel
theorem dX2_addSight_11 : decode cX2_addSight 11 = .ok (.ireturn, 1) := by decide +kernel
set_option maxHeartbeats 4000000 in
set_option maxRecDepth 100000 in
theorem k_X2_addSight (l : Launch) (D : va_G) (cy : Nat → ClassId) (ld : Nat → Nat) (t : tk_T) (a0 : Nat) (p1 : Int32) (p2 : Int32) (p3 : Int32) (p4 : Int32) (p5 : Int32) (ht_a0 : t a0 = (3, 0, 0)) : Met l yX2_addSight (wl yX2_addSight cX2_addSight 7 (some .int)) ({ frames := 3, cells := 0, slots := 0, locals := 140 }) (tp D cy ld t [] [.ref a0, .int p1, .int p2, .int p3, .int p4, .int p5] (fun H => True)) (ti D cy ld t [] (fun r H => (-5) ≤ r.toInt ∧ r.toInt ≤ 8) (tk_w t [(24, 0, 0), (3, 0, 0)])) 0 0 (tk_w t [(24, 0, 0), (3, 0, 0)]) := by
  refine tk_met (y := yX2_addSight) (cc := cX2_addSight) (maxL := 7) (ret := (some .int)) (av := [.ref a0, .int p1, .int p2, .int p3, .int p4, .int p5]) _ _ (by decide) (Nat.le_of_ble_eq_true rfl) ?_
  intro p e s m args below meth c hx hb hr hml hts htl hown hlocks hK H locs hH hG hS hB hZ ls hl
  have hown : s.vm.findClass RX2 = some m.cls := hown
  have hl : lv_has ls 7 [(0, .ref a0), (1, .int p1), (2, .int p2), (3, .int p3), (4, .int p4), (5, .int p5)] := hl
  have hr_p1 := tk_rng p1
  have hr_p2 := tk_rng p2
  have hr_p3 := tk_rng p3
  have hr_p4 := tk_rng p4
  have hr_p5 := tk_rng p5
  refine lv_aload_n hx hb dX2_addSight_0 rfl (lv_at hl 0 rfl) ?_
  refine tk_get (ci := 2) (C := RX2) (T := TX2) (N := 20) (sp := (0, 0, 8, 0)) hx hb htl inX2 hown hK hG ht_a0 (by decide) tk_no rfl 11 (by decide) (htl _ mw_1489) (fun _ h9 => h9) rfl dX2_addSight_1 (fun v9 hf1 hV9 => ?_)
  obtain ⟨v2, rfl, ha_v2, hb_v2⟩ := hV9
  refine lv_bipush (v := 8) hx hb dX2_addSight_4 (by decide) ?_
  refine lv_icmp_lt (tgt := 12) hx hb dX2_addSight_6 (by decide) (fun c9 => ?_) (fun c9 => ?_)
  · have hc3 : v2.toInt < 8 := (fi_lt rfl (by decide)).mp c9
    refine lv_aload_n hx hb dX2_addSight_12 rfl (lv_at hl 0 rfl) ?_
    refine tk_getk (ci := 2) (C := RX2) (T := TX2) (N := 20) (sp := (0, 0, 8, 0)) hx hb htl inX2 hown hK hG ht_a0 (by decide) tk_no rfl 11 (by decide) (htl _ mw_1489) (fun _ h9 => h9) rfl hf1 dX2_addSight_13 ?_
    refine lv_iconst (v := 5) hx hb dX2_addSight_16 (by decide) ?_
    refine lv_imul hx hb dX2_addSight_17 ?_
    refine tk_mul rfl (by decide) (by omega) (by omega) (fun v4 h_v4 => ?_)
    refine lv_istore (lv' := [(6, .int v4), (0, .ref a0), (1, .int p1), (2, .int p2), (3, .int p3), (4, .int p4), (5, .int p5)]) hx hb dX2_addSight_18 hl (by decide) rfl (fun ls hl => ?_)
    refine lv_aload_n hx hb dX2_addSight_20 rfl (lv_at hl 1 rfl) ?_
    refine tk_get (ci := 2) (C := RX2) (T := TX2) (N := 20) (sp := (1, 24, 40, 0)) hx hb htl inX2 hown hK hG ht_a0 (by decide) tk_no rfl 12 (by decide) (htl _ mw_68) (fun _ h9 => h9) rfl dX2_addSight_21 (fun v9 hf5 hV9 => ?_)
    obtain ⟨b6, rfl, ht_b6⟩ := hV9
    have ht_b6 : t b6 = (24, 40, 0) := ht_b6
    refine lv_iload hx hb dX2_addSight_24 (lv_at hl 0 rfl) ?_
    refine lv_iload_n hx hb dX2_addSight_26 rfl (lv_at hl 2 rfl) ?_
    refine tk_iast hx hb hK hG hS ht_b6 (by decide) (fun _ => Iff.rfl) tk_no rfl (by omega) (by omega) (show 0 ≤ (p1 : Int32).toInt ∧ (p1 : Int32).toInt ≤ 11 ∧ (v4.toInt % 5 = 0 → (p1 : Int32).toInt ≤ 9) ∧ (v4.toInt % 5 = 1 → (p1 : Int32).toInt ≤ 7) from ⟨by omega, by omega, by omega, by omega⟩) (tk_w.of ht_b6 (by decide) (List.mem_of_getElem? (i := 0) rfl) (Nat.le_refl _) (Nat.le_refl _)) dX2_addSight_27 (fun H locs hG hS hq9 => ?_)
    have hf1 := hf1.kept (hq9 _ (tk_ne ht_a0 ht_b6 (Or.inl (by decide))))
    refine lv_aload_n hx hb dX2_addSight_28 rfl (lv_at hl 1 rfl) ?_
    refine tk_get (ci := 2) (C := RX2) (T := TX2) (N := 20) (sp := (1, 24, 40, 0)) hx hb htl inX2 hown hK hG ht_a0 (by decide) tk_no rfl 12 (by decide) (htl _ mw_68) (fun _ h9 => h9) rfl dX2_addSight_29 (fun v9 hf8 hV9 => ?_)
    obtain ⟨b9, rfl, ht_b9⟩ := hV9
    have ht_b9 : t b9 = (24, 40, 0) := ht_b9
    refine lv_iload hx hb dX2_addSight_32 (lv_at hl 0 rfl) ?_
    refine lv_iconst (v := 1) hx hb dX2_addSight_34 (by decide) ?_
    refine lv_iadd hx hb dX2_addSight_35 ?_
    refine tk_add rfl (by decide) (by omega) (by omega) (fun v10 h_v10 => ?_)
    refine lv_iload_n hx hb dX2_addSight_36 rfl (lv_at hl 3 rfl) ?_
    refine tk_iast hx hb hK hG hS ht_b9 (by decide) (fun _ => Iff.rfl) tk_no rfl (by omega) (by omega) (show 0 ≤ (p2 : Int32).toInt ∧ (p2 : Int32).toInt ≤ 11 ∧ (v10.toInt % 5 = 0 → (p2 : Int32).toInt ≤ 9) ∧ (v10.toInt % 5 = 1 → (p2 : Int32).toInt ≤ 7) from ⟨by omega, by omega, by omega, by omega⟩) (tk_w.of ht_b9 (by decide) (List.mem_of_getElem? (i := 0) rfl) (Nat.le_refl _) (Nat.le_refl _)) dX2_addSight_37 (fun H locs hG hS hq9 => ?_)
    have hf1 := hf1.kept (hq9 _ (tk_ne ht_a0 ht_b9 (Or.inl (by decide))))
    refine lv_aload_n hx hb dX2_addSight_38 rfl (lv_at hl 1 rfl) ?_
    refine tk_get (ci := 2) (C := RX2) (T := TX2) (N := 20) (sp := (1, 24, 40, 0)) hx hb htl inX2 hown hK hG ht_a0 (by decide) tk_no rfl 12 (by decide) (htl _ mw_68) (fun _ h9 => h9) rfl dX2_addSight_39 (fun v9 hf12 hV9 => ?_)
    obtain ⟨b13, rfl, ht_b13⟩ := hV9
    have ht_b13 : t b13 = (24, 40, 0) := ht_b13
    refine lv_iload hx hb dX2_addSight_42 (lv_at hl 0 rfl) ?_
    refine lv_iconst (v := 2) hx hb dX2_addSight_44 (by decide) ?_
    refine lv_iadd hx hb dX2_addSight_45 ?_
    refine tk_add rfl (by decide) (by omega) (by omega) (fun v14 h_v14 => ?_)
    refine lv_iload_n hx hb dX2_addSight_46 rfl (lv_at hl 4 rfl) ?_
    refine tk_iast hx hb hK hG hS ht_b13 (by decide) (fun _ => Iff.rfl) tk_no rfl (by omega) (by omega) (show 0 ≤ (p3 : Int32).toInt ∧ (p3 : Int32).toInt ≤ 11 ∧ (v14.toInt % 5 = 0 → (p3 : Int32).toInt ≤ 9) ∧ (v14.toInt % 5 = 1 → (p3 : Int32).toInt ≤ 7) from ⟨by omega, by omega, by omega, by omega⟩) (tk_w.of ht_b13 (by decide) (List.mem_of_getElem? (i := 0) rfl) (Nat.le_refl _) (Nat.le_refl _)) dX2_addSight_47 (fun H locs hG hS hq9 => ?_)
    have hf1 := hf1.kept (hq9 _ (tk_ne ht_a0 ht_b13 (Or.inl (by decide))))
    refine lv_aload_n hx hb dX2_addSight_48 rfl (lv_at hl 1 rfl) ?_
    refine tk_get (ci := 2) (C := RX2) (T := TX2) (N := 20) (sp := (1, 24, 40, 0)) hx hb htl inX2 hown hK hG ht_a0 (by decide) tk_no rfl 12 (by decide) (htl _ mw_68) (fun _ h9 => h9) rfl dX2_addSight_49 (fun v9 hf16 hV9 => ?_)
    obtain ⟨b17, rfl, ht_b17⟩ := hV9
    have ht_b17 : t b17 = (24, 40, 0) := ht_b17
    refine lv_iload hx hb dX2_addSight_52 (lv_at hl 0 rfl) ?_
    refine lv_iconst (v := 3) hx hb dX2_addSight_54 (by decide) ?_
    refine lv_iadd hx hb dX2_addSight_55 ?_
    refine tk_add rfl (by decide) (by omega) (by omega) (fun v18 h_v18 => ?_)
    refine lv_iload hx hb dX2_addSight_56 (lv_at hl 5 rfl) ?_
    refine tk_iast hx hb hK hG hS ht_b17 (by decide) (fun _ => Iff.rfl) tk_no rfl (by omega) (by omega) (show 0 ≤ (p4 : Int32).toInt ∧ (p4 : Int32).toInt ≤ 11 ∧ (v18.toInt % 5 = 0 → (p4 : Int32).toInt ≤ 9) ∧ (v18.toInt % 5 = 1 → (p4 : Int32).toInt ≤ 7) from ⟨by omega, by omega, by omega, by omega⟩) (tk_w.of ht_b17 (by decide) (List.mem_of_getElem? (i := 0) rfl) (Nat.le_refl _) (Nat.le_refl _)) dX2_addSight_58 (fun H locs hG hS hq9 => ?_)
    have hf1 := hf1.kept (hq9 _ (tk_ne ht_a0 ht_b17 (Or.inl (by decide))))
    refine lv_aload_n hx hb dX2_addSight_59 rfl (lv_at hl 1 rfl) ?_
    refine tk_get (ci := 2) (C := RX2) (T := TX2) (N := 20) (sp := (1, 24, 40, 0)) hx hb htl inX2 hown hK hG ht_a0 (by decide) tk_no rfl 12 (by decide) (htl _ mw_68) (fun _ h9 => h9) rfl dX2_addSight_60 (fun v9 hf20 hV9 => ?_)
    obtain ⟨b21, rfl, ht_b21⟩ := hV9
    have ht_b21 : t b21 = (24, 40, 0) := ht_b21
    refine lv_iload hx hb dX2_addSight_63 (lv_at hl 0 rfl) ?_
    refine lv_iconst (v := 4) hx hb dX2_addSight_65 (by decide) ?_
    refine lv_iadd hx hb dX2_addSight_66 ?_
    refine tk_add rfl (by decide) (by omega) (by omega) (fun v22 h_v22 => ?_)
    refine lv_iload hx hb dX2_addSight_67 (lv_at hl 6 rfl) ?_
    refine tk_iast hx hb hK hG hS ht_b21 (by decide) (fun _ => Iff.rfl) tk_no rfl (by omega) (by omega) (show 0 ≤ (p5 : Int32).toInt ∧ (p5 : Int32).toInt ≤ 11 ∧ (v22.toInt % 5 = 0 → (p5 : Int32).toInt ≤ 9) ∧ (v22.toInt % 5 = 1 → (p5 : Int32).toInt ≤ 7) from ⟨by omega, by omega, by omega, by omega⟩) (tk_w.of ht_b21 (by decide) (List.mem_of_getElem? (i := 0) rfl) (Nat.le_refl _) (Nat.le_refl _)) dX2_addSight_69 (fun H locs hG hS hq9 => ?_)
    have hf1 := hf1.kept (hq9 _ (tk_ne ht_a0 ht_b21 (Or.inl (by decide))))
    refine lv_aload_n hx hb dX2_addSight_70 rfl (lv_at hl 1 rfl) ?_
    refine lv_dup hx hb dX2_addSight_71 rfl ?_
    refine tk_getk (ci := 2) (C := RX2) (T := TX2) (N := 20) (sp := (0, 0, 8, 0)) hx hb htl inX2 hown hK hG ht_a0 (by decide) tk_no rfl 11 (by decide) (htl _ mw_1489) (fun _ h9 => h9) rfl hf1 dX2_addSight_72 ?_
    refine lv_iconst (v := 1) hx hb dX2_addSight_75 (by decide) ?_
    refine lv_iadd hx hb dX2_addSight_76 ?_
    refine tk_add rfl (by decide) (by omega) (by omega) (fun v24 h_v24 => ?_)
    refine tk_put (ci := 2) (v := .int v24) (ty := .int) (C := RX2) (T := TX2) (N := 20) (sp := (0, 0, 8, 0)) hx hb htl inX2 tyX2 tyX2_ok nmX2 hown hK hG hS ht_a0 (by decide) tk_no rfl 11 (by decide) (htl _ mw_1489) (fun _ h9 => h9) rfl (tyX2_ok 11 (by decide)) rfl rfl rfl (tk_Vi (by omega) (by omega)) (fun _ h => h) (tk_w.of ht_a0 (by decide) (List.mem_of_getElem? (i := 1) rfl) (Nat.le_refl _) (Nat.le_refl _)) dX2_addSight_77 (fun H locs hG hS hf25 hq9 hj9 => ?_)
    refine lv_aload_n hx hb dX2_addSight_80 rfl (lv_at hl 1 rfl) ?_
    refine tk_getk (ci := 2) (C := RX2) (T := TX2) (N := 20) (sp := (0, 0, 8, 0)) hx hb htl inX2 hown hK hG ht_a0 (by decide) tk_no rfl 11 (by decide) (htl _ mw_1489) (fun _ h9 => h9) rfl hf25 dX2_addSight_81 ?_
    exact tk_iret (v := v24) hx hb hr rfl hlocks (show (-5) ≤ v24.toInt ∧ v24.toInt ≤ 8 from ⟨(by omega), (by omega)⟩) hG hS dX2_addSight_84
  · have hc3 : ¬ (v2.toInt < 8) := fun h9 => c9 ((fi_lt rfl (by decide)).mpr h9)
    refine lv_bipush (v := (-5)) hx hb dX2_addSight_9 (by decide) ?_
    have hk_m5 : ((-5) : Int32).toInt = (-5) := by decide
    exact tk_iret (v := (-5)) hx hb hr rfl hlocks (show (-5) ≤ ((-5) : Int32).toInt ∧ ((-5) : Int32).toInt ≤ 8 from ⟨(by omega), (by omega)⟩) hG hS dX2_addSight_11
theorem dX2_setHearing_0 : decode cX2_setHearing 0 = .ok (.aload_n 0, 1) := by decide +kernel
theorem dX2_setHearing_1 : decode cX2_setHearing 1 = .ok (.getfield 18, 3) := by decide +kernel
theorem dX2_setHearing_4 : decode cX2_setHearing 4 = .ok (.iload_n 1, 1) := by decide +kernel
theorem dX2_setHearing_5 : decode cX2_setHearing 5 = .ok (.iaload, 1) := by decide +kernel
theorem dX2_setHearing_6 : decode cX2_setHearing 6 = .ok (.iload_n 2, 1) := by decide +kernel
theorem dX2_setHearing_7 : decode cX2_setHearing 7 = .ok (.ishr, 1) := by decide +kernel
theorem dX2_setHearing_8 : decode cX2_setHearing 8 = .ok (.iconst 1, 1) := by decide +kernel
theorem dX2_setHearing_9 : decode cX2_setHearing 9 = .ok (.iand, 1) := by decide +kernel
theorem dX2_setHearing_10 : decode cX2_setHearing 10 = .ok (.istore 4, 2) := by decide +kernel
theorem dX2_setHearing_12 : decode cX2_setHearing 12 = .ok (.aload_n 0, 1) := by decide +kernel
theorem dX2_setHearing_13 : decode cX2_setHearing 13 = .ok (.getfield 18, 3) := by decide +kernel
theorem dX2_setHearing_16 : decode cX2_setHearing 16 = .ok (.iload_n 1, 1) := by decide +kernel
theorem dX2_setHearing_17 : decode cX2_setHearing 17 = .ok (.iload_n 3, 1) := by decide +kernel
theorem dX2_setHearing_18 : decode cX2_setHearing 18 = .ok (.iconst 1, 1) := by decide +kernel
theorem dX2_setHearing_47 : decode cX2_setHearing 47 = .ok (.iastore, 1) := by decide +kernel
theorem dX2_setHearing_48 : decode cX2_setHearing 48 = .ok (.iload 4, 2) := by decide +kernel
theorem dX2_setHearing_50 : decode cX2_setHearing 50 = .ok (.ireturn, 1) := by decide +kernel
theorem dX2_setHearing_19 : decode cX2_setHearing 19 = .ok (.if_icmp .ne 16, 3) := by decide +kernel
theorem dX2_setHearing_35 : decode cX2_setHearing 35 = .ok (.aload_n 0, 1) := by decide +kernel
theorem dX2_setHearing_36 : decode cX2_setHearing 36 = .ok (.getfield 18, 3) := by decide +kernel
theorem dX2_setHearing_39 : decode cX2_setHearing 39 = .ok (.iload_n 1, 1) := by decide +kernel
theorem dX2_setHearing_40 : decode cX2_setHearing 40 = .ok (.iaload, 1) := by decide +kernel
theorem dX2_setHearing_41 : decode cX2_setHearing 41 = .ok (.iconst 1, 1) := by decide +kernel
theorem dX2_setHearing_42 : decode cX2_setHearing 42 = .ok (.iload_n 2, 1) := by decide +kernel
theorem dX2_setHearing_43 : decode cX2_setHearing 43 = .ok (.ishl, 1) := by decide +kernel
theorem dX2_setHearing_44 : decode cX2_setHearing 44 = .ok (.iconst (-1), 1) := by decide +kernel
theorem dX2_setHearing_45 : decode cX2_setHearing 45 = .ok (.ixor, 1) := by decide +kernel
theorem dX2_setHearing_46 : decode cX2_setHearing 46 = .ok (.iand, 1) := by decide +kernel
theorem dX2_setHearing_22 : decode cX2_setHearing 22 = .ok (.aload_n 0, 1) := by decide +kernel
theorem dX2_setHearing_23 : decode cX2_setHearing 23 = .ok (.getfield 18, 3) := by decide +kernel
theorem dX2_setHearing_26 : decode cX2_setHearing 26 = .ok (.iload_n 1, 1) := by decide +kernel
theorem dX2_setHearing_27 : decode cX2_setHearing 27 = .ok (.iaload, 1) := by decide +kernel
theorem dX2_setHearing_28 : decode cX2_setHearing 28 = .ok (.iconst 1, 1) := by decide +kernel
theorem dX2_setHearing_29 : decode cX2_setHearing 29 = .ok (.iload_n 2, 1) := by decide +kernel
theorem dX2_setHearing_30 : decode cX2_setHearing 30 = .ok (.ishl, 1) := by decide +kernel
theorem dX2_setHearing_31 : decode cX2_setHearing 31 = .ok (.ior, 1) := by decide +kernel
theorem dX2_setHearing_32 : decode cX2_setHearing 32 = .ok (.goto 15, 3) := by decide +kernel
set_option maxHeartbeats 4000000 in
set_option maxRecDepth 100000 in
theorem k_X2_setHearing (l : Launch) (D : va_G) (cy : Nat → ClassId) (ld : Nat → Nat) (t : tk_T) (a0 : Nat) (p1 : Int32) (p2 : Int32) (p3 : Int32) (ht_a0 : t a0 = (3, 0, 0)) (hp_0 : 0 ≤ p1.toInt) (hp_1 : p1.toInt ≤ 7) (hp_2 : 0 ≤ p2.toInt) (hp_3 : p2.toInt ≤ 7) : Met l yX2_setHearing (wl yX2_setHearing cX2_setHearing 5 (some .int)) ({ frames := 3, cells := 0, slots := 0, locals := 140 }) (tp D cy ld t [] [.ref a0, .int p1, .int p2, .int p3] (fun H => True)) (ti D cy ld t [] (fun r H => 0 ≤ r.toInt ∧ r.toInt ≤ 1) (tk_w t [(20, 0, 0)])) 0 0 (tk_w t [(20, 0, 0)]) := by
  refine tk_met (y := yX2_setHearing) (cc := cX2_setHearing) (maxL := 5) (ret := (some .int)) (av := [.ref a0, .int p1, .int p2, .int p3]) _ _ (by decide) (Nat.le_of_ble_eq_true rfl) ?_
  intro p e s m args below meth c hx hb hr hml hts htl hown hlocks hK H locs hH hG hS hB hZ ls hl
  have hown : s.vm.findClass RX2 = some m.cls := hown
  have hl : lv_has ls 5 [(0, .ref a0), (1, .int p1), (2, .int p2), (3, .int p3)] := hl
  have hr_p1 := tk_rng p1
  have hr_p2 := tk_rng p2
  have hr_p3 := tk_rng p3
  refine lv_aload_n hx hb dX2_setHearing_0 rfl (lv_at hl 0 rfl) ?_
  refine tk_get (ci := 2) (C := RX2) (T := TX2) (N := 20) (sp := (1, 20, 8, 0)) hx hb htl inX2 hown hK hG ht_a0 (by decide) tk_no rfl 3 (by decide) (htl _ mw_62) (fun _ h9 => h9) rfl dX2_setHearing_1 (fun v9 hf1 hV9 => ?_)
  obtain ⟨b2, rfl, ht_b2⟩ := hV9
  have ht_b2 : t b2 = (20, 8, 0) := ht_b2
  refine lv_iload_n hx hb dX2_setHearing_4 rfl (lv_at hl 1 rfl) ?_
  refine tk_iald hx hb hK hG ht_b2 (by decide) (fun _ h => h) tk_no rfl (by omega) (by omega) dX2_setHearing_5 (fun v3 _ _ => ?_)
  have hr_v3 := tk_rng v3
  refine lv_iload_n hx hb dX2_setHearing_6 rfl (lv_at hl 2 rfl) ?_
  refine lv_ishr hx hb dX2_setHearing_7 ?_
  refine tk_any (fun v4 => ?_)
  refine lv_iconst (v := 1) hx hb dX2_setHearing_8 (by decide) ?_
  refine lv_iand hx hb dX2_setHearing_9 ?_
  refine tk_say (P := fun z => 0 ≤ z.toInt ∧ z.toInt ≤ 1) (tk_and v4 1 (by decide) (by decide)) (fun v5 h_v5 => ?_)
  refine lv_istore (lv' := [(4, .int v5), (0, .ref a0), (1, .int p1), (2, .int p2), (3, .int p3)]) hx hb dX2_setHearing_10 hl (by decide) rfl (fun ls hl => ?_)
  refine lv_aload_n hx hb dX2_setHearing_12 rfl (lv_at hl 1 rfl) ?_
  refine tk_get (ci := 2) (C := RX2) (T := TX2) (N := 20) (sp := (1, 20, 8, 0)) hx hb htl inX2 hown hK hG ht_a0 (by decide) tk_no rfl 3 (by decide) (htl _ mw_62) (fun _ h9 => h9) rfl dX2_setHearing_13 (fun v9 hf6 hV9 => ?_)
  obtain ⟨b7, rfl, ht_b7⟩ := hV9
  have ht_b7 : t b7 = (20, 8, 0) := ht_b7
  refine lv_iload_n hx hb dX2_setHearing_16 rfl (lv_at hl 2 rfl) ?_
  refine lv_iload_n hx hb dX2_setHearing_17 rfl (lv_at hl 4 rfl) ?_
  refine lv_iconst (v := 1) hx hb dX2_setHearing_18 (by decide) ?_
  have hj22 : ∀ (v21 : Int32), ∀ ls : Array Slot, lv_has ls 5 [(4, .int v5)] → W p l e ({ frames := 3, cells := 0, slots := 0, locals := 140 }) s m args below meth c H locs 0 0 (MQ below (ti D cy ld t [] (fun r H => 0 ≤ r.toInt ∧ r.toInt ≤ 1) (tk_w t [(20, 0, 0)])) args s 0 0 (tk_w t [(20, 0, 0)])) (F0 m 47 ls [.int v21, .int p1, .ref b7]) := by
    intro v21  ls hl
    refine tk_iast hx hb hK hG hS ht_b7 (by decide) (fun _ => Iff.rfl) tk_no rfl (by omega) (by omega) trivial (tk_w.of ht_b7 (by decide) (List.mem_of_getElem? (i := 0) rfl) (Nat.le_refl _) (Nat.le_refl _)) dX2_setHearing_47 (fun H locs hG hS hq9 => ?_)
    refine lv_iload hx hb dX2_setHearing_48 (lv_at hl 0 rfl) ?_
    exact tk_iret (v := v5) hx hb hr rfl hlocks (show 0 ≤ v5.toInt ∧ v5.toInt ≤ 1 from ⟨(by omega), (by omega)⟩) hG hS dX2_setHearing_50
  refine lv_icmp_ne (tgt := 35) hx hb dX2_setHearing_19 (by decide) (fun c9 => ?_) (fun c9 => ?_)
  · have hc8 : ¬ (p3.toInt = 1) := fun h9 => c9 ((fi_eq rfl (by decide)).mpr h9)
    refine lv_aload_n hx hb dX2_setHearing_35 rfl (lv_at hl 1 rfl) ?_
    refine tk_get (ci := 2) (C := RX2) (T := TX2) (N := 20) (sp := (1, 20, 8, 0)) hx hb htl inX2 hown hK hG ht_a0 (by decide) tk_no rfl 3 (by decide) (htl _ mw_62) (fun _ h9 => h9) rfl dX2_setHearing_36 (fun v9 hf24 hV9 => ?_)
    obtain ⟨b25, rfl, ht_b25⟩ := hV9
    have ht_b25 : t b25 = (20, 8, 0) := ht_b25
    refine lv_iload_n hx hb dX2_setHearing_39 rfl (lv_at hl 2 rfl) ?_
    refine tk_iald hx hb hK hG ht_b25 (by decide) (fun _ h => h) tk_no rfl (by omega) (by omega) dX2_setHearing_40 (fun v26 _ _ => ?_)
    have hr_v26 := tk_rng v26
    refine lv_iconst (v := 1) hx hb dX2_setHearing_41 (by decide) ?_
    refine lv_iload_n hx hb dX2_setHearing_42 rfl (lv_at hl 3 rfl) ?_
    refine lv_ishl hx hb dX2_setHearing_43 ?_
    refine tk_say (P := fun z => 1 ≤ z.toInt ∧ z.toInt ≤ 1024) (tk_shl1 p2 (by omega) (by omega)) (fun v27 h_v27 => ?_)
    refine lv_iconst (v := (-1)) hx hb dX2_setHearing_44 (by decide) ?_
    refine lv_ixor hx hb dX2_setHearing_45 ?_
    refine tk_any (fun v28 => ?_)
    refine lv_iand hx hb dX2_setHearing_46 ?_
    refine tk_any (fun v29 => ?_)
    exact hj22 v29 _ (lv_sub hl [0] rfl)
  · have hc8 : p3.toInt = 1 := (fi_eq rfl (by decide)).mp c9
    refine lv_aload_n hx hb dX2_setHearing_22 rfl (lv_at hl 1 rfl) ?_
    refine tk_get (ci := 2) (C := RX2) (T := TX2) (N := 20) (sp := (1, 20, 8, 0)) hx hb htl inX2 hown hK hG ht_a0 (by decide) tk_no rfl 3 (by decide) (htl _ mw_62) (fun _ h9 => h9) rfl dX2_setHearing_23 (fun v9 hf30 hV9 => ?_)
    obtain ⟨b31, rfl, ht_b31⟩ := hV9
    have ht_b31 : t b31 = (20, 8, 0) := ht_b31
    refine lv_iload_n hx hb dX2_setHearing_26 rfl (lv_at hl 2 rfl) ?_
    refine tk_iald hx hb hK hG ht_b31 (by decide) (fun _ h => h) tk_no rfl (by omega) (by omega) dX2_setHearing_27 (fun v32 _ _ => ?_)
    have hr_v32 := tk_rng v32
    refine lv_iconst (v := 1) hx hb dX2_setHearing_28 (by decide) ?_
    refine lv_iload_n hx hb dX2_setHearing_29 rfl (lv_at hl 3 rfl) ?_
    refine lv_ishl hx hb dX2_setHearing_30 ?_
    refine tk_say (P := fun z => 1 ≤ z.toInt ∧ z.toInt ≤ 1024) (tk_shl1 p2 (by omega) (by omega)) (fun v33 h_v33 => ?_)
    refine lv_ior hx hb dX2_setHearing_31 ?_
    refine tk_any (fun v34 => ?_)
    refine lv_goto (tgt := 47) hx hb dX2_setHearing_32 (by decide) ?_
    exact hj22 v34 _ (lv_sub hl [0] rfl)
theorem dX2_termOf_0 : decode cX2_termOf 0 = .ok (.iload_n 1, 1) := by decide +kernel
theorem dX2_termOf_1 : decode cX2_termOf 1 = .ok (.tableswitch 45 0 2 #[27, 35, 40], 27) := by decide +kernel
theorem dX2_termOf_28 : decode cX2_termOf 28 = .ok (.aload_n 0, 1) := by decide +kernel
theorem dX2_termOf_29 : decode cX2_termOf 29 = .ok (.getfield 58, 3) := by decide +kernel
theorem dX2_termOf_32 : decode cX2_termOf 32 = .ok (.getfield 107, 3) := by decide +kernel
theorem dX2_termOf_35 : decode cX2_termOf 35 = .ok (.ireturn, 1) := by decide +kernel
theorem dX2_termOf_36 : decode cX2_termOf 36 = .ok (.aload_n 0, 1) := by decide +kernel
theorem dX2_termOf_37 : decode cX2_termOf 37 = .ok (.getfield 49, 3) := by decide +kernel
theorem dX2_termOf_40 : decode cX2_termOf 40 = .ok (.ireturn, 1) := by decide +kernel
theorem dX2_termOf_41 : decode cX2_termOf 41 = .ok (.aload_n 0, 1) := by decide +kernel
theorem dX2_termOf_42 : decode cX2_termOf 42 = .ok (.getfield 52, 3) := by decide +kernel
theorem dX2_termOf_45 : decode cX2_termOf 45 = .ok (.ireturn, 1) := by decide +kernel
theorem dX2_termOf_46 : decode cX2_termOf 46 = .ok (.aload_n 0, 1) := by decide +kernel
theorem dX2_termOf_47 : decode cX2_termOf 47 = .ok (.getfield 83, 3) := by decide +kernel
theorem dX2_termOf_50 : decode cX2_termOf 50 = .ok (.ireturn, 1) := by decide +kernel
set_option maxHeartbeats 4000000 in
set_option maxRecDepth 100000 in
theorem k_X2_termOf (l : Launch) (D : va_G) (cy : Nat → ClassId) (ld : Nat → Nat) (t : tk_T) (a0 : Nat) (p1 : Int32) (ht_a0 : t a0 = (3, 0, 0)) : Met l yX2_termOf (wl yX2_termOf cX2_termOf 2 (some .int)) ({ frames := 3, cells := 0, slots := 0, locals := 140 }) (tp D cy ld t [] [.ref a0, .int p1] (fun H => True)) (ti D cy ld t [] (fun r H => True) (tk_w t [])) 0 0 (tk_w t []) := by
  refine tk_met (y := yX2_termOf) (cc := cX2_termOf) (maxL := 2) (ret := (some .int)) (av := [.ref a0, .int p1]) _ _ (by decide) (Nat.le_of_ble_eq_true rfl) ?_
  intro p e s m args below meth c hx hb hr hml hts htl hown hlocks hK H locs hH hG hS hB hZ ls hl
  have hown : s.vm.findClass RX2 = some m.cls := hown
  have hl : lv_has ls 2 [(0, .ref a0), (1, .int p1)] := hl
  have hr_p1 := tk_rng p1
  refine lv_iload_n hx hb dX2_termOf_0 rfl (lv_at hl 1 rfl) ?_
  rcases (show p1.toInt = 0 ∨ p1.toInt = 1 ∨ p1.toInt = 2 ∨ p1.toInt < 0 ∨ 2 < p1.toInt by omega) with hsw | hsw | hsw | hsw | hsw
  · refine lv_tableIn (off := 27) (tgt := 28) hx hb dX2_termOf_1 (by omega) (by omega) (by rw [hsw]; rfl) (by decide) ?_
    refine lv_aload_n hx hb dX2_termOf_28 rfl (lv_at hl 0 rfl) ?_
    refine tk_get (ci := 2) (C := RX2) (T := TX2) (N := 20) (sp := (9, 40, 10, 0)) hx hb htl inX2 hown hK hG ht_a0 (by decide) tk_no rfl 19 (by decide) (htl _ mw_77) (fun _ h9 => h9) rfl dX2_termOf_29 (fun v9 hf1 hV9 => ?_)
    obtain ⟨rfl, ht_ld40⟩ := hV9
    have ht_ld40 : t (ld 40) = (10, 0, 0) := ht_ld40
    refine fx_top (v := .ref (ld 40)) rfl ?_
    refine tk_get (ci := 9) (C := RX9) (T := TX9) (N := 11) (sp := (0, (-2147483648), 2147483647, 0)) hx hb htl inX9 hown hK hG ht_ld40 (by decide) tk_no rfl 4 (by decide) (htl _ mw_408) (fun _ h9 => h9) rfl dX2_termOf_32 (fun v9 hf2 hV9 => ?_)
    obtain ⟨v3, rfl, ha_v3, hb_v3⟩ := hV9
    exact tk_iret (v := v3) hx hb hr rfl hlocks trivial hG hS dX2_termOf_35
  · refine lv_tableIn (off := 35) (tgt := 36) hx hb dX2_termOf_1 (by omega) (by omega) (by rw [hsw]; rfl) (by decide) ?_
    refine lv_aload_n hx hb dX2_termOf_36 rfl (lv_at hl 0 rfl) ?_
    refine tk_get (ci := 2) (C := RX2) (T := TX2) (N := 20) (sp := (0, (-2147483648), 2147483647, 0)) hx hb htl inX2 hown hK hG ht_a0 (by decide) tk_no rfl 16 (by decide) (htl _ mw_72) (fun _ h9 => h9) rfl dX2_termOf_37 (fun v9 hf4 hV9 => ?_)
    obtain ⟨v5, rfl, ha_v5, hb_v5⟩ := hV9
    exact tk_iret (v := v5) hx hb hr rfl hlocks trivial hG hS dX2_termOf_40
  · refine lv_tableIn (off := 40) (tgt := 41) hx hb dX2_termOf_1 (by omega) (by omega) (by rw [hsw]; rfl) (by decide) ?_
    refine lv_aload_n hx hb dX2_termOf_41 rfl (lv_at hl 0 rfl) ?_
    refine tk_get (ci := 2) (C := RX2) (T := TX2) (N := 20) (sp := (0, (-2147483648), 2147483647, 0)) hx hb htl inX2 hown hK hG ht_a0 (by decide) tk_no rfl 17 (by decide) (htl _ mw_73) (fun _ h9 => h9) rfl dX2_termOf_42 (fun v9 hf6 hV9 => ?_)
    obtain ⟨v7, rfl, ha_v7, hb_v7⟩ := hV9
    exact tk_iret (v := v7) hx hb hr rfl hlocks trivial hG hS dX2_termOf_45
  · refine lv_tableOut (tgt := 46) hx hb dX2_termOf_1 (by omega) (by decide) ?_
    refine lv_aload_n hx hb dX2_termOf_46 rfl (lv_at hl 0 rfl) ?_
    refine tk_get (ci := 2) (C := RX2) (T := TX2) (N := 20) (sp := (0, (-2147483648), 2147483647, 0)) hx hb htl inX2 hown hK hG ht_a0 (by decide) tk_no rfl 18 (by decide) (htl _ mw_409) (fun _ h9 => h9) rfl dX2_termOf_47 (fun v9 hf8 hV9 => ?_)
    obtain ⟨v9, rfl, ha_v9, hb_v9⟩ := hV9
    exact tk_iret (v := v9) hx hb hr rfl hlocks trivial hG hS dX2_termOf_50
  · refine lv_tableOut (tgt := 46) hx hb dX2_termOf_1 (by omega) (by decide) ?_
    refine lv_aload_n hx hb dX2_termOf_46 rfl (lv_at hl 0 rfl) ?_
    refine tk_get (ci := 2) (C := RX2) (T := TX2) (N := 20) (sp := (0, (-2147483648), 2147483647, 0)) hx hb htl inX2 hown hK hG ht_a0 (by decide) tk_no rfl 18 (by decide) (htl _ mw_409) (fun _ h9 => h9) rfl dX2_termOf_47 (fun v9 hf10 hV9 => ?_)
    obtain ⟨v11, rfl, ha_v11, hb_v11⟩ := hV9
    exact tk_iret (v := v11) hx hb hr rfl hlocks trivial hG hS dX2_termOf_50
theorem dX2_setTerm_0 : decode cX2_setTerm 0 = .ok (.iload_n 1, 1) := by decide +kernel
theorem dX2_setTerm_60 : decode cX2_setTerm 60 = .ok (.return_, 1) := by decide +kernel
theorem dX2_setTerm_1 : decode cX2_setTerm 1 = .ok (.tableswitch 54 0 2 #[27, 38, 46], 27) := by decide +kernel
theorem dX2_setTerm_28 : decode cX2_setTerm 28 = .ok (.aload_n 0, 1) := by decide +kernel
theorem dX2_setTerm_29 : decode cX2_setTerm 29 = .ok (.getfield 58, 3) := by decide +kernel
theorem dX2_setTerm_32 : decode cX2_setTerm 32 = .ok (.iload_n 2, 1) := by decide +kernel
theorem dX2_setTerm_33 : decode cX2_setTerm 33 = .ok (.putfield 107, 3) := by decide +kernel
theorem dX2_setTerm_36 : decode cX2_setTerm 36 = .ok (.goto 24, 3) := by decide +kernel
theorem dX2_setTerm_39 : decode cX2_setTerm 39 = .ok (.aload_n 0, 1) := by decide +kernel
theorem dX2_setTerm_40 : decode cX2_setTerm 40 = .ok (.iload_n 2, 1) := by decide +kernel
theorem dX2_setTerm_41 : decode cX2_setTerm 41 = .ok (.putfield 49, 3) := by decide +kernel
theorem dX2_setTerm_44 : decode cX2_setTerm 44 = .ok (.goto 16, 3) := by decide +kernel
theorem dX2_setTerm_47 : decode cX2_setTerm 47 = .ok (.aload_n 0, 1) := by decide +kernel
theorem dX2_setTerm_48 : decode cX2_setTerm 48 = .ok (.iload_n 2, 1) := by decide +kernel
theorem dX2_setTerm_49 : decode cX2_setTerm 49 = .ok (.putfield 52, 3) := by decide +kernel
theorem dX2_setTerm_52 : decode cX2_setTerm 52 = .ok (.goto 8, 3) := by decide +kernel
theorem dX2_setTerm_55 : decode cX2_setTerm 55 = .ok (.aload_n 0, 1) := by decide +kernel
theorem dX2_setTerm_56 : decode cX2_setTerm 56 = .ok (.iload_n 2, 1) := by decide +kernel
theorem dX2_setTerm_57 : decode cX2_setTerm 57 = .ok (.putfield 83, 3) := by decide +kernel
set_option maxHeartbeats 4000000 in
set_option maxRecDepth 100000 in
theorem k_X2_setTerm (l : Launch) (D : va_G) (cy : Nat → ClassId) (ld : Nat → Nat) (t : tk_T) (a0 : Nat) (p1 : Int32) (p2 : Int32) (ht_a0 : t a0 = (3, 0, 0)) : Met l yX2_setTerm (wl yX2_setTerm cX2_setTerm 3 none) ({ frames := 3, cells := 0, slots := 0, locals := 140 }) (tp D cy ld t [] [.ref a0, .int p1, .int p2] (fun H => True)) (tv D cy ld t [] (fun H => True) (tk_w t [(10, 0, 0), (3, 0, 0)])) 0 0 (tk_w t [(10, 0, 0), (3, 0, 0)]) := by
  refine tk_met (y := yX2_setTerm) (cc := cX2_setTerm) (maxL := 3) (ret := none) (av := [.ref a0, .int p1, .int p2]) _ _ (by decide) (Nat.le_of_ble_eq_true rfl) ?_
  intro p e s m args below meth c hx hb hr hml hts htl hown hlocks hK H locs hH hG hS hB hZ ls hl
  have hown : s.vm.findClass RX2 = some m.cls := hown
  have hl : lv_has ls 3 [(0, .ref a0), (1, .int p1), (2, .int p2)] := hl
  have hr_p1 := tk_rng p1
  have hr_p2 := tk_rng p2
  refine lv_iload_n hx hb dX2_setTerm_0 rfl (lv_at hl 1 rfl) ?_
  have hj14 : ∀ (H : Heap) (locs : List Loc), tk_G D cy ld t [] H → va_S (tk_w t [(10, 0, 0), (3, 0, 0)]) s.heap H locs → ∀ ls : Array Slot, lv_has ls 3 [] → W p l e ({ frames := 3, cells := 0, slots := 0, locals := 140 }) s m args below meth c H locs 0 0 (MQ below (tv D cy ld t [] (fun H => True) (tk_w t [(10, 0, 0), (3, 0, 0)])) args s 0 0 (tk_w t [(10, 0, 0), (3, 0, 0)])) (F0 m 60 ls []) := by
    intro H locs hG hS ls hl
    exact tk_vret hx hb hr hlocks trivial hG hS dX2_setTerm_60
  rcases (show p1.toInt = 0 ∨ p1.toInt = 1 ∨ p1.toInt = 2 ∨ p1.toInt < 0 ∨ 2 < p1.toInt by omega) with hsw | hsw | hsw | hsw | hsw
  · refine lv_tableIn (off := 27) (tgt := 28) hx hb dX2_setTerm_1 (by omega) (by omega) (by rw [hsw]; rfl) (by decide) ?_
    refine lv_aload_n hx hb dX2_setTerm_28 rfl (lv_at hl 0 rfl) ?_
    refine tk_get (ci := 2) (C := RX2) (T := TX2) (N := 20) (sp := (9, 40, 10, 0)) hx hb htl inX2 hown hK hG ht_a0 (by decide) tk_no rfl 19 (by decide) (htl _ mw_77) (fun _ h9 => h9) rfl dX2_setTerm_29 (fun v9 hf15 hV9 => ?_)
    obtain ⟨rfl, ht_ld40⟩ := hV9
    have ht_ld40 : t (ld 40) = (10, 0, 0) := ht_ld40
    refine fx_top (v := .ref (ld 40)) rfl ?_
    refine lv_iload_n hx hb dX2_setTerm_32 rfl (lv_at hl 2 rfl) ?_
    refine tk_put (ci := 9) (v := .int p2) (ty := .int) (C := RX9) (T := TX9) (N := 11) (sp := (0, (-2147483648), 2147483647, 0)) hx hb htl inX9 tyX9 tyX9_ok nmX9 hown hK hG hS ht_ld40 (by decide) tk_no rfl 4 (by decide) (htl _ mw_408) (fun _ h9 => h9) rfl (tyX9_ok 4 (by decide)) rfl rfl rfl (tk_Vi (tk_rng _).1 (tk_rng _).2) (fun _ h => tk_X10 h (by decide) (by decide)) (tk_w.of ht_ld40 (by decide) (List.mem_of_getElem? (i := 0) rfl) (Nat.le_refl _) (Nat.le_refl _)) dX2_setTerm_33 (fun H locs hG hS hf16 hq9 hj9 => ?_)
    refine lv_goto (tgt := 60) hx hb dX2_setTerm_36 (by decide) ?_
    exact hj14 _ _ hG hS _ (lv_sub hl [] rfl)
  · refine lv_tableIn (off := 38) (tgt := 39) hx hb dX2_setTerm_1 (by omega) (by omega) (by rw [hsw]; rfl) (by decide) ?_
    refine lv_aload_n hx hb dX2_setTerm_39 rfl (lv_at hl 0 rfl) ?_
    refine lv_iload_n hx hb dX2_setTerm_40 rfl (lv_at hl 2 rfl) ?_
    refine tk_put (ci := 2) (v := .int p2) (ty := .int) (C := RX2) (T := TX2) (N := 20) (sp := (0, (-2147483648), 2147483647, 0)) hx hb htl inX2 tyX2 tyX2_ok nmX2 hown hK hG hS ht_a0 (by decide) tk_no rfl 16 (by decide) (htl _ mw_72) (fun _ h9 => h9) rfl (tyX2_ok 16 (by decide)) rfl rfl rfl (tk_Vi (tk_rng _).1 (tk_rng _).2) (fun _ h => h) (tk_w.of ht_a0 (by decide) (List.mem_of_getElem? (i := 1) rfl) (Nat.le_refl _) (Nat.le_refl _)) dX2_setTerm_41 (fun H locs hG hS hf18 hq9 hj9 => ?_)
    refine lv_goto (tgt := 60) hx hb dX2_setTerm_44 (by decide) ?_
    exact hj14 _ _ hG hS _ (lv_sub hl [] rfl)
  · refine lv_tableIn (off := 46) (tgt := 47) hx hb dX2_setTerm_1 (by omega) (by omega) (by rw [hsw]; rfl) (by decide) ?_
    refine lv_aload_n hx hb dX2_setTerm_47 rfl (lv_at hl 0 rfl) ?_
    refine lv_iload_n hx hb dX2_setTerm_48 rfl (lv_at hl 2 rfl) ?_
    refine tk_put (ci := 2) (v := .int p2) (ty := .int) (C := RX2) (T := TX2) (N := 20) (sp := (0, (-2147483648), 2147483647, 0)) hx hb htl inX2 tyX2 tyX2_ok nmX2 hown hK hG hS ht_a0 (by decide) tk_no rfl 17 (by decide) (htl _ mw_73) (fun _ h9 => h9) rfl (tyX2_ok 17 (by decide)) rfl rfl rfl (tk_Vi (tk_rng _).1 (tk_rng _).2) (fun _ h => h) (tk_w.of ht_a0 (by decide) (List.mem_of_getElem? (i := 1) rfl) (Nat.le_refl _) (Nat.le_refl _)) dX2_setTerm_49 (fun H locs hG hS hf20 hq9 hj9 => ?_)
    refine lv_goto (tgt := 60) hx hb dX2_setTerm_52 (by decide) ?_
    exact hj14 _ _ hG hS _ (lv_sub hl [] rfl)
  · refine lv_tableOut (tgt := 55) hx hb dX2_setTerm_1 (by omega) (by decide) ?_
    refine lv_aload_n hx hb dX2_setTerm_55 rfl (lv_at hl 0 rfl) ?_
    refine lv_iload_n hx hb dX2_setTerm_56 rfl (lv_at hl 2 rfl) ?_
    refine tk_put (ci := 2) (v := .int p2) (ty := .int) (C := RX2) (T := TX2) (N := 20) (sp := (0, (-2147483648), 2147483647, 0)) hx hb htl inX2 tyX2 tyX2_ok nmX2 hown hK hG hS ht_a0 (by decide) tk_no rfl 18 (by decide) (htl _ mw_409) (fun _ h9 => h9) rfl (tyX2_ok 18 (by decide)) rfl rfl rfl (tk_Vi (tk_rng _).1 (tk_rng _).2) (fun _ h => h) (tk_w.of ht_a0 (by decide) (List.mem_of_getElem? (i := 1) rfl) (Nat.le_refl _) (Nat.le_refl _)) dX2_setTerm_57 (fun H locs hG hS hf22 hq9 hj9 => ?_)
    exact hj14 _ _ hG hS _ (lv_sub hl [] rfl)
  · refine lv_tableOut (tgt := 55) hx hb dX2_setTerm_1 (by omega) (by decide) ?_
    refine lv_aload_n hx hb dX2_setTerm_55 rfl (lv_at hl 0 rfl) ?_
    refine lv_iload_n hx hb dX2_setTerm_56 rfl (lv_at hl 2 rfl) ?_
    refine tk_put (ci := 2) (v := .int p2) (ty := .int) (C := RX2) (T := TX2) (N := 20) (sp := (0, (-2147483648), 2147483647, 0)) hx hb htl inX2 tyX2 tyX2_ok nmX2 hown hK hG hS ht_a0 (by decide) tk_no rfl 18 (by decide) (htl _ mw_409) (fun _ h9 => h9) rfl (tyX2_ok 18 (by decide)) rfl rfl rfl (tk_Vi (tk_rng _).1 (tk_rng _).2) (fun _ h => h) (tk_w.of ht_a0 (by decide) (List.mem_of_getElem? (i := 1) rfl) (Nat.le_refl _) (Nat.le_refl _)) dX2_setTerm_57 (fun H locs hG hS hf24 hq9 hj9 => ?_)
    exact hj14 _ _ hG hS _ (lv_sub hl [] rfl)
theorem dX2_asleepWith_0 : decode cX2_asleepWith 0 = .ok (.iconst 1, 1) := by decide +kernel
theorem dX2_asleepWith_1 : decode cX2_asleepWith 1 = .ok (.iload_n 1, 1) := by decide +kernel
theorem dX2_asleepWith_2 : decode cX2_asleepWith 2 = .ok (.ishl, 1) := by decide +kernel
theorem dX2_asleepWith_3 : decode cX2_asleepWith 3 = .ok (.istore_n 2, 1) := by decide +kernel
theorem dX2_asleepWith_4 : decode cX2_asleepWith 4 = .ok (.iconst 0, 1) := by decide +kernel
theorem dX2_asleepWith_5 : decode cX2_asleepWith 5 = .ok (.istore_n 3, 1) := by decide +kernel
theorem dX2_asleepWith_6 : decode cX2_asleepWith 6 = .ok (.iload_n 3, 1) := by decide +kernel
theorem dX2_asleepWith_7 : decode cX2_asleepWith 7 = .ok (.aload_n 0, 1) := by decide +kernel
theorem dX2_asleepWith_8 : decode cX2_asleepWith 8 = .ok (.getfield 62, 3) := by decide +kernel
theorem dX2_asleepWith_11 : decode cX2_asleepWith 11 = .ok (.if_icmp .ge 23, 3) := by decide +kernel
theorem dX2_asleepWith_34 : decode cX2_asleepWith 34 = .ok (.iload_n 2, 1) := by decide +kernel
theorem dX2_asleepWith_35 : decode cX2_asleepWith 35 = .ok (.ireturn, 1) := by decide +kernel
theorem dX2_asleepWith_14 : decode cX2_asleepWith 14 = .ok (.iload_n 2, 1) := by decide +kernel
theorem dX2_asleepWith_15 : decode cX2_asleepWith 15 = .ok (.aload_n 0, 1) := by decide +kernel
theorem dX2_asleepWith_16 : decode cX2_asleepWith 16 = .ok (.getfield 58, 3) := by decide +kernel
theorem dX2_asleepWith_19 : decode cX2_asleepWith 19 = .ok (.getfield 101, 3) := by decide +kernel
theorem dX2_asleepWith_22 : decode cX2_asleepWith 22 = .ok (.iload_n 3, 1) := by decide +kernel
theorem dX2_asleepWith_23 : decode cX2_asleepWith 23 = .ok (.iaload, 1) := by decide +kernel
theorem dX2_asleepWith_24 : decode cX2_asleepWith 24 = .ok (.iload_n 3, 1) := by decide +kernel
theorem dX2_asleepWith_25 : decode cX2_asleepWith 25 = .ok (.ishl, 1) := by decide +kernel
theorem dX2_asleepWith_26 : decode cX2_asleepWith 26 = .ok (.ior, 1) := by decide +kernel
theorem dX2_asleepWith_27 : decode cX2_asleepWith 27 = .ok (.istore_n 2, 1) := by decide +kernel
theorem dX2_asleepWith_28 : decode cX2_asleepWith 28 = .ok (.iinc 3 1, 3) := by decide +kernel
theorem dX2_asleepWith_31 : decode cX2_asleepWith 31 = .ok (.goto (-25), 3) := by decide +kernel
set_option maxHeartbeats 4000000 in
set_option maxRecDepth 100000 in
theorem k_X2_asleepWith (l : Launch) (D : va_G) (cy : Nat → ClassId) (ld : Nat → Nat) (t : tk_T) (a0 : Nat) (p1 : Int32) (ht_a0 : t a0 = (3, 0, 0)) : Met l yX2_asleepWith (wl yX2_asleepWith cX2_asleepWith 4 (some .int)) ({ frames := 3, cells := 0, slots := 0, locals := 140 }) (tp D cy ld t [] [.ref a0, .int p1] (fun H => True)) (ti D cy ld t [] (fun r H => True) (tk_w t [])) 0 0 (tk_w t []) := by
  refine tk_met (y := yX2_asleepWith) (cc := cX2_asleepWith) (maxL := 4) (ret := (some .int)) (av := [.ref a0, .int p1]) _ _ (by decide) (Nat.le_of_ble_eq_true rfl) ?_
  intro p e s m args below meth c hx hb hr hml hts htl hown hlocks hK H locs hH hG hS hB hZ ls hl
  have hown : s.vm.findClass RX2 = some m.cls := hown
  have hl : lv_has ls 4 [(0, .ref a0), (1, .int p1)] := hl
  have hr_p1 := tk_rng p1
  refine lv_iconst (v := 1) hx hb dX2_asleepWith_0 (by decide) ?_
  refine lv_iload_n hx hb dX2_asleepWith_1 rfl (lv_at hl 1 rfl) ?_
  refine lv_ishl hx hb dX2_asleepWith_2 ?_
  refine tk_any (fun v1 => ?_)
  refine lv_istore_n (lv' := [(2, .int v1), (0, .ref a0), (1, .int p1)]) hx hb dX2_asleepWith_3 rfl hl (by decide) rfl (fun ls hl => ?_)
  refine lv_iconst (v := 0) hx hb dX2_asleepWith_4 (by decide) ?_
  refine lv_istore_n (lv' := [(3, .int 0), (2, .int v1), (0, .ref a0), (1, .int p1)]) hx hb dX2_asleepWith_5 rfl hl (by decide) rfl (fun ls hl => ?_)
  have hl143 : ∀ (N : Nat) (v22 : Int32) (v23 : Int32), v22.toInt ≤ 8 → 0 ≤ v22.toInt → (-1) * v22.toInt + 8 < (N : Int) → ∀ ls : Array Slot, lv_has ls 4 [(3, .int v22), (2, .int v23), (0, .ref a0)] → W p l e ({ frames := 3, cells := 0, slots := 0, locals := 140 }) s m args below meth c H locs 0 0 (MQ below (ti D cy ld t [] (fun r H => True) (tk_w t [])) args s 0 0 (tk_w t [])) (F0 m 6 ls []) := by
    intro N
    induction N with
    | zero => intro v22 v23 hq0_l143 hq1_l143 hm_l143 ls hl; exfalso; omega
    | succ N ih =>
      intro v22 v23 hq0_l143 hq1_l143 hm_l143 ls hl
      refine lv_iload_n hx hb dX2_asleepWith_6 rfl (lv_at hl 0 rfl) ?_
      refine lv_aload_n hx hb dX2_asleepWith_7 rfl (lv_at hl 2 rfl) ?_
      refine tk_get (ci := 2) (C := RX2) (T := TX2) (N := 20) (sp := (0, 0, 8, 0)) hx hb htl inX2 hown hK hG ht_a0 (by decide) tk_no rfl 0 (by decide) (htl _ mw_257) (fun _ h9 => h9) rfl dX2_asleepWith_8 (fun v9 hf144 hV9 => ?_)
      obtain ⟨v145, rfl, ha_v145, hb_v145⟩ := hV9
      refine lv_icmp_ge (tgt := 34) hx hb dX2_asleepWith_11 (by decide) (fun c9 => ?_) (fun c9 => ?_)
      · have hc146 : v145.toInt ≤ v22.toInt := (fi_le rfl rfl).mp c9
        refine lv_iload_n hx hb dX2_asleepWith_34 rfl (lv_at hl 1 rfl) ?_
        exact tk_iret (v := v23) hx hb hr rfl hlocks trivial hG hS dX2_asleepWith_35
      · have hc146 : ¬ (v145.toInt ≤ v22.toInt) := fun h9 => c9 ((fi_le rfl rfl).mpr h9)
        refine lv_iload_n hx hb dX2_asleepWith_14 rfl (lv_at hl 1 rfl) ?_
        refine lv_aload_n hx hb dX2_asleepWith_15 rfl (lv_at hl 2 rfl) ?_
        refine tk_get (ci := 2) (C := RX2) (T := TX2) (N := 20) (sp := (9, 40, 10, 0)) hx hb htl inX2 hown hK hG ht_a0 (by decide) tk_no rfl 19 (by decide) (htl _ mw_77) (fun _ h9 => h9) rfl dX2_asleepWith_16 (fun v9 hf154 hV9 => ?_)
        obtain ⟨rfl, ht_ld40⟩ := hV9
        have ht_ld40 : t (ld 40) = (10, 0, 0) := ht_ld40
        refine fx_top (v := .ref (ld 40)) rfl ?_
        refine tk_get (ci := 9) (C := RX9) (T := TX9) (N := 11) (sp := (1, 20, 8, 0)) hx hb htl inX9 hown hK hG ht_ld40 (by decide) tk_no rfl 1 (by decide) (htl _ mw_259) (fun _ h9 => h9) rfl dX2_asleepWith_19 (fun v9 hf155 hV9 => ?_)
        obtain ⟨b156, rfl, ht_b156⟩ := hV9
        have ht_b156 : t b156 = (20, 8, 0) := ht_b156
        refine lv_iload_n hx hb dX2_asleepWith_22 rfl (lv_at hl 0 rfl) ?_
        refine tk_iald hx hb hK hG ht_b156 (by decide) (fun _ h => h) tk_no rfl (by omega) (by omega) dX2_asleepWith_23 (fun v157 _ _ => ?_)
        have hr_v157 := tk_rng v157
        refine lv_iload_n hx hb dX2_asleepWith_24 rfl (lv_at hl 0 rfl) ?_
        refine lv_ishl hx hb dX2_asleepWith_25 ?_
        refine tk_any (fun v158 => ?_)
        refine lv_ior hx hb dX2_asleepWith_26 ?_
        refine tk_any (fun v159 => ?_)
        refine lv_istore_n (lv' := [(2, .int v159), (3, .int v22), (0, .ref a0)]) hx hb dX2_asleepWith_27 rfl hl (by decide) rfl (fun ls hl => ?_)
        obtain ⟨v160, h_v160, e_v160⟩ := tk_inc v22 1 (by decide) (by omega) (by omega)
        refine lv_iinc (v := v160) (lv' := [(3, .int v160), (2, .int v159), (0, .ref a0)]) hx hb dX2_asleepWith_28 hl (k := 1) rfl e_v160 (by decide) rfl (fun ls hl => ?_)
        refine lv_goto (tgt := 6) hx hb dX2_asleepWith_31 (by decide) ?_
        exact ih v160 v159 (by omega) (by omega) (by omega) _ (lv_sub hl [0, 1, 2] rfl)
  have hk_0 : (0 : Int32).toInt = 0 := by decide
  exact hl143 9 0 v1 (by omega) (by omega) (by omega) _ (lv_sub hl [0, 1, 2] rfl)
theorem dX2_oneRoundMore_0 : decode cX2_oneRoundMore 0 = .ok (.iload_n 1, 1) := by decide +kernel
theorem dX2_oneRoundMore_1 : decode cX2_oneRoundMore 1 = .ok (.iload_n 2, 1) := by decide +kernel
theorem dX2_oneRoundMore_2 : decode cX2_oneRoundMore 2 = .ok (.iconst (-1), 1) := by decide +kernel
theorem dX2_oneRoundMore_3 : decode cX2_oneRoundMore 3 = .ok (.ixor, 1) := by decide +kernel
theorem dX2_oneRoundMore_4 : decode cX2_oneRoundMore 4 = .ok (.iand, 1) := by decide +kernel
theorem dX2_oneRoundMore_5 : decode cX2_oneRoundMore 5 = .ok (.istore_n 3, 1) := by decide +kernel
theorem dX2_oneRoundMore_6 : decode cX2_oneRoundMore 6 = .ok (.iload_n 1, 1) := by decide +kernel
theorem dX2_oneRoundMore_7 : decode cX2_oneRoundMore 7 = .ok (.istore 4, 2) := by decide +kernel
theorem dX2_oneRoundMore_9 : decode cX2_oneRoundMore 9 = .ok (.iconst 0, 1) := by decide +kernel
theorem dX2_oneRoundMore_10 : decode cX2_oneRoundMore 10 = .ok (.istore 5, 2) := by decide +kernel
theorem dX2_oneRoundMore_12 : decode cX2_oneRoundMore 12 = .ok (.iload 5, 2) := by decide +kernel
theorem dX2_oneRoundMore_14 : decode cX2_oneRoundMore 14 = .ok (.aload_n 0, 1) := by decide +kernel
theorem dX2_oneRoundMore_15 : decode cX2_oneRoundMore 15 = .ok (.getfield 62, 3) := by decide +kernel
theorem dX2_oneRoundMore_18 : decode cX2_oneRoundMore 18 = .ok (.if_icmp .ge 69, 3) := by decide +kernel
theorem dX2_oneRoundMore_87 : decode cX2_oneRoundMore 87 = .ok (.iload 4, 2) := by decide +kernel
theorem dX2_oneRoundMore_89 : decode cX2_oneRoundMore 89 = .ok (.ireturn, 1) := by decide +kernel
theorem dX2_oneRoundMore_21 : decode cX2_oneRoundMore 21 = .ok (.iload_n 2, 1) := by decide +kernel
theorem dX2_oneRoundMore_22 : decode cX2_oneRoundMore 22 = .ok (.iload 5, 2) := by decide +kernel
theorem dX2_oneRoundMore_24 : decode cX2_oneRoundMore 24 = .ok (.ishr, 1) := by decide +kernel
theorem dX2_oneRoundMore_25 : decode cX2_oneRoundMore 25 = .ok (.iconst 1, 1) := by decide +kernel
theorem dX2_oneRoundMore_26 : decode cX2_oneRoundMore 26 = .ok (.iand, 1) := by decide +kernel
theorem dX2_oneRoundMore_27 : decode cX2_oneRoundMore 27 = .ok (.iconst 1, 1) := by decide +kernel
theorem dX2_oneRoundMore_36 : decode cX2_oneRoundMore 36 = .ok (.istore 6, 2) := by decide +kernel
theorem dX2_oneRoundMore_38 : decode cX2_oneRoundMore 38 = .ok (.iload 6, 2) := by decide +kernel
theorem dX2_oneRoundMore_81 : decode cX2_oneRoundMore 81 = .ok (.iinc 5 1, 3) := by decide +kernel
theorem dX2_oneRoundMore_84 : decode cX2_oneRoundMore 84 = .ok (.goto (-72), 3) := by decide +kernel
theorem dX2_oneRoundMore_40 : decode cX2_oneRoundMore 40 = .ok (.ifCond .ne 41, 3) := by decide +kernel
theorem dX2_oneRoundMore_43 : decode cX2_oneRoundMore 43 = .ok (.aload_n 0, 1) := by decide +kernel
theorem dX2_oneRoundMore_44 : decode cX2_oneRoundMore 44 = .ok (.getfield 58, 3) := by decide +kernel
theorem dX2_oneRoundMore_47 : decode cX2_oneRoundMore 47 = .ok (.getfield 98, 3) := by decide +kernel
theorem dX2_oneRoundMore_50 : decode cX2_oneRoundMore 50 = .ok (.iload 5, 2) := by decide +kernel
theorem dX2_oneRoundMore_52 : decode cX2_oneRoundMore 52 = .ok (.iaload, 1) := by decide +kernel
theorem dX2_oneRoundMore_53 : decode cX2_oneRoundMore 53 = .ok (.aload_n 0, 1) := by decide +kernel
theorem dX2_oneRoundMore_54 : decode cX2_oneRoundMore 54 = .ok (.getfield 52, 3) := by decide +kernel
theorem dX2_oneRoundMore_57 : decode cX2_oneRoundMore 57 = .ok (.if_icmp .gt 24, 3) := by decide +kernel
theorem dX2_oneRoundMore_60 : decode cX2_oneRoundMore 60 = .ok (.aload_n 0, 1) := by decide +kernel
theorem dX2_oneRoundMore_61 : decode cX2_oneRoundMore 61 = .ok (.getfield 18, 3) := by decide +kernel
theorem dX2_oneRoundMore_64 : decode cX2_oneRoundMore 64 = .ok (.iload 5, 2) := by decide +kernel
theorem dX2_oneRoundMore_66 : decode cX2_oneRoundMore 66 = .ok (.iaload, 1) := by decide +kernel
theorem dX2_oneRoundMore_67 : decode cX2_oneRoundMore 67 = .ok (.iload_n 3, 1) := by decide +kernel
theorem dX2_oneRoundMore_68 : decode cX2_oneRoundMore 68 = .ok (.iand, 1) := by decide +kernel
theorem dX2_oneRoundMore_69 : decode cX2_oneRoundMore 69 = .ok (.ifCond .eq 12, 3) := by decide +kernel
theorem dX2_oneRoundMore_72 : decode cX2_oneRoundMore 72 = .ok (.iload 4, 2) := by decide +kernel
theorem dX2_oneRoundMore_74 : decode cX2_oneRoundMore 74 = .ok (.iconst 1, 1) := by decide +kernel
theorem dX2_oneRoundMore_75 : decode cX2_oneRoundMore 75 = .ok (.iload 5, 2) := by decide +kernel
theorem dX2_oneRoundMore_77 : decode cX2_oneRoundMore 77 = .ok (.ishl, 1) := by decide +kernel
theorem dX2_oneRoundMore_78 : decode cX2_oneRoundMore 78 = .ok (.ior, 1) := by decide +kernel
theorem dX2_oneRoundMore_79 : decode cX2_oneRoundMore 79 = .ok (.istore 4, 2) := by decide +kernel
theorem dX2_oneRoundMore_28 : decode cX2_oneRoundMore 28 = .ok (.if_icmp .ne 7, 3) := by decide +kernel
theorem dX2_oneRoundMore_35 : decode cX2_oneRoundMore 35 = .ok (.iconst 0, 1) := by decide +kernel
theorem dX2_oneRoundMore_31 : decode cX2_oneRoundMore 31 = .ok (.iconst 1, 1) := by decide +kernel
theorem dX2_oneRoundMore_32 : decode cX2_oneRoundMore 32 = .ok (.goto 4, 3) := by decide +kernel
set_option maxHeartbeats 4000000 in
set_option maxRecDepth 100000 in
theorem k_X2_oneRoundMore (l : Launch) (D : va_G) (cy : Nat → ClassId) (ld : Nat → Nat) (t : tk_T) (a0 : Nat) (p1 : Int32) (p2 : Int32) (ht_a0 : t a0 = (3, 0, 0)) : Met l yX2_oneRoundMore (wl yX2_oneRoundMore cX2_oneRoundMore 7 (some .int)) ({ frames := 3, cells := 0, slots := 0, locals := 140 }) (tp D cy ld t [] [.ref a0, .int p1, .int p2] (fun H => True)) (ti D cy ld t [] (fun r H => True) (tk_w t [])) 0 0 (tk_w t []) := by
  refine tk_met (y := yX2_oneRoundMore) (cc := cX2_oneRoundMore) (maxL := 7) (ret := (some .int)) (av := [.ref a0, .int p1, .int p2]) _ _ (by decide) (Nat.le_of_ble_eq_true rfl) ?_
  intro p e s m args below meth c hx hb hr hml hts htl hown hlocks hK H locs hH hG hS hB hZ ls hl
  have hown : s.vm.findClass RX2 = some m.cls := hown
  have hl : lv_has ls 7 [(0, .ref a0), (1, .int p1), (2, .int p2)] := hl
  have hr_p1 := tk_rng p1
  have hr_p2 := tk_rng p2
  refine lv_iload_n hx hb dX2_oneRoundMore_0 rfl (lv_at hl 1 rfl) ?_
  refine lv_iload_n hx hb dX2_oneRoundMore_1 rfl (lv_at hl 2 rfl) ?_
  refine lv_iconst (v := (-1)) hx hb dX2_oneRoundMore_2 (by decide) ?_
  refine lv_ixor hx hb dX2_oneRoundMore_3 ?_
  refine tk_any (fun v1 => ?_)
  refine lv_iand hx hb dX2_oneRoundMore_4 ?_
  refine tk_any (fun v2 => ?_)
  refine lv_istore_n (lv' := [(3, .int v2), (0, .ref a0), (1, .int p1), (2, .int p2)]) hx hb dX2_oneRoundMore_5 rfl hl (by decide) rfl (fun ls hl => ?_)
  refine lv_iload_n hx hb dX2_oneRoundMore_6 rfl (lv_at hl 2 rfl) ?_
  refine lv_istore (lv' := [(4, .int p1), (3, .int v2), (0, .ref a0), (1, .int p1), (2, .int p2)]) hx hb dX2_oneRoundMore_7 hl (by decide) rfl (fun ls hl => ?_)
  refine lv_iconst (v := 0) hx hb dX2_oneRoundMore_9 (by decide) ?_
  refine lv_istore (lv' := [(5, .int 0), (4, .int p1), (3, .int v2), (0, .ref a0), (1, .int p1), (2, .int p2)]) hx hb dX2_oneRoundMore_10 hl (by decide) rfl (fun ls hl => ?_)
  have hl656 : ∀ (N : Nat) (v87 : Int32) (v88 : Int32), v87.toInt ≤ 8 → 0 ≤ v87.toInt → (-1) * v87.toInt + 8 < (N : Int) → ∀ ls : Array Slot, lv_has ls 7 [(5, .int v87), (4, .int v88), (3, .int v2), (0, .ref a0), (2, .int p2)] → W p l e ({ frames := 3, cells := 0, slots := 0, locals := 140 }) s m args below meth c H locs 0 0 (MQ below (ti D cy ld t [] (fun r H => True) (tk_w t [])) args s 0 0 (tk_w t [])) (F0 m 12 ls []) := by
    intro N
    induction N with
    | zero => intro v87 v88 hq0_l656 hq1_l656 hm_l656 ls hl; exfalso; omega
    | succ N ih =>
      intro v87 v88 hq0_l656 hq1_l656 hm_l656 ls hl
      refine lv_iload hx hb dX2_oneRoundMore_12 (lv_at hl 0 rfl) ?_
      refine lv_aload_n hx hb dX2_oneRoundMore_14 rfl (lv_at hl 3 rfl) ?_
      refine tk_get (ci := 2) (C := RX2) (T := TX2) (N := 20) (sp := (0, 0, 8, 0)) hx hb htl inX2 hown hK hG ht_a0 (by decide) tk_no rfl 0 (by decide) (htl _ mw_257) (fun _ h9 => h9) rfl dX2_oneRoundMore_15 (fun v9 hf657 hV9 => ?_)
      obtain ⟨v658, rfl, ha_v658, hb_v658⟩ := hV9
      refine lv_icmp_ge (tgt := 87) hx hb dX2_oneRoundMore_18 (by decide) (fun c9 => ?_) (fun c9 => ?_)
      · have hc659 : v658.toInt ≤ v87.toInt := (fi_le rfl rfl).mp c9
        refine lv_iload hx hb dX2_oneRoundMore_87 (lv_at hl 1 rfl) ?_
        exact tk_iret (v := v88) hx hb hr rfl hlocks trivial hG hS dX2_oneRoundMore_89
      · have hc659 : ¬ (v658.toInt ≤ v87.toInt) := fun h9 => c9 ((fi_le rfl rfl).mpr h9)
        refine lv_iload_n hx hb dX2_oneRoundMore_21 rfl (lv_at hl 4 rfl) ?_
        refine lv_iload hx hb dX2_oneRoundMore_22 (lv_at hl 0 rfl) ?_
        refine lv_ishr hx hb dX2_oneRoundMore_24 ?_
        refine tk_any (fun v699 => ?_)
        refine lv_iconst (v := 1) hx hb dX2_oneRoundMore_25 (by decide) ?_
        refine lv_iand hx hb dX2_oneRoundMore_26 ?_
        refine tk_say (P := fun z => 0 ≤ z.toInt ∧ z.toInt ≤ 1) (tk_and v699 1 (by decide) (by decide)) (fun v700 h_v700 => ?_)
        refine lv_iconst (v := 1) hx hb dX2_oneRoundMore_27 (by decide) ?_
        have hj704 : ∀ (v703 : Int32), 0 ≤ v703.toInt → v703.toInt ≤ 1 → ∀ ls : Array Slot, lv_has ls 7 [(5, .int v87), (4, .int v88), (3, .int v2), (0, .ref a0), (2, .int p2)] → W p l e ({ frames := 3, cells := 0, slots := 0, locals := 140 }) s m args below meth c H locs 0 0 (MQ below (ti D cy ld t [] (fun r H => True) (tk_w t [])) args s 0 0 (tk_w t [])) (F0 m 36 ls [.int v703]) := by
          intro v703 hq0_j704 hq1_j704 ls hl
          refine lv_istore (lv' := [(6, .int v703), (5, .int v87), (4, .int v88), (3, .int v2), (0, .ref a0), (2, .int p2)]) hx hb dX2_oneRoundMore_36 hl (by decide) rfl (fun ls hl => ?_)
          refine lv_iload hx hb dX2_oneRoundMore_38 (lv_at hl 0 rfl) ?_
          have hj722 : ∀ (v721 : Int32), ∀ ls : Array Slot, lv_has ls 7 [(5, .int v87), (4, .int v721), (3, .int v2), (0, .ref a0), (2, .int p2)] → W p l e ({ frames := 3, cells := 0, slots := 0, locals := 140 }) s m args below meth c H locs 0 0 (MQ below (ti D cy ld t [] (fun r H => True) (tk_w t [])) args s 0 0 (tk_w t [])) (F0 m 81 ls []) := by
            intro v721  ls hl
            obtain ⟨v723, h_v723, e_v723⟩ := tk_inc v87 1 (by decide) (by omega) (by omega)
            refine lv_iinc (v := v723) (lv' := [(5, .int v723), (4, .int v721), (3, .int v2), (0, .ref a0), (2, .int p2)]) hx hb dX2_oneRoundMore_81 hl (k := 0) rfl e_v723 (by decide) rfl (fun ls hl => ?_)
            refine lv_goto (tgt := 12) hx hb dX2_oneRoundMore_84 (by decide) ?_
            exact ih v723 v721 (by omega) (by omega) (by omega) _ (lv_sub hl [0, 1, 2, 3, 4] rfl)
          refine lv_if_ne (tgt := 81) hx hb dX2_oneRoundMore_40 (by decide) (fun c9 => ?_) (fun c9 => ?_)
          · have hc705 : ¬ (v703.toInt = 0) := fun h9 => c9 ((fi_eq rfl (by decide)).mpr h9)
            exact hj722 v88 _ (lv_sub hl [1, 2, 3, 4, 5] rfl)
          · have hc705 : v703.toInt = 0 := (fi_eq rfl (by decide)).mp c9
            refine lv_aload_n hx hb dX2_oneRoundMore_43 rfl (lv_at hl 4 rfl) ?_
            refine tk_get (ci := 2) (C := RX2) (T := TX2) (N := 20) (sp := (9, 40, 10, 0)) hx hb htl inX2 hown hK hG ht_a0 (by decide) tk_no rfl 19 (by decide) (htl _ mw_77) (fun _ h9 => h9) rfl dX2_oneRoundMore_44 (fun v9 hf724 hV9 => ?_)
            obtain ⟨rfl, ht_ld40⟩ := hV9
            have ht_ld40 : t (ld 40) = (10, 0, 0) := ht_ld40
            refine fx_top (v := .ref (ld 40)) rfl ?_
            refine tk_get (ci := 9) (C := RX9) (T := TX9) (N := 11) (sp := (1, 20, 8, 0)) hx hb htl inX9 hown hK hG ht_ld40 (by decide) tk_no rfl 0 (by decide) (htl _ mw_258) (fun _ h9 => h9) rfl dX2_oneRoundMore_47 (fun v9 hf725 hV9 => ?_)
            obtain ⟨b726, rfl, ht_b726⟩ := hV9
            have ht_b726 : t b726 = (20, 8, 0) := ht_b726
            refine lv_iload hx hb dX2_oneRoundMore_50 (lv_at hl 1 rfl) ?_
            refine tk_iald hx hb hK hG ht_b726 (by decide) (fun _ h => h) tk_no rfl (by omega) (by omega) dX2_oneRoundMore_52 (fun v727 _ _ => ?_)
            have hr_v727 := tk_rng v727
            refine lv_aload_n hx hb dX2_oneRoundMore_53 rfl (lv_at hl 4 rfl) ?_
            refine tk_get (ci := 2) (C := RX2) (T := TX2) (N := 20) (sp := (0, (-2147483648), 2147483647, 0)) hx hb htl inX2 hown hK hG ht_a0 (by decide) tk_no rfl 17 (by decide) (htl _ mw_73) (fun _ h9 => h9) rfl dX2_oneRoundMore_54 (fun v9 hf728 hV9 => ?_)
            obtain ⟨v729, rfl, ha_v729, hb_v729⟩ := hV9
            refine lv_icmp_gt (tgt := 81) hx hb dX2_oneRoundMore_57 (by decide) (fun c9 => ?_) (fun c9 => ?_)
            · have hc730 : v729.toInt < v727.toInt := (fi_lt rfl rfl).mp c9
              exact hj722 v88 _ (lv_sub hl [1, 2, 3, 4, 5] rfl)
            · have hc730 : ¬ (v729.toInt < v727.toInt) := fun h9 => c9 ((fi_lt rfl rfl).mpr h9)
              refine lv_aload_n hx hb dX2_oneRoundMore_60 rfl (lv_at hl 4 rfl) ?_
              refine tk_get (ci := 2) (C := RX2) (T := TX2) (N := 20) (sp := (1, 20, 8, 0)) hx hb htl inX2 hown hK hG ht_a0 (by decide) tk_no rfl 3 (by decide) (htl _ mw_62) (fun _ h9 => h9) rfl dX2_oneRoundMore_61 (fun v9 hf731 hV9 => ?_)
              obtain ⟨b732, rfl, ht_b732⟩ := hV9
              have ht_b732 : t b732 = (20, 8, 0) := ht_b732
              refine lv_iload hx hb dX2_oneRoundMore_64 (lv_at hl 1 rfl) ?_
              refine tk_iald hx hb hK hG ht_b732 (by decide) (fun _ h => h) tk_no rfl (by omega) (by omega) dX2_oneRoundMore_66 (fun v733 _ _ => ?_)
              have hr_v733 := tk_rng v733
              refine lv_iload_n hx hb dX2_oneRoundMore_67 rfl (lv_at hl 3 rfl) ?_
              refine lv_iand hx hb dX2_oneRoundMore_68 ?_
              refine tk_any (fun v734 => ?_)
              refine lv_if_eq (tgt := 81) hx hb dX2_oneRoundMore_69 (by decide) (fun c9 => ?_) (fun c9 => ?_)
              · have hc735 : v734.toInt = 0 := (fi_eq rfl (by decide)).mp c9
                exact hj722 v88 _ (lv_sub hl [1, 2, 3, 4, 5] rfl)
              · have hc735 : ¬ (v734.toInt = 0) := fun h9 => c9 ((fi_eq rfl (by decide)).mpr h9)
                refine lv_iload hx hb dX2_oneRoundMore_72 (lv_at hl 2 rfl) ?_
                refine lv_iconst (v := 1) hx hb dX2_oneRoundMore_74 (by decide) ?_
                refine lv_iload hx hb dX2_oneRoundMore_75 (lv_at hl 1 rfl) ?_
                refine lv_ishl hx hb dX2_oneRoundMore_77 ?_
                refine tk_say (P := fun z => 1 ≤ z.toInt ∧ z.toInt ≤ 1024) (tk_shl1 v87 (by omega) (by omega)) (fun v736 h_v736 => ?_)
                refine lv_ior hx hb dX2_oneRoundMore_78 ?_
                refine tk_any (fun v737 => ?_)
                refine lv_istore (lv' := [(4, .int v737), (6, .int v703), (5, .int v87), (3, .int v2), (0, .ref a0), (2, .int p2)]) hx hb dX2_oneRoundMore_79 hl (by decide) rfl (fun ls hl => ?_)
                exact hj722 v737 _ (lv_sub hl [2, 0, 3, 4, 5] rfl)
        refine lv_icmp_ne (tgt := 35) hx hb dX2_oneRoundMore_28 (by decide) (fun c9 => ?_) (fun c9 => ?_)
        · have hc701 : ¬ (v700.toInt = 1) := fun h9 => c9 ((fi_eq rfl (by decide)).mpr h9)
          refine lv_iconst (v := 0) hx hb dX2_oneRoundMore_35 (by decide) ?_
          have hk_0 : (0 : Int32).toInt = 0 := by decide
          exact hj704 0 (by omega) (by omega) _ (lv_sub hl [0, 1, 2, 3, 4] rfl)
        · have hc701 : v700.toInt = 1 := (fi_eq rfl (by decide)).mp c9
          refine lv_iconst (v := 1) hx hb dX2_oneRoundMore_31 (by decide) ?_
          refine lv_goto (tgt := 36) hx hb dX2_oneRoundMore_32 (by decide) ?_
          have hk_1 : (1 : Int32).toInt = 1 := by decide
          exact hj704 1 (by omega) (by omega) _ (lv_sub hl [0, 1, 2, 3, 4] rfl)
  have hk_0 : (0 : Int32).toInt = 0 := by decide
  exact hl656 9 0 p1 (by omega) (by omega) (by omega) _ (lv_sub hl [0, 1, 2, 3, 5] rfl)
theorem dX2_asleepBehind_0 : decode cX2_asleepBehind 0 = .ok (.aload_n 0, 1) := by decide +kernel
theorem dX2_asleepBehind_1 : decode cX2_asleepBehind 1 = .ok (.iload_n 1, 1) := by decide +kernel
theorem dX2_asleepBehind_2 : decode cX2_asleepBehind 2 = .ok (.invokevirtual 110, 3) := by decide +kernel
theorem dX2_asleepBehind_5 : decode cX2_asleepBehind 5 = .ok (.istore_n 3, 1) := by decide +kernel
theorem dX2_asleepBehind_6 : decode cX2_asleepBehind 6 = .ok (.iconst 0, 1) := by decide +kernel
theorem dX2_asleepBehind_7 : decode cX2_asleepBehind 7 = .ok (.istore 4, 2) := by decide +kernel
theorem dX2_asleepBehind_9 : decode cX2_asleepBehind 9 = .ok (.iload 4, 2) := by decide +kernel
theorem dX2_asleepBehind_11 : decode cX2_asleepBehind 11 = .ok (.bipush 8, 2) := by decide +kernel
theorem dX2_asleepBehind_42 : decode cX2_asleepBehind 42 = .ok (.iload_n 3, 1) := by decide +kernel
theorem dX2_asleepBehind_43 : decode cX2_asleepBehind 43 = .ok (.ireturn, 1) := by decide +kernel
theorem dX2_asleepBehind_13 : decode cX2_asleepBehind 13 = .ok (.if_icmp .ge 29, 3) := by decide +kernel
theorem dX2_asleepBehind_16 : decode cX2_asleepBehind 16 = .ok (.aload_n 0, 1) := by decide +kernel
theorem dX2_asleepBehind_17 : decode cX2_asleepBehind 17 = .ok (.iload_n 3, 1) := by decide +kernel
theorem dX2_asleepBehind_18 : decode cX2_asleepBehind 18 = .ok (.iload_n 2, 1) := by decide +kernel
theorem dX2_asleepBehind_19 : decode cX2_asleepBehind 19 = .ok (.invokevirtual 114, 3) := by decide +kernel
theorem dX2_asleepBehind_22 : decode cX2_asleepBehind 22 = .ok (.istore 5, 2) := by decide +kernel
theorem dX2_asleepBehind_24 : decode cX2_asleepBehind 24 = .ok (.iload 5, 2) := by decide +kernel
theorem dX2_asleepBehind_26 : decode cX2_asleepBehind 26 = .ok (.iload_n 3, 1) := by decide +kernel
theorem dX2_asleepBehind_27 : decode cX2_asleepBehind 27 = .ok (.if_icmp .ne 6, 3) := by decide +kernel
theorem dX2_asleepBehind_33 : decode cX2_asleepBehind 33 = .ok (.iload 5, 2) := by decide +kernel
theorem dX2_asleepBehind_35 : decode cX2_asleepBehind 35 = .ok (.istore_n 3, 1) := by decide +kernel
theorem dX2_asleepBehind_36 : decode cX2_asleepBehind 36 = .ok (.iinc 4 1, 3) := by decide +kernel
theorem dX2_asleepBehind_39 : decode cX2_asleepBehind 39 = .ok (.goto (-30), 3) := by decide +kernel
theorem dX2_asleepBehind_30 : decode cX2_asleepBehind 30 = .ok (.goto 12, 3) := by decide +kernel
set_option maxHeartbeats 4000000 in
set_option maxRecDepth 100000 in
theorem k_X2_asleepBehind (l : Launch) (D : va_G) (cy : Nat → ClassId) (ld : Nat → Nat) (t : tk_T) (a0 : Nat) (p1 : Int32) (p2 : Int32) (ht_a0 : t a0 = (3, 0, 0)) : Met l yX2_asleepBehind (wl yX2_asleepBehind cX2_asleepBehind 6 (some .int)) ({ frames := 4, cells := 0, slots := 0, locals := 210 }) (tp D cy ld t [] [.ref a0, .int p1, .int p2] (fun H => True)) (ti D cy ld t [] (fun r H => True) (tk_w t [])) 0 0 (tk_w t []) := by
  refine tk_met (y := yX2_asleepBehind) (cc := cX2_asleepBehind) (maxL := 6) (ret := (some .int)) (av := [.ref a0, .int p1, .int p2]) _ _ (by decide) (Nat.le_of_ble_eq_true rfl) ?_
  intro p e s m args below meth c hx hb hr hml hts htl hown hlocks hK H locs hH hG hS hB hZ ls hl
  have hown : s.vm.findClass RX2 = some m.cls := hown
  have hl : lv_has ls 6 [(0, .ref a0), (1, .int p1), (2, .int p2)] := hl
  have hr_p1 := tk_rng p1
  have hr_p2 := tk_rng p2
  refine lv_aload_n hx hb dX2_asleepBehind_0 rfl (lv_at hl 0 rfl) ?_
  refine lv_iload_n hx hb dX2_asleepBehind_1 rfl (lv_at hl 1 rfl) ?_
  refine tk_Vi (As := [.int p1]) (rest := []) (ci := 2) ⟨hx, hb, hml, hown, hts⟩ hK hG hZ hS (k_X2_asleepWith l D cy ld t a0 p1 ht_a0) trivial ⟨callB_of 1 hts (wl_in mw_1582) rfl rfl rfl (htl _ mw_14) (htl _ mw_1579) hd_yX2_asleepWith ⟨(Nat.le_of_ble_eq_true rfl), (Nat.le_of_ble_eq_true rfl)⟩, htl _ mw_1580, htl _ mw_1581⟩ ht_a0 (by decide) tk_no rfl (tk_w.pick [] rfl) rfl hl.1 rfl (Nat.le_of_ble_eq_true rfl) dX2_asleepBehind_2 ⟨(Nat.le_of_ble_eq_true rfl), (Nat.le_of_ble_eq_true rfl)⟩ (fun v1 H locs hpo hG hS hq9 => ?_)
  refine lv_istore_n (lv' := [(3, .int v1), (0, .ref a0), (1, .int p1), (2, .int p2)]) hx hb dX2_asleepBehind_5 rfl hl (by decide) rfl (fun ls hl => ?_)
  refine lv_iconst (v := 0) hx hb dX2_asleepBehind_6 (by decide) ?_
  refine lv_istore (lv' := [(4, .int 0), (3, .int v1), (0, .ref a0), (1, .int p1), (2, .int p2)]) hx hb dX2_asleepBehind_7 hl (by decide) rfl (fun ls hl => ?_)
  have hl83 : ∀ (N : Nat) (v3 : Int32) (v4 : Int32) (H : Heap) (locs : List Loc), v3.toInt ≤ 8 → 0 ≤ v3.toInt → (-1) * v3.toInt + 8 < (N : Int) → tk_G D cy ld t [] H → va_S (tk_w t []) s.heap H locs → ∀ ls : Array Slot, lv_has ls 6 [(4, .int v3), (3, .int v4), (0, .ref a0), (2, .int p2)] → W p l e ({ frames := 4, cells := 0, slots := 0, locals := 210 }) s m args below meth c H locs 0 0 (MQ below (ti D cy ld t [] (fun r H => True) (tk_w t [])) args s 0 0 (tk_w t [])) (F0 m 9 ls []) := by
    intro N
    induction N with
    | zero => intro v3 v4 H locs hq0_l83 hq1_l83 hm_l83 hG hS ls hl; exfalso; omega
    | succ N ih =>
      intro v3 v4 H locs hq0_l83 hq1_l83 hm_l83 hG hS ls hl
      refine lv_iload hx hb dX2_asleepBehind_9 (lv_at hl 0 rfl) ?_
      refine lv_bipush (v := 8) hx hb dX2_asleepBehind_11 (by decide) ?_
      have hj91 : ∀ (H : Heap) (locs : List Loc), tk_G D cy ld t [] H → va_S (tk_w t []) s.heap H locs → ∀ ls : Array Slot, lv_has ls 6 [(3, .int v4)] → W p l e ({ frames := 4, cells := 0, slots := 0, locals := 210 }) s m args below meth c H locs 0 0 (MQ below (ti D cy ld t [] (fun r H => True) (tk_w t [])) args s 0 0 (tk_w t [])) (F0 m 42 ls []) := by
        intro H locs hG hS ls hl
        refine lv_iload_n hx hb dX2_asleepBehind_42 rfl (lv_at hl 0 rfl) ?_
        exact tk_iret (v := v4) hx hb hr rfl hlocks trivial hG hS dX2_asleepBehind_43
      refine lv_icmp_ge (tgt := 42) hx hb dX2_asleepBehind_13 (by decide) (fun c9 => ?_) (fun c9 => ?_)
      · have hc84 : 8 ≤ v3.toInt := (fi_le (by decide) rfl).mp c9
        exact hj91 _ _ hG hS _ (lv_sub hl [1] rfl)
      · have hc84 : ¬ (8 ≤ v3.toInt) := fun h9 => c9 ((fi_le (by decide) rfl).mpr h9)
        refine lv_aload_n hx hb dX2_asleepBehind_16 rfl (lv_at hl 2 rfl) ?_
        refine lv_iload_n hx hb dX2_asleepBehind_17 rfl (lv_at hl 1 rfl) ?_
        refine lv_iload_n hx hb dX2_asleepBehind_18 rfl (lv_at hl 3 rfl) ?_
        refine tk_Vi (As := [.int v4, .int p2]) (rest := []) (ci := 2) ⟨hx, hb, hml, hown, hts⟩ hK hG hZ hS (k_X2_oneRoundMore l D cy ld t a0 v4 p2 ht_a0) trivial ⟨callB_of 2 hts (wl_in mw_1586) rfl rfl rfl (htl _ mw_14) (htl _ mw_1583) hd_yX2_oneRoundMore ⟨(Nat.le_of_ble_eq_true rfl), (Nat.le_of_ble_eq_true rfl)⟩, htl _ mw_1584, htl _ mw_1585⟩ ht_a0 (by decide) tk_no rfl (tk_w.pick [] rfl) rfl hl.1 rfl (Nat.le_of_ble_eq_true rfl) dX2_asleepBehind_19 ⟨(Nat.le_of_ble_eq_true rfl), (Nat.le_of_ble_eq_true rfl)⟩ (fun v92 H locs hpo hG hS hq9 => ?_)
        refine lv_istore (lv' := [(5, .int v92), (4, .int v3), (3, .int v4), (0, .ref a0), (2, .int p2)]) hx hb dX2_asleepBehind_22 hl (by decide) rfl (fun ls hl => ?_)
        refine lv_iload hx hb dX2_asleepBehind_24 (lv_at hl 0 rfl) ?_
        refine lv_iload_n hx hb dX2_asleepBehind_26 rfl (lv_at hl 2 rfl) ?_
        refine lv_icmp_ne (tgt := 33) hx hb dX2_asleepBehind_27 (by decide) (fun c9 => ?_) (fun c9 => ?_)
        · have hc94 : ¬ (v92.toInt = v4.toInt) := fun h9 => c9 ((fi_eq rfl rfl).mpr h9)
          refine lv_iload hx hb dX2_asleepBehind_33 (lv_at hl 0 rfl) ?_
          refine lv_istore_n (lv' := [(3, .int v92), (5, .int v92), (4, .int v3), (0, .ref a0), (2, .int p2)]) hx hb dX2_asleepBehind_35 rfl hl (by decide) rfl (fun ls hl => ?_)
          obtain ⟨v95, h_v95, e_v95⟩ := tk_inc v3 1 (by decide) (by omega) (by omega)
          refine lv_iinc (v := v95) (lv' := [(4, .int v95), (3, .int v92), (5, .int v92), (0, .ref a0), (2, .int p2)]) hx hb dX2_asleepBehind_36 hl (k := 2) rfl e_v95 (by decide) rfl (fun ls hl => ?_)
          refine lv_goto (tgt := 9) hx hb dX2_asleepBehind_39 (by decide) ?_
          exact ih v95 v92 _ _ (by omega) (by omega) (by omega) hG hS _ (lv_sub hl [0, 1, 3, 4] rfl)
        · have hc94 : v92.toInt = v4.toInt := (fi_eq rfl rfl).mp c9
          refine lv_goto (tgt := 42) hx hb dX2_asleepBehind_30 (by decide) ?_
          exact hj91 _ _ hG hS _ (lv_sub hl [2] rfl)
  have hk_0 : (0 : Int32).toInt = 0 := by decide
  exact hl83 9 0 v1 _ _ (by omega) (by omega) (by omega) hG hS _ (lv_sub hl [0, 1, 2, 4] rfl)
theorem dX2_roundsBehind_0 : decode cX2_roundsBehind 0 = .ok (.aload_n 0, 1) := by decide +kernel
theorem dX2_roundsBehind_1 : decode cX2_roundsBehind 1 = .ok (.iload_n 1, 1) := by decide +kernel
theorem dX2_roundsBehind_2 : decode cX2_roundsBehind 2 = .ok (.invokevirtual 110, 3) := by decide +kernel
theorem dX2_roundsBehind_5 : decode cX2_roundsBehind 5 = .ok (.istore_n 2, 1) := by decide +kernel
theorem dX2_roundsBehind_6 : decode cX2_roundsBehind 6 = .ok (.iconst 0, 1) := by decide +kernel
theorem dX2_roundsBehind_7 : decode cX2_roundsBehind 7 = .ok (.istore_n 3, 1) := by decide +kernel
theorem dX2_roundsBehind_8 : decode cX2_roundsBehind 8 = .ok (.iload_n 3, 1) := by decide +kernel
theorem dX2_roundsBehind_9 : decode cX2_roundsBehind 9 = .ok (.bipush 8, 2) := by decide +kernel
theorem dX2_roundsBehind_40 : decode cX2_roundsBehind 40 = .ok (.iload_n 3, 1) := by decide +kernel
theorem dX2_roundsBehind_41 : decode cX2_roundsBehind 41 = .ok (.ireturn, 1) := by decide +kernel
theorem dX2_roundsBehind_11 : decode cX2_roundsBehind 11 = .ok (.if_icmp .ge 29, 3) := by decide +kernel
theorem dX2_roundsBehind_14 : decode cX2_roundsBehind 14 = .ok (.aload_n 0, 1) := by decide +kernel
theorem dX2_roundsBehind_15 : decode cX2_roundsBehind 15 = .ok (.iload_n 2, 1) := by decide +kernel
theorem dX2_roundsBehind_16 : decode cX2_roundsBehind 16 = .ok (.iconst 0, 1) := by decide +kernel
theorem dX2_roundsBehind_17 : decode cX2_roundsBehind 17 = .ok (.invokevirtual 114, 3) := by decide +kernel
theorem dX2_roundsBehind_20 : decode cX2_roundsBehind 20 = .ok (.istore 4, 2) := by decide +kernel
theorem dX2_roundsBehind_22 : decode cX2_roundsBehind 22 = .ok (.iload 4, 2) := by decide +kernel
theorem dX2_roundsBehind_24 : decode cX2_roundsBehind 24 = .ok (.iload_n 2, 1) := by decide +kernel
theorem dX2_roundsBehind_25 : decode cX2_roundsBehind 25 = .ok (.if_icmp .ne 6, 3) := by decide +kernel
theorem dX2_roundsBehind_31 : decode cX2_roundsBehind 31 = .ok (.iload 4, 2) := by decide +kernel
theorem dX2_roundsBehind_33 : decode cX2_roundsBehind 33 = .ok (.istore_n 2, 1) := by decide +kernel
theorem dX2_roundsBehind_34 : decode cX2_roundsBehind 34 = .ok (.iinc 3 1, 3) := by decide +kernel
theorem dX2_roundsBehind_37 : decode cX2_roundsBehind 37 = .ok (.goto (-29), 3) := by decide +kernel
theorem dX2_roundsBehind_28 : decode cX2_roundsBehind 28 = .ok (.goto 12, 3) := by decide +kernel
set_option maxHeartbeats 4000000 in
set_option maxRecDepth 100000 in
theorem k_X2_roundsBehind (l : Launch) (D : va_G) (cy : Nat → ClassId) (ld : Nat → Nat) (t : tk_T) (a0 : Nat) (p1 : Int32) (ht_a0 : t a0 = (3, 0, 0)) : Met l yX2_roundsBehind (wl yX2_roundsBehind cX2_roundsBehind 5 (some .int)) ({ frames := 4, cells := 0, slots := 0, locals := 210 }) (tp D cy ld t [] [.ref a0, .int p1] (fun H => True)) (ti D cy ld t [] (fun r H => 0 ≤ r.toInt ∧ r.toInt ≤ 8) (tk_w t [])) 0 0 (tk_w t []) := by
  refine tk_met (y := yX2_roundsBehind) (cc := cX2_roundsBehind) (maxL := 5) (ret := (some .int)) (av := [.ref a0, .int p1]) _ _ (by decide) (Nat.le_of_ble_eq_true rfl) ?_
  intro p e s m args below meth c hx hb hr hml hts htl hown hlocks hK H locs hH hG hS hB hZ ls hl
  have hown : s.vm.findClass RX2 = some m.cls := hown
  have hl : lv_has ls 5 [(0, .ref a0), (1, .int p1)] := hl
  have hr_p1 := tk_rng p1
  refine lv_aload_n hx hb dX2_roundsBehind_0 rfl (lv_at hl 0 rfl) ?_
  refine lv_iload_n hx hb dX2_roundsBehind_1 rfl (lv_at hl 1 rfl) ?_
  refine tk_Vi (As := [.int p1]) (rest := []) (ci := 2) ⟨hx, hb, hml, hown, hts⟩ hK hG hZ hS (k_X2_asleepWith l D cy ld t a0 p1 ht_a0) trivial ⟨callB_of 1 hts (wl_in mw_1582) rfl rfl rfl (htl _ mw_14) (htl _ mw_1579) hd_yX2_asleepWith ⟨(Nat.le_of_ble_eq_true rfl), (Nat.le_of_ble_eq_true rfl)⟩, htl _ mw_1580, htl _ mw_1581⟩ ht_a0 (by decide) tk_no rfl (tk_w.pick [] rfl) rfl hl.1 rfl (Nat.le_of_ble_eq_true rfl) dX2_roundsBehind_2 ⟨(Nat.le_of_ble_eq_true rfl), (Nat.le_of_ble_eq_true rfl)⟩ (fun v1 H locs hpo hG hS hq9 => ?_)
  refine lv_istore_n (lv' := [(2, .int v1), (0, .ref a0), (1, .int p1)]) hx hb dX2_roundsBehind_5 rfl hl (by decide) rfl (fun ls hl => ?_)
  refine lv_iconst (v := 0) hx hb dX2_roundsBehind_6 (by decide) ?_
  refine lv_istore_n (lv' := [(3, .int 0), (2, .int v1), (0, .ref a0), (1, .int p1)]) hx hb dX2_roundsBehind_7 rfl hl (by decide) rfl (fun ls hl => ?_)
  have hl83 : ∀ (N : Nat) (v3 : Int32) (v4 : Int32) (H : Heap) (locs : List Loc), v3.toInt ≤ 8 → 0 ≤ v3.toInt → (-1) * v3.toInt + 8 < (N : Int) → tk_G D cy ld t [] H → va_S (tk_w t []) s.heap H locs → ∀ ls : Array Slot, lv_has ls 5 [(3, .int v3), (2, .int v4), (0, .ref a0)] → W p l e ({ frames := 4, cells := 0, slots := 0, locals := 210 }) s m args below meth c H locs 0 0 (MQ below (ti D cy ld t [] (fun r H => 0 ≤ r.toInt ∧ r.toInt ≤ 8) (tk_w t [])) args s 0 0 (tk_w t [])) (F0 m 8 ls []) := by
    intro N
    induction N with
    | zero => intro v3 v4 H locs hq0_l83 hq1_l83 hm_l83 hG hS ls hl; exfalso; omega
    | succ N ih =>
      intro v3 v4 H locs hq0_l83 hq1_l83 hm_l83 hG hS ls hl
      refine lv_iload_n hx hb dX2_roundsBehind_8 rfl (lv_at hl 0 rfl) ?_
      refine lv_bipush (v := 8) hx hb dX2_roundsBehind_9 (by decide) ?_
      have hj91 : ∀ (H : Heap) (locs : List Loc), tk_G D cy ld t [] H → va_S (tk_w t []) s.heap H locs → ∀ ls : Array Slot, lv_has ls 5 [(3, .int v3)] → W p l e ({ frames := 4, cells := 0, slots := 0, locals := 210 }) s m args below meth c H locs 0 0 (MQ below (ti D cy ld t [] (fun r H => 0 ≤ r.toInt ∧ r.toInt ≤ 8) (tk_w t [])) args s 0 0 (tk_w t [])) (F0 m 40 ls []) := by
        intro H locs hG hS ls hl
        refine lv_iload_n hx hb dX2_roundsBehind_40 rfl (lv_at hl 0 rfl) ?_
        exact tk_iret (v := v3) hx hb hr rfl hlocks (show 0 ≤ v3.toInt ∧ v3.toInt ≤ 8 from ⟨(by omega), (by omega)⟩) hG hS dX2_roundsBehind_41
      refine lv_icmp_ge (tgt := 40) hx hb dX2_roundsBehind_11 (by decide) (fun c9 => ?_) (fun c9 => ?_)
      · have hc84 : 8 ≤ v3.toInt := (fi_le (by decide) rfl).mp c9
        exact hj91 _ _ hG hS _ (lv_sub hl [0] rfl)
      · have hc84 : ¬ (8 ≤ v3.toInt) := fun h9 => c9 ((fi_le (by decide) rfl).mpr h9)
        refine lv_aload_n hx hb dX2_roundsBehind_14 rfl (lv_at hl 2 rfl) ?_
        refine lv_iload_n hx hb dX2_roundsBehind_15 rfl (lv_at hl 1 rfl) ?_
        refine lv_iconst (v := 0) hx hb dX2_roundsBehind_16 (by decide) ?_
        have hk_0 : (0 : Int32).toInt = 0 := by decide
        refine tk_Vi (As := [.int v4, .int 0]) (rest := []) (ci := 2) ⟨hx, hb, hml, hown, hts⟩ hK hG hZ hS (k_X2_oneRoundMore l D cy ld t a0 v4 0 ht_a0) trivial ⟨callB_of 2 hts (wl_in mw_1586) rfl rfl rfl (htl _ mw_14) (htl _ mw_1583) hd_yX2_oneRoundMore ⟨(Nat.le_of_ble_eq_true rfl), (Nat.le_of_ble_eq_true rfl)⟩, htl _ mw_1584, htl _ mw_1585⟩ ht_a0 (by decide) tk_no rfl (tk_w.pick [] rfl) rfl hl.1 rfl (Nat.le_of_ble_eq_true rfl) dX2_roundsBehind_17 ⟨(Nat.le_of_ble_eq_true rfl), (Nat.le_of_ble_eq_true rfl)⟩ (fun v92 H locs hpo hG hS hq9 => ?_)
        refine lv_istore (lv' := [(4, .int v92), (3, .int v3), (2, .int v4), (0, .ref a0)]) hx hb dX2_roundsBehind_20 hl (by decide) rfl (fun ls hl => ?_)
        refine lv_iload hx hb dX2_roundsBehind_22 (lv_at hl 0 rfl) ?_
        refine lv_iload_n hx hb dX2_roundsBehind_24 rfl (lv_at hl 2 rfl) ?_
        refine lv_icmp_ne (tgt := 31) hx hb dX2_roundsBehind_25 (by decide) (fun c9 => ?_) (fun c9 => ?_)
        · have hc94 : ¬ (v92.toInt = v4.toInt) := fun h9 => c9 ((fi_eq rfl rfl).mpr h9)
          refine lv_iload hx hb dX2_roundsBehind_31 (lv_at hl 0 rfl) ?_
          refine lv_istore_n (lv' := [(2, .int v92), (4, .int v92), (3, .int v3), (0, .ref a0)]) hx hb dX2_roundsBehind_33 rfl hl (by decide) rfl (fun ls hl => ?_)
          obtain ⟨v95, h_v95, e_v95⟩ := tk_inc v3 1 (by decide) (by omega) (by omega)
          refine lv_iinc (v := v95) (lv' := [(3, .int v95), (2, .int v92), (4, .int v92), (0, .ref a0)]) hx hb dX2_roundsBehind_34 hl (k := 2) rfl e_v95 (by decide) rfl (fun ls hl => ?_)
          refine lv_goto (tgt := 8) hx hb dX2_roundsBehind_37 (by decide) ?_
          exact ih v95 v92 _ _ (by omega) (by omega) (by omega) hG hS _ (lv_sub hl [0, 1, 3] rfl)
        · have hc94 : v92.toInt = v4.toInt := (fi_eq rfl rfl).mp c9
          refine lv_goto (tgt := 40) hx hb dX2_roundsBehind_28 (by decide) ?_
          exact hj91 _ _ hG hS _ (lv_sub hl [1] rfl)
  have hk_0 : (0 : Int32).toInt = 0 := by decide
  exact hl83 9 0 v1 _ _ (by omega) (by omega) (by omega) hG hS _ (lv_sub hl [0, 1, 2] rfl)
theorem dJ6_bitCount_0f7a4_0 : decode cJ6_bitCount_0f7a4 0 = .ok (.iload_n 0, 1) := by decide +kernel
theorem dJ6_bitCount_0f7a4_1 : decode cJ6_bitCount_0f7a4 1 = .ok (.iload_n 0, 1) := by decide +kernel
theorem dJ6_bitCount_0f7a4_2 : decode cJ6_bitCount_0f7a4 2 = .ok (.iconst 1, 1) := by decide +kernel
theorem dJ6_bitCount_0f7a4_3 : decode cJ6_bitCount_0f7a4 3 = .ok (.iushr, 1) := by decide +kernel
theorem dJ6_bitCount_0f7a4_4 : decode cJ6_bitCount_0f7a4 4 = .ok (.ldc_w 265, 3) := by decide +kernel
theorem dJ6_bitCount_0f7a4_7 : decode cJ6_bitCount_0f7a4 7 = .ok (.iand, 1) := by decide +kernel
theorem dJ6_bitCount_0f7a4_8 : decode cJ6_bitCount_0f7a4 8 = .ok (.isub, 1) := by decide +kernel
theorem dJ6_bitCount_0f7a4_9 : decode cJ6_bitCount_0f7a4 9 = .ok (.istore_n 0, 1) := by decide +kernel
theorem dJ6_bitCount_0f7a4_10 : decode cJ6_bitCount_0f7a4 10 = .ok (.iload_n 0, 1) := by decide +kernel
theorem dJ6_bitCount_0f7a4_11 : decode cJ6_bitCount_0f7a4 11 = .ok (.ldc_w 266, 3) := by decide +kernel
theorem dJ6_bitCount_0f7a4_14 : decode cJ6_bitCount_0f7a4 14 = .ok (.iand, 1) := by decide +kernel
theorem dJ6_bitCount_0f7a4_15 : decode cJ6_bitCount_0f7a4 15 = .ok (.iload_n 0, 1) := by decide +kernel
theorem dJ6_bitCount_0f7a4_16 : decode cJ6_bitCount_0f7a4 16 = .ok (.iconst 2, 1) := by decide +kernel
theorem dJ6_bitCount_0f7a4_17 : decode cJ6_bitCount_0f7a4 17 = .ok (.iushr, 1) := by decide +kernel
theorem dJ6_bitCount_0f7a4_18 : decode cJ6_bitCount_0f7a4 18 = .ok (.ldc_w 266, 3) := by decide +kernel
theorem dJ6_bitCount_0f7a4_21 : decode cJ6_bitCount_0f7a4 21 = .ok (.iand, 1) := by decide +kernel
theorem dJ6_bitCount_0f7a4_22 : decode cJ6_bitCount_0f7a4 22 = .ok (.iadd, 1) := by decide +kernel
theorem dJ6_bitCount_0f7a4_23 : decode cJ6_bitCount_0f7a4 23 = .ok (.istore_n 0, 1) := by decide +kernel
theorem dJ6_bitCount_0f7a4_24 : decode cJ6_bitCount_0f7a4 24 = .ok (.iload_n 0, 1) := by decide +kernel
theorem dJ6_bitCount_0f7a4_25 : decode cJ6_bitCount_0f7a4 25 = .ok (.iload_n 0, 1) := by decide +kernel
theorem dJ6_bitCount_0f7a4_26 : decode cJ6_bitCount_0f7a4 26 = .ok (.iconst 4, 1) := by decide +kernel
theorem dJ6_bitCount_0f7a4_27 : decode cJ6_bitCount_0f7a4 27 = .ok (.iushr, 1) := by decide +kernel
theorem dJ6_bitCount_0f7a4_28 : decode cJ6_bitCount_0f7a4 28 = .ok (.iadd, 1) := by decide +kernel
theorem dJ6_bitCount_0f7a4_29 : decode cJ6_bitCount_0f7a4 29 = .ok (.ldc_w 267, 3) := by decide +kernel
theorem dJ6_bitCount_0f7a4_32 : decode cJ6_bitCount_0f7a4 32 = .ok (.iand, 1) := by decide +kernel
theorem dJ6_bitCount_0f7a4_33 : decode cJ6_bitCount_0f7a4 33 = .ok (.istore_n 0, 1) := by decide +kernel
theorem dJ6_bitCount_0f7a4_34 : decode cJ6_bitCount_0f7a4 34 = .ok (.iload_n 0, 1) := by decide +kernel
theorem dJ6_bitCount_0f7a4_35 : decode cJ6_bitCount_0f7a4 35 = .ok (.iload_n 0, 1) := by decide +kernel
theorem dJ6_bitCount_0f7a4_36 : decode cJ6_bitCount_0f7a4 36 = .ok (.bipush 8, 2) := by decide +kernel
theorem dJ6_bitCount_0f7a4_38 : decode cJ6_bitCount_0f7a4 38 = .ok (.iushr, 1) := by decide +kernel
theorem dJ6_bitCount_0f7a4_39 : decode cJ6_bitCount_0f7a4 39 = .ok (.iadd, 1) := by decide +kernel
theorem dJ6_bitCount_0f7a4_40 : decode cJ6_bitCount_0f7a4 40 = .ok (.istore_n 0, 1) := by decide +kernel
theorem dJ6_bitCount_0f7a4_41 : decode cJ6_bitCount_0f7a4 41 = .ok (.iload_n 0, 1) := by decide +kernel
theorem dJ6_bitCount_0f7a4_42 : decode cJ6_bitCount_0f7a4 42 = .ok (.iload_n 0, 1) := by decide +kernel
theorem dJ6_bitCount_0f7a4_43 : decode cJ6_bitCount_0f7a4 43 = .ok (.bipush 16, 2) := by decide +kernel
theorem dJ6_bitCount_0f7a4_45 : decode cJ6_bitCount_0f7a4 45 = .ok (.iushr, 1) := by decide +kernel
theorem dJ6_bitCount_0f7a4_46 : decode cJ6_bitCount_0f7a4 46 = .ok (.iadd, 1) := by decide +kernel
theorem dJ6_bitCount_0f7a4_47 : decode cJ6_bitCount_0f7a4 47 = .ok (.istore_n 0, 1) := by decide +kernel
theorem dJ6_bitCount_0f7a4_48 : decode cJ6_bitCount_0f7a4 48 = .ok (.iload_n 0, 1) := by decide +kernel
theorem dJ6_bitCount_0f7a4_49 : decode cJ6_bitCount_0f7a4 49 = .ok (.bipush 63, 2) := by decide +kernel
theorem dJ6_bitCount_0f7a4_51 : decode cJ6_bitCount_0f7a4 51 = .ok (.iand, 1) := by decide +kernel
theorem dJ6_bitCount_0f7a4_52 : decode cJ6_bitCount_0f7a4 52 = .ok (.ireturn, 1) := by decide +kernel
set_option maxHeartbeats 4000000 in
set_option maxRecDepth 100000 in
theorem k_J6_bitCount_0f7a4 (l : Launch) (D : va_G) (cy : Nat → ClassId) (ld : Nat → Nat) (t : tk_T) (X : List Nat) (p0 : Int32) : Met l yJ6_bitCount_0f7a4 (wl yJ6_bitCount_0f7a4 cJ6_bitCount_0f7a4 1 (some .int)) ({ frames := 3, cells := 0, slots := 0, locals := 140 }) (tp D cy ld t X [.int p0] (fun H => True)) (ti D cy ld t X (fun r H => 0 ≤ r.toInt ∧ r.toInt ≤ 64) (tk_w t [])) 0 0 (tk_w t []) := by
  refine tk_met (y := yJ6_bitCount_0f7a4) (cc := cJ6_bitCount_0f7a4) (maxL := 1) (ret := (some .int)) (av := [.int p0]) _ _ (by decide) (Nat.le_of_ble_eq_true rfl) ?_
  intro p e s m args below meth c hx hb hr hml hts htl hown hlocks hK H locs hH hG hS hB hZ ls hl
  have hown : s.vm.findClass RJ6 = some m.cls := hown
  have hl : lv_has ls 1 [(0, .int p0)] := hl
  have hr_p0 := tk_rng p0
  refine lv_iload_n hx hb dJ6_bitCount_0f7a4_0 rfl (lv_at hl 0 rfl) ?_
  refine lv_iload_n hx hb dJ6_bitCount_0f7a4_1 rfl (lv_at hl 0 rfl) ?_
  refine lv_iconst (v := 1) hx hb dJ6_bitCount_0f7a4_2 (by decide) ?_
  refine lv_iushr hx hb dJ6_bitCount_0f7a4_3 rfl ?_
  refine tk_any (fun v1 => ?_)
  refine lv_ldcw hx hb hown (htl _ mw_1615) dJ6_bitCount_0f7a4_4 ?_
  refine lv_iand hx hb dJ6_bitCount_0f7a4_7 ?_
  refine tk_any (fun v2 => ?_)
  refine lv_isub hx hb dJ6_bitCount_0f7a4_8 ?_
  obtain ⟨v3, hm_v3⟩ : ∃ z : Int32, p0 - v2 = z := ⟨_, rfl⟩
  refine fx_ti hm_v3 ?_
  refine lv_istore_n (lv' := [(0, .int v3)]) hx hb dJ6_bitCount_0f7a4_9 rfl hl (by decide) rfl (fun ls hl => ?_)
  refine lv_iload_n hx hb dJ6_bitCount_0f7a4_10 rfl (lv_at hl 0 rfl) ?_
  refine lv_ldcw hx hb hown (htl _ mw_1616) dJ6_bitCount_0f7a4_11 ?_
  refine lv_iand hx hb dJ6_bitCount_0f7a4_14 ?_
  refine tk_any (fun v4 => ?_)
  refine lv_iload_n hx hb dJ6_bitCount_0f7a4_15 rfl (lv_at hl 0 rfl) ?_
  refine lv_iconst (v := 2) hx hb dJ6_bitCount_0f7a4_16 (by decide) ?_
  refine lv_iushr hx hb dJ6_bitCount_0f7a4_17 rfl ?_
  refine tk_any (fun v5 => ?_)
  refine lv_ldcw hx hb hown (htl _ mw_1616) dJ6_bitCount_0f7a4_18 ?_
  refine lv_iand hx hb dJ6_bitCount_0f7a4_21 ?_
  refine tk_any (fun v6 => ?_)
  refine lv_iadd hx hb dJ6_bitCount_0f7a4_22 ?_
  obtain ⟨v7, hm_v7⟩ : ∃ z : Int32, v4 + v6 = z := ⟨_, rfl⟩
  refine fx_ti hm_v7 ?_
  refine lv_istore_n (lv' := [(0, .int v7)]) hx hb dJ6_bitCount_0f7a4_23 rfl hl (by decide) rfl (fun ls hl => ?_)
  refine lv_iload_n hx hb dJ6_bitCount_0f7a4_24 rfl (lv_at hl 0 rfl) ?_
  refine lv_iload_n hx hb dJ6_bitCount_0f7a4_25 rfl (lv_at hl 0 rfl) ?_
  refine lv_iconst (v := 4) hx hb dJ6_bitCount_0f7a4_26 (by decide) ?_
  refine lv_iushr hx hb dJ6_bitCount_0f7a4_27 rfl ?_
  refine tk_any (fun v8 => ?_)
  refine lv_iadd hx hb dJ6_bitCount_0f7a4_28 ?_
  obtain ⟨v9, hm_v9⟩ : ∃ z : Int32, v7 + v8 = z := ⟨_, rfl⟩
  refine fx_ti hm_v9 ?_
  refine lv_ldcw hx hb hown (htl _ mw_1617) dJ6_bitCount_0f7a4_29 ?_
  refine lv_iand hx hb dJ6_bitCount_0f7a4_32 ?_
  refine tk_any (fun v10 => ?_)
  refine lv_istore_n (lv' := [(0, .int v10)]) hx hb dJ6_bitCount_0f7a4_33 rfl hl (by decide) rfl (fun ls hl => ?_)
  refine lv_iload_n hx hb dJ6_bitCount_0f7a4_34 rfl (lv_at hl 0 rfl) ?_
  refine lv_iload_n hx hb dJ6_bitCount_0f7a4_35 rfl (lv_at hl 0 rfl) ?_
  refine lv_bipush (v := 8) hx hb dJ6_bitCount_0f7a4_36 (by decide) ?_
  refine lv_iushr hx hb dJ6_bitCount_0f7a4_38 rfl ?_
  refine tk_any (fun v11 => ?_)
  refine lv_iadd hx hb dJ6_bitCount_0f7a4_39 ?_
  obtain ⟨v12, hm_v12⟩ : ∃ z : Int32, v10 + v11 = z := ⟨_, rfl⟩
  refine fx_ti hm_v12 ?_
  refine lv_istore_n (lv' := [(0, .int v12)]) hx hb dJ6_bitCount_0f7a4_40 rfl hl (by decide) rfl (fun ls hl => ?_)
  refine lv_iload_n hx hb dJ6_bitCount_0f7a4_41 rfl (lv_at hl 0 rfl) ?_
  refine lv_iload_n hx hb dJ6_bitCount_0f7a4_42 rfl (lv_at hl 0 rfl) ?_
  refine lv_bipush (v := 16) hx hb dJ6_bitCount_0f7a4_43 (by decide) ?_
  refine lv_iushr hx hb dJ6_bitCount_0f7a4_45 rfl ?_
  refine tk_any (fun v13 => ?_)
  refine lv_iadd hx hb dJ6_bitCount_0f7a4_46 ?_
  obtain ⟨v14, hm_v14⟩ : ∃ z : Int32, v12 + v13 = z := ⟨_, rfl⟩
  refine fx_ti hm_v14 ?_
  refine lv_istore_n (lv' := [(0, .int v14)]) hx hb dJ6_bitCount_0f7a4_47 rfl hl (by decide) rfl (fun ls hl => ?_)
  refine lv_iload_n hx hb dJ6_bitCount_0f7a4_48 rfl (lv_at hl 0 rfl) ?_
  refine lv_bipush (v := 63) hx hb dJ6_bitCount_0f7a4_49 (by decide) ?_
  refine lv_iand hx hb dJ6_bitCount_0f7a4_51 ?_
  refine tk_say (P := fun z => 0 ≤ z.toInt ∧ z.toInt ≤ 63) (tk_and v14 6 (by decide) (by decide)) (fun v15 h_v15 => ?_)
  exact tk_iret (v := v15) hx hb hr rfl hlocks (show 0 ≤ v15.toInt ∧ v15.toInt ≤ 64 from ⟨(by omega), (by omega)⟩) hG hS dJ6_bitCount_0f7a4_52
theorem dX2_ledAway_0 : decode cX2_ledAway 0 = .ok (.iconst 1, 1) := by decide +kernel
theorem dX2_ledAway_1 : decode cX2_ledAway 1 = .ok (.iload_n 1, 1) := by decide +kernel
theorem dX2_ledAway_2 : decode cX2_ledAway 2 = .ok (.ishl, 1) := by decide +kernel
theorem dX2_ledAway_3 : decode cX2_ledAway 3 = .ok (.iconst 1, 1) := by decide +kernel
theorem dX2_ledAway_4 : decode cX2_ledAway 4 = .ok (.iload_n 2, 1) := by decide +kernel
theorem dX2_ledAway_5 : decode cX2_ledAway 5 = .ok (.ishl, 1) := by decide +kernel
theorem dX2_ledAway_6 : decode cX2_ledAway 6 = .ok (.ior, 1) := by decide +kernel
theorem dX2_ledAway_7 : decode cX2_ledAway 7 = .ok (.istore_n 3, 1) := by decide +kernel
theorem dX2_ledAway_8 : decode cX2_ledAway 8 = .ok (.iconst (-1), 1) := by decide +kernel
theorem dX2_ledAway_9 : decode cX2_ledAway 9 = .ok (.istore 4, 2) := by decide +kernel
theorem dX2_ledAway_11 : decode cX2_ledAway 11 = .ok (.iconst 0, 1) := by decide +kernel
theorem dX2_ledAway_12 : decode cX2_ledAway 12 = .ok (.istore 5, 2) := by decide +kernel
theorem dX2_ledAway_14 : decode cX2_ledAway 14 = .ok (.iload 5, 2) := by decide +kernel
theorem dX2_ledAway_16 : decode cX2_ledAway 16 = .ok (.iconst 1, 1) := by decide +kernel
theorem dX2_ledAway_17 : decode cX2_ledAway 17 = .ok (.aload_n 0, 1) := by decide +kernel
theorem dX2_ledAway_18 : decode cX2_ledAway 18 = .ok (.getfield 62, 3) := by decide +kernel
theorem dX2_ledAway_21 : decode cX2_ledAway 21 = .ok (.ishl, 1) := by decide +kernel
theorem dX2_ledAway_22 : decode cX2_ledAway 22 = .ok (.if_icmp .ge 65, 3) := by decide +kernel
theorem dX2_ledAway_87 : decode cX2_ledAway 87 = .ok (.iload 4, 2) := by decide +kernel
theorem dX2_ledAway_89 : decode cX2_ledAway 89 = .ok (.ireturn, 1) := by decide +kernel
theorem dX2_ledAway_25 : decode cX2_ledAway 25 = .ok (.iload 4, 2) := by decide +kernel
theorem dX2_ledAway_27 : decode cX2_ledAway 27 = .ok (.iconst (-1), 1) := by decide +kernel
theorem dX2_ledAway_49 : decode cX2_ledAway 49 = .ok (.istore 6, 2) := by decide +kernel
theorem dX2_ledAway_51 : decode cX2_ledAway 51 = .ok (.iload 5, 2) := by decide +kernel
theorem dX2_ledAway_53 : decode cX2_ledAway 53 = .ok (.iload_n 3, 1) := by decide +kernel
theorem dX2_ledAway_54 : decode cX2_ledAway 54 = .ok (.iand, 1) := by decide +kernel
theorem dX2_ledAway_81 : decode cX2_ledAway 81 = .ok (.iinc 5 1, 3) := by decide +kernel
theorem dX2_ledAway_84 : decode cX2_ledAway 84 = .ok (.goto (-70), 3) := by decide +kernel
theorem dX2_ledAway_55 : decode cX2_ledAway 55 = .ok (.ifCond .ne 26, 3) := by decide +kernel
theorem dX2_ledAway_58 : decode cX2_ledAway 58 = .ok (.iload 6, 2) := by decide +kernel
theorem dX2_ledAway_60 : decode cX2_ledAway 60 = .ok (.ifCond .eq 21, 3) := by decide +kernel
theorem dX2_ledAway_63 : decode cX2_ledAway 63 = .ok (.aload_n 0, 1) := by decide +kernel
theorem dX2_ledAway_64 : decode cX2_ledAway 64 = .ok (.iload_n 2, 1) := by decide +kernel
theorem dX2_ledAway_65 : decode cX2_ledAway 65 = .ok (.iload 5, 2) := by decide +kernel
theorem dX2_ledAway_67 : decode cX2_ledAway 67 = .ok (.invokevirtual 123, 3) := by decide +kernel
theorem dX2_ledAway_70 : decode cX2_ledAway 70 = .ok (.iload_n 1, 1) := by decide +kernel
theorem dX2_ledAway_71 : decode cX2_ledAway 71 = .ok (.ishr, 1) := by decide +kernel
theorem dX2_ledAway_72 : decode cX2_ledAway 72 = .ok (.iconst 1, 1) := by decide +kernel
theorem dX2_ledAway_73 : decode cX2_ledAway 73 = .ok (.iand, 1) := by decide +kernel
theorem dX2_ledAway_74 : decode cX2_ledAway 74 = .ok (.ifCond .ne 7, 3) := by decide +kernel
theorem dX2_ledAway_77 : decode cX2_ledAway 77 = .ok (.iload 5, 2) := by decide +kernel
theorem dX2_ledAway_79 : decode cX2_ledAway 79 = .ok (.istore 4, 2) := by decide +kernel
theorem dX2_ledAway_28 : decode cX2_ledAway 28 = .ok (.if_icmp .eq 16, 3) := by decide +kernel
theorem dX2_ledAway_44 : decode cX2_ledAway 44 = .ok (.iconst 1, 1) := by decide +kernel
theorem dX2_ledAway_45 : decode cX2_ledAway 45 = .ok (.goto 4, 3) := by decide +kernel
theorem dX2_ledAway_31 : decode cX2_ledAway 31 = .ok (.iload 5, 2) := by decide +kernel
theorem dX2_ledAway_33 : decode cX2_ledAway 33 = .ok (.invokestatic 118, 3) := by decide +kernel
theorem dX2_ledAway_36 : decode cX2_ledAway 36 = .ok (.iload 4, 2) := by decide +kernel
theorem dX2_ledAway_38 : decode cX2_ledAway 38 = .ok (.invokestatic 118, 3) := by decide +kernel
theorem dX2_ledAway_41 : decode cX2_ledAway 41 = .ok (.if_icmp .ge 7, 3) := by decide +kernel
theorem dX2_ledAway_48 : decode cX2_ledAway 48 = .ok (.iconst 0, 1) := by decide +kernel
set_option maxHeartbeats 4000000 in
set_option maxRecDepth 100000 in
theorem k_X2_ledAway (l : Launch) (D : va_G) (cy : Nat → ClassId) (ld : Nat → Nat) (t : tk_T) (a0 : Nat) (p1 : Int32) (p2 : Int32) (ht_a0 : t a0 = (3, 0, 0)) : Met l yX2_ledAway (wl yX2_ledAway cX2_ledAway 7 (some .int)) ({ frames := 5, cells := 0, slots := 0, locals := 280 }) (tp D cy ld t [] [.ref a0, .int p1, .int p2] (fun H => True)) (ti D cy ld t [] (fun r H => (-1) ≤ r.toInt ∧ r.toInt ≤ 1099) (tk_w t [])) 0 0 (tk_w t []) := by
  refine tk_met (y := yX2_ledAway) (cc := cX2_ledAway) (maxL := 7) (ret := (some .int)) (av := [.ref a0, .int p1, .int p2]) _ _ (by decide) (Nat.le_of_ble_eq_true rfl) ?_
  intro p e s m args below meth c hx hb hr hml hts htl hown hlocks hK H locs hH hG hS hB hZ ls hl
  have hown : s.vm.findClass RX2 = some m.cls := hown
  have hl : lv_has ls 7 [(0, .ref a0), (1, .int p1), (2, .int p2)] := hl
  have hr_p1 := tk_rng p1
  have hr_p2 := tk_rng p2
  refine lv_iconst (v := 1) hx hb dX2_ledAway_0 (by decide) ?_
  refine lv_iload_n hx hb dX2_ledAway_1 rfl (lv_at hl 1 rfl) ?_
  refine lv_ishl hx hb dX2_ledAway_2 ?_
  refine tk_any (fun v1 => ?_)
  refine lv_iconst (v := 1) hx hb dX2_ledAway_3 (by decide) ?_
  refine lv_iload_n hx hb dX2_ledAway_4 rfl (lv_at hl 2 rfl) ?_
  refine lv_ishl hx hb dX2_ledAway_5 ?_
  refine tk_any (fun v2 => ?_)
  refine lv_ior hx hb dX2_ledAway_6 ?_
  refine tk_any (fun v3 => ?_)
  refine lv_istore_n (lv' := [(3, .int v3), (0, .ref a0), (1, .int p1), (2, .int p2)]) hx hb dX2_ledAway_7 rfl hl (by decide) rfl (fun ls hl => ?_)
  refine lv_iconst (v := (-1)) hx hb dX2_ledAway_8 (by decide) ?_
  refine lv_istore (lv' := [(4, .int (-1)), (3, .int v3), (0, .ref a0), (1, .int p1), (2, .int p2)]) hx hb dX2_ledAway_9 hl (by decide) rfl (fun ls hl => ?_)
  refine lv_iconst (v := 0) hx hb dX2_ledAway_11 (by decide) ?_
  refine lv_istore (lv' := [(5, .int 0), (4, .int (-1)), (3, .int v3), (0, .ref a0), (1, .int p1), (2, .int p2)]) hx hb dX2_ledAway_12 hl (by decide) rfl (fun ls hl => ?_)
  have hl948 : ∀ (N : Nat) (v4 : Int32) (v5 : Int32) (H : Heap) (locs : List Loc), v4.toInt ≤ 1099 → (-1) ≤ v5.toInt → 0 ≤ v4.toInt + (-1) * v5.toInt + (-1) → (-1) * v4.toInt + 1099 < (N : Int) → tk_G D cy ld t [] H → va_S (tk_w t []) s.heap H locs → ∀ ls : Array Slot, lv_has ls 7 [(5, .int v4), (4, .int v5), (3, .int v3), (0, .ref a0), (1, .int p1), (2, .int p2)] → W p l e ({ frames := 5, cells := 0, slots := 0, locals := 280 }) s m args below meth c H locs 0 0 (MQ below (ti D cy ld t [] (fun r H => (-1) ≤ r.toInt ∧ r.toInt ≤ 1099) (tk_w t [])) args s 0 0 (tk_w t [])) (F0 m 14 ls []) := by
    intro N
    induction N with
    | zero => intro v4 v5 H locs hq0_l948 hq1_l948 hq2_l948 hm_l948 hG hS ls hl; exfalso; omega
    | succ N ih =>
      intro v4 v5 H locs hq0_l948 hq1_l948 hq2_l948 hm_l948 hG hS ls hl
      refine lv_iload hx hb dX2_ledAway_14 (lv_at hl 0 rfl) ?_
      refine lv_iconst (v := 1) hx hb dX2_ledAway_16 (by decide) ?_
      refine lv_aload_n hx hb dX2_ledAway_17 rfl (lv_at hl 3 rfl) ?_
      refine tk_get (ci := 2) (C := RX2) (T := TX2) (N := 20) (sp := (0, 0, 8, 0)) hx hb htl inX2 hown hK hG ht_a0 (by decide) tk_no rfl 0 (by decide) (htl _ mw_257) (fun _ h9 => h9) rfl dX2_ledAway_18 (fun v9 hf949 hV9 => ?_)
      obtain ⟨v950, rfl, ha_v950, hb_v950⟩ := hV9
      refine lv_ishl hx hb dX2_ledAway_21 ?_
      refine tk_say (P := fun z => 1 ≤ z.toInt ∧ z.toInt ≤ 1024) (tk_shl1 v950 (by omega) (by omega)) (fun v951 h_v951 => ?_)
      refine lv_icmp_ge (tgt := 87) hx hb dX2_ledAway_22 (by decide) (fun c9 => ?_) (fun c9 => ?_)
      · have hc952 : v951.toInt ≤ v4.toInt := (fi_le rfl rfl).mp c9
        refine lv_iload hx hb dX2_ledAway_87 (lv_at hl 1 rfl) ?_
        exact tk_iret (v := v5) hx hb hr rfl hlocks (show (-1) ≤ v5.toInt ∧ v5.toInt ≤ 1099 from ⟨(by omega), (by omega)⟩) hG hS dX2_ledAway_89
      · have hc952 : ¬ (v951.toInt ≤ v4.toInt) := fun h9 => c9 ((fi_le rfl rfl).mpr h9)
        refine lv_iload hx hb dX2_ledAway_25 (lv_at hl 1 rfl) ?_
        refine lv_iconst (v := (-1)) hx hb dX2_ledAway_27 (by decide) ?_
        have hj1011 : ∀ (v1009 : Int32) (H : Heap) (locs : List Loc), 0 ≤ v1009.toInt → v1009.toInt ≤ 1 → tk_G D cy ld t [] H → va_S (tk_w t []) s.heap H locs → tk_f D H a0 2 0 (.int v950) → ∀ ls : Array Slot, lv_has ls 7 [(5, .int v4), (4, .int v5), (3, .int v3), (0, .ref a0), (1, .int p1), (2, .int p2)] → W p l e ({ frames := 5, cells := 0, slots := 0, locals := 280 }) s m args below meth c H locs 0 0 (MQ below (ti D cy ld t [] (fun r H => (-1) ≤ r.toInt ∧ r.toInt ≤ 1099) (tk_w t [])) args s 0 0 (tk_w t [])) (F0 m 49 ls [.int v1009]) := by
          intro v1009 H locs hq0_j1011 hq1_j1011 hG hS hf949 ls hl
          refine lv_istore (lv' := [(6, .int v1009), (5, .int v4), (4, .int v5), (3, .int v3), (0, .ref a0), (1, .int p1), (2, .int p2)]) hx hb dX2_ledAway_49 hl (by decide) rfl (fun ls hl => ?_)
          refine lv_iload hx hb dX2_ledAway_51 (lv_at hl 1 rfl) ?_
          refine lv_iload_n hx hb dX2_ledAway_53 rfl (lv_at hl 3 rfl) ?_
          refine lv_iand hx hb dX2_ledAway_54 ?_
          refine tk_any (fun v1012 => ?_)
          have hj1024 : ∀ (v1022 : Int32) (H : Heap) (locs : List Loc), 0 ≤ (-1) * v1022.toInt + v4.toInt → 0 ≤ v1022.toInt + (-1) * v5.toInt → tk_G D cy ld t [] H → va_S (tk_w t []) s.heap H locs → tk_f D H a0 2 0 (.int v950) → ∀ ls : Array Slot, lv_has ls 7 [(5, .int v4), (4, .int v1022), (3, .int v3), (0, .ref a0), (1, .int p1), (2, .int p2)] → W p l e ({ frames := 5, cells := 0, slots := 0, locals := 280 }) s m args below meth c H locs 0 0 (MQ below (ti D cy ld t [] (fun r H => (-1) ≤ r.toInt ∧ r.toInt ≤ 1099) (tk_w t [])) args s 0 0 (tk_w t [])) (F0 m 81 ls []) := by
            intro v1022 H locs hq0_j1024 hq1_j1024 hG hS hf949 ls hl
            obtain ⟨v1025, h_v1025, e_v1025⟩ := tk_inc v4 1 (by decide) (by omega) (by omega)
            refine lv_iinc (v := v1025) (lv' := [(5, .int v1025), (4, .int v1022), (3, .int v3), (0, .ref a0), (1, .int p1), (2, .int p2)]) hx hb dX2_ledAway_81 hl (k := 0) rfl e_v1025 (by decide) rfl (fun ls hl => ?_)
            refine lv_goto (tgt := 14) hx hb dX2_ledAway_84 (by decide) ?_
            exact ih v1025 v1022 _ _ (by omega) (by omega) (by omega) (by omega) hG hS _ (lv_sub hl [0, 1, 2, 3, 4, 5] rfl)
          refine lv_if_ne (tgt := 81) hx hb dX2_ledAway_55 (by decide) (fun c9 => ?_) (fun c9 => ?_)
          · have hc1013 : ¬ (v1012.toInt = 0) := fun h9 => c9 ((fi_eq rfl (by decide)).mpr h9)
            exact hj1024 v5 _ _ (by omega) (by omega) hG hS hf949 _ (lv_sub hl [1, 2, 3, 4, 5, 6] rfl)
          · have hc1013 : v1012.toInt = 0 := (fi_eq rfl (by decide)).mp c9
            refine lv_iload hx hb dX2_ledAway_58 (lv_at hl 0 rfl) ?_
            refine lv_if_eq (tgt := 81) hx hb dX2_ledAway_60 (by decide) (fun c9 => ?_) (fun c9 => ?_)
            · have hc1026 : v1009.toInt = 0 := (fi_eq rfl (by decide)).mp c9
              exact hj1024 v5 _ _ (by omega) (by omega) hG hS hf949 _ (lv_sub hl [1, 2, 3, 4, 5, 6] rfl)
            · have hc1026 : ¬ (v1009.toInt = 0) := fun h9 => c9 ((fi_eq rfl (by decide)).mpr h9)
              refine lv_aload_n hx hb dX2_ledAway_63 rfl (lv_at hl 4 rfl) ?_
              refine lv_iload_n hx hb dX2_ledAway_64 rfl (lv_at hl 6 rfl) ?_
              refine lv_iload hx hb dX2_ledAway_65 (lv_at hl 1 rfl) ?_
              refine tk_Vi (As := [.int p2, .int v4]) (rest := []) (ci := 2) ⟨hx, hb, hml, hown, hts⟩ hK hG hZ hS (k_X2_asleepBehind l D cy ld t a0 p2 v4 ht_a0) trivial ⟨callB_of 2 hts (wl_in mw_1578) rfl rfl rfl (htl _ mw_14) (htl _ mw_1618) hd_yX2_asleepBehind ⟨(Nat.le_of_ble_eq_true rfl), (Nat.le_of_ble_eq_true rfl)⟩, htl _ mw_1576, htl _ mw_1577⟩ ht_a0 (by decide) tk_no rfl (tk_w.pick [] rfl) rfl hl.1 rfl (Nat.le_of_ble_eq_true rfl) dX2_ledAway_67 ⟨(Nat.le_of_ble_eq_true rfl), (Nat.le_of_ble_eq_true rfl)⟩ (fun v1027 H locs hpo hG hS hq9 => ?_)
              have hf949 := hf949.call hq9 tk_w.nil
              refine lv_iload_n hx hb dX2_ledAway_70 rfl (lv_at hl 5 rfl) ?_
              refine lv_ishr hx hb dX2_ledAway_71 ?_
              refine tk_any (fun v1029 => ?_)
              refine lv_iconst (v := 1) hx hb dX2_ledAway_72 (by decide) ?_
              refine lv_iand hx hb dX2_ledAway_73 ?_
              refine tk_say (P := fun z => 0 ≤ z.toInt ∧ z.toInt ≤ 1) (tk_and v1029 1 (by decide) (by decide)) (fun v1030 h_v1030 => ?_)
              refine lv_if_ne (tgt := 81) hx hb dX2_ledAway_74 (by decide) (fun c9 => ?_) (fun c9 => ?_)
              · have hc1031 : ¬ (v1030.toInt = 0) := fun h9 => c9 ((fi_eq rfl (by decide)).mpr h9)
                exact hj1024 v5 _ _ (by omega) (by omega) hG hS hf949 _ (lv_sub hl [1, 2, 3, 4, 5, 6] rfl)
              · have hc1031 : v1030.toInt = 0 := (fi_eq rfl (by decide)).mp c9
                refine lv_iload hx hb dX2_ledAway_77 (lv_at hl 1 rfl) ?_
                refine lv_istore (lv' := [(4, .int v4), (6, .int v1009), (5, .int v4), (3, .int v3), (0, .ref a0), (1, .int p1), (2, .int p2)]) hx hb dX2_ledAway_79 hl (by decide) rfl (fun ls hl => ?_)
                exact hj1024 v4 _ _ (by omega) (by omega) hG hS hf949 _ (lv_sub hl [2, 0, 3, 4, 5, 6] rfl)
        refine lv_icmp_eq (tgt := 44) hx hb dX2_ledAway_28 (by decide) (fun c9 => ?_) (fun c9 => ?_)
        · have hc997 : v5.toInt = (-1) := (fi_eq rfl (by decide)).mp c9
          refine lv_iconst (v := 1) hx hb dX2_ledAway_44 (by decide) ?_
          refine lv_goto (tgt := 49) hx hb dX2_ledAway_45 (by decide) ?_
          have hk_1 : (1 : Int32).toInt = 1 := by decide
          exact hj1011 1 _ _ (by omega) (by omega) hG hS hf949 _ (lv_sub hl [0, 1, 2, 3, 4, 5] rfl)
        · have hc997 : ¬ (v5.toInt = (-1)) := fun h9 => c9 ((fi_eq rfl (by decide)).mpr h9)
          refine lv_iload hx hb dX2_ledAway_31 (lv_at hl 0 rfl) ?_
          refine tk_Si (As := [.int v4]) (rest := []) ⟨hx, hb, hml, hown, hts⟩ hK hG hZ hS (k_J6_bitCount_0f7a4 l D cy ld t _ v4) trivial ⟨callB_of 1 hts (wl_in mw_1614) rfl rfl rfl (htl _ mw_1613) (htl _ mw_1611) hd_yJ6_bitCount_0f7a4 ⟨(Nat.le_of_ble_eq_true rfl), (Nat.le_of_ble_eq_true rfl)⟩, htl _ mw_1612⟩ (tk_w.pick [] rfl) rfl hl.1 rfl (Nat.le_of_ble_eq_true rfl) dX2_ledAway_33 ⟨(Nat.le_of_ble_eq_true rfl), (Nat.le_of_ble_eq_true rfl)⟩ (fun v1032 H locs hpo hG hS hq9 => ?_)
          have hf949 := hf949.call hq9 tk_w.nil
          obtain ⟨hpo1034, hpo1035⟩ := hpo
          refine lv_iload hx hb dX2_ledAway_36 (lv_at hl 1 rfl) ?_
          refine tk_Si (As := [.int v5]) (rest := [.int v1032]) ⟨hx, hb, hml, hown, hts⟩ hK hG hZ hS (k_J6_bitCount_0f7a4 l D cy ld t _ v5) trivial ⟨callB_of 1 hts (wl_in mw_1614) rfl rfl rfl (htl _ mw_1613) (htl _ mw_1611) hd_yJ6_bitCount_0f7a4 ⟨(Nat.le_of_ble_eq_true rfl), (Nat.le_of_ble_eq_true rfl)⟩, htl _ mw_1612⟩ (tk_w.pick [] rfl) rfl hl.1 rfl (Nat.le_of_ble_eq_true rfl) dX2_ledAway_38 ⟨(Nat.le_of_ble_eq_true rfl), (Nat.le_of_ble_eq_true rfl)⟩ (fun v1036 H locs hpo hG hS hq9 => ?_)
          have hf949 := hf949.call hq9 tk_w.nil
          obtain ⟨hpo1038, hpo1039⟩ := hpo
          refine lv_icmp_ge (tgt := 48) hx hb dX2_ledAway_41 (by decide) (fun c9 => ?_) (fun c9 => ?_)
          · have hc1040 : v1036.toInt ≤ v1032.toInt := (fi_le rfl rfl).mp c9
            refine lv_iconst (v := 0) hx hb dX2_ledAway_48 (by decide) ?_
            have hk_0 : (0 : Int32).toInt = 0 := by decide
            exact hj1011 0 _ _ (by omega) (by omega) hG hS hf949 _ (lv_sub hl [0, 1, 2, 3, 4, 5] rfl)
          · have hc1040 : ¬ (v1036.toInt ≤ v1032.toInt) := fun h9 => c9 ((fi_le rfl rfl).mpr h9)
            refine lv_iconst (v := 1) hx hb dX2_ledAway_44 (by decide) ?_
            refine lv_goto (tgt := 49) hx hb dX2_ledAway_45 (by decide) ?_
            have hk_1 : (1 : Int32).toInt = 1 := by decide
            exact hj1011 1 _ _ (by omega) (by omega) hG hS hf949 _ (lv_sub hl [0, 1, 2, 3, 4, 5] rfl)
  have hk_0 : (0 : Int32).toInt = 0 := by decide
  have hk_m1 : ((-1) : Int32).toInt = (-1) := by decide
  exact hl948 1100 0 (-1) _ _ (by omega) (by omega) (by omega) (by omega) hG hS _ (lv_sub hl [0, 1, 2, 3, 4, 5] rfl)
