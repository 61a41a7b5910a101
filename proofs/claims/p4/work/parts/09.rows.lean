set_option maxHeartbeats 4000000 in
set_option maxRecDepth 100000 in
theorem k_X3_joinMore_0 (l : Launch) (D : va_G) (cy : Nat → ClassId) (ld : Nat → Nat) (t : tk_T) (a0 : Nat) (p2 : Int32) (p3 : Int32) (p4 : Int32) (ht_a0 : t a0 = (4, 0, 0)) : Met l yX3_joinMore (wl yX3_joinMore cX3_joinMore 8 none) ({ frames := 8, cells := 0, slots := 0, locals := 490 }) (tp D cy ld t [] [.ref a0, .int 0, .int p2, .int p3, .int p4] (fun H => True)) (tv D cy ld t [] (fun H => True) (tk_w t [(22, 0, 0), (4, 0, 0), (20, 0, 0)])) 0 0 (tk_w t [(22, 0, 0), (4, 0, 0), (20, 0, 0)]) := by
  refine tk_met (y := yX3_joinMore) (cc := cX3_joinMore) (maxL := 8) (ret := none) (av := [.ref a0, .int 0, .int p2, .int p3, .int p4]) _ _ (by decide) (Nat.le_of_ble_eq_true rfl) ?_
  intro p e s m args below meth c hx hb hr hml hts htl hown hlocks hK H locs hH hG hS hB hZ ls hl
  have hown : s.vm.findClass RX3 = some m.cls := hown
  have hl : lv_has ls 8 [(0, .ref a0), (1, .int 0), (2, .int p2), (3, .int p3), (4, .int p4)] := hl
  have hr_p2 := tk_rng p2
  have hr_p3 := tk_rng p3
  have hr_p4 := tk_rng p4
  refine lv_iload_n hx hb dX3_joinMore_0 rfl (lv_at hl 1 rfl) ?_
  refine lv_if_le (tgt := 36) hx hb dX3_joinMore_1 (by decide) (fun _ => ?_) (fun c9 => absurd (by decide) c9)
  refine lv_iload_n hx hb dX3_joinMore_36 rfl (lv_at hl 1 rfl) ?_
  refine lv_iconst (v := 4) hx hb dX3_joinMore_37 (by decide) ?_
  refine lv_icmp_lt (tgt := 42) hx hb dX3_joinMore_38 (by decide) (fun _ => ?_) (fun c9 => absurd (by decide) c9)
  refine lv_iconst (v := 0) hx hb dX3_joinMore_42 (by decide) ?_
  refine lv_istore (lv' := [(5, .int 0), (0, .ref a0), (1, .int 0), (2, .int p2), (3, .int p3), (4, .int p4)]) hx hb dX3_joinMore_43 hl (by decide) rfl (fun ls hl => ?_)
  have hl346 : ∀ (N_l346 : Nat) (v1 : Int32) (H : Heap) (locs : List Loc), v1.toInt ≤ 10 → 0 ≤ v1.toInt → (-1) * v1.toInt + 10 < (N_l346 : Int) → tk_G D cy ld t [] H → va_S (tk_w t [(22, 0, 0), (4, 0, 0), (20, 0, 0)]) s.heap H locs → ∀ ls : Array Slot, lv_has ls 8 [(5, .int v1), (0, .ref a0), (1, .int 0), (2, .int p2), (3, .int p3), (4, .int p4)] → W p l e ({ frames := 8, cells := 0, slots := 0, locals := 490 }) s m args below meth c H locs 0 0 (MQ below (tv D cy ld t [] (fun H => True) (tk_w t [(22, 0, 0), (4, 0, 0), (20, 0, 0)])) args s 0 0 (tk_w t [(22, 0, 0), (4, 0, 0), (20, 0, 0)])) (F0 m 45 ls []) := by
    intro N_l346
    induction N_l346 with
    | zero => intro v1 H locs hq0_l346 hq1_l346 hm_l346 hG hS ls hl; exfalso; omega
    | succ N_l346 ih_l346 =>
      intro v1 H locs hq0_l346 hq1_l346 hm_l346 hG hS ls hl
      refine lv_iload hx hb dX3_joinMore_45 (lv_at hl 0 rfl) ?_
      refine lv_aload_n hx hb dX3_joinMore_47 rfl (lv_at hl 1 rfl) ?_
      refine tk_get (ci := 3) (C := RX3) (T := TX3) (N := 5) (sp := (8, 20, 3, 0)) hx hb htl inX3 hown hK hG ht_a0 (by decide) tk_no rfl 0 (by decide) (htl _ mw_175) (fun _ h9 => h9) rfl dX3_joinMore_48 (fun v9 hf347 hV9 => ?_)
      obtain ⟨rfl, ht_ld20⟩ := hV9
      have ht_ld20 : t (ld 20) = (3, 0, 0) := ht_ld20
      refine fx_top (v := .ref (ld 20)) rfl ?_
      refine tk_get (ci := 2) (C := RX2) (T := TX2) (N := 20) (sp := (0, 0, 10, 0)) hx hb htl inX2 hown hK hG ht_ld20 (by decide) tk_no rfl 7 (by decide) (htl _ mw_1462) (fun _ h9 => h9) rfl dX3_joinMore_51 (fun v9 hf348 hV9 => ?_)
      obtain ⟨v349, rfl, (ha_v349 : 0 ≤ v349.toInt), (hb_v349 : v349.toInt ≤ 10)⟩ := hV9
      refine lv_icmp_ge (tgt := 188) hx hb dX3_joinMore_54 (by decide) (fun c9 => ?_) (fun c9 => ?_)
      · have hc350 : v349.toInt ≤ v1.toInt := (fi_le rfl rfl).mp c9
        exact tk_vret hx hb hr hlocks trivial hG hS dX3_joinMore_188
      · have hc350 : ¬ (v349.toInt ≤ v1.toInt) := fun h9 => c9 ((fi_le rfl rfl).mpr h9)
        refine lv_iload_n hx hb dX3_joinMore_57 rfl (lv_at hl 3 rfl) ?_
        refine lv_iload hx hb dX3_joinMore_58 (lv_at hl 0 rfl) ?_
        refine lv_ishr hx hb dX3_joinMore_60 ?_
        refine tk_any (fun v351 => ?_)
        refine lv_iconst (v := 1) hx hb dX3_joinMore_61 (by decide) ?_
        refine lv_iand hx hb dX3_joinMore_62 ?_
        refine tk_say (P := fun z => 0 ≤ z.toInt ∧ z.toInt ≤ 1) (tk_and v351 1 (by decide) (by decide)) (fun v352 h_v352 => ?_)
        have hj375 : ∀ (H : Heap) (locs : List Loc), tk_G D cy ld t [] H → va_S (tk_w t [(22, 0, 0), (4, 0, 0), (20, 0, 0)]) s.heap H locs → tk_f D H (ld 20) 2 7 (.int v349) → ∀ ls : Array Slot, lv_has ls 8 [(5, .int v1), (0, .ref a0), (1, .int 0), (2, .int p2), (3, .int p3), (4, .int p4)] → W p l e ({ frames := 8, cells := 0, slots := 0, locals := 490 }) s m args below meth c H locs 0 0 (MQ below (tv D cy ld t [] (fun H => True) (tk_w t [(22, 0, 0), (4, 0, 0), (20, 0, 0)])) args s 0 0 (tk_w t [(22, 0, 0), (4, 0, 0), (20, 0, 0)])) (F0 m 182 ls []) := by
          intro H locs hG hS hf348 ls hl
          obtain ⟨v376, h_v376, e_v376⟩ := tk_inc v1 1 (by decide) (by omega) (by omega)
          refine lv_iinc (v := v376) (lv' := [(5, .int v376), (0, .ref a0), (1, .int 0), (2, .int p2), (3, .int p3), (4, .int p4)]) hx hb dX3_joinMore_182 hl (k := 0) rfl e_v376 (by decide) rfl (fun ls hl => ?_)
          refine lv_goto (tgt := 45) hx hb dX3_joinMore_185 (by decide) ?_
          exact ih_l346 v376 _ _ (by omega) (by omega) (by omega) hG hS _ (lv_sub hl [0, 1, 2, 3, 4, 5] rfl)
        refine lv_if_ne (tgt := 182) hx hb dX3_joinMore_63 (by decide) (fun c9 => ?_) (fun c9 => ?_)
        · have hc353 : ¬ (v352.toInt = 0) := fun h9 => c9 ((fi_eq rfl (show (0 : Int32).toInt = 0 by decide)).mpr h9)
          exact hj375 _ _ hG hS hf348 _ (lv_sub hl [0, 1, 2, 3, 4, 5] rfl)
        · have hc353 : v352.toInt = 0 := (fi_eq rfl (show (0 : Int32).toInt = 0 by decide)).mp c9
          refine lv_aload_n hx hb dX3_joinMore_66 rfl (lv_at hl 1 rfl) ?_
          refine tk_get (ci := 3) (C := RX3) (T := TX3) (N := 5) (sp := (8, 20, 3, 0)) hx hb htl inX3 hown hK hG ht_a0 (by decide) tk_no rfl 0 (by decide) (htl _ mw_175) (fun _ h9 => h9) rfl dX3_joinMore_67 (fun v9 hf377 hV9 => ?_)
          obtain ⟨rfl, ht_ld20⟩ := hV9
          have ht_ld20 : t (ld 20) = (3, 0, 0) := ht_ld20
          refine fx_top (v := .ref (ld 20)) rfl ?_
          refine tk_get (ci := 2) (C := RX2) (T := TX2) (N := 20) (sp := (11, 120, 37, 10)) hx hb htl inX2 hown hK hG ht_ld20 (by decide) tk_no rfl 10 (by decide) (htl _ mw_1463) (fun _ h9 => h9) rfl dX3_joinMore_70 (fun v9 hf378 hV9 => ?_)
          obtain ⟨rfl, ht_ld120⟩ := hV9
          have ht_ld120 : t (ld 120) = (37, 10, 0) := ht_ld120
          refine fx_top (v := .ref (ld 120)) rfl ?_
          refine lv_iload hx hb dX3_joinMore_73 (lv_at hl 0 rfl) ?_
          refine tk_iald hx hb hK hG ht_ld120 (by decide) (fun _ h => h) tk_no rfl (by omega) (by omega) dX3_joinMore_75 (fun v379 _ _ => ?_)
          have hr_v379 := tk_rng v379
          refine lv_iload hx hb dX3_joinMore_76 (lv_at hl 5 rfl) ?_
          refine lv_icmp_gt (tgt := 182) hx hb dX3_joinMore_78 (by decide) (fun c9 => ?_) (fun c9 => ?_)
          · have hc380 : p4.toInt < v379.toInt := (fi_lt rfl rfl).mp c9
            exact hj375 _ _ hG hS hf348 _ (lv_sub hl [0, 1, 2, 3, 4, 5] rfl)
          · have hc380 : ¬ (p4.toInt < v379.toInt) := fun h9 => c9 ((fi_lt rfl rfl).mpr h9)
            refine lv_iload_n hx hb dX3_joinMore_81 rfl (lv_at hl 2 rfl) ?_
            refine lv_if_le (tgt := 118) hx hb dX3_joinMore_82 (by decide) (fun _ => ?_) (fun c9 => absurd (by decide) c9)
            refine lv_iconst (v := 0) hx hb dX3_joinMore_118 (by decide) ?_
            refine lv_istore (lv' := [(6, .int 0), (5, .int v1), (0, .ref a0), (1, .int 0), (2, .int p2), (3, .int p3), (4, .int p4)]) hx hb dX3_joinMore_119 hl (by decide) rfl (fun ls hl => ?_)
            refine lv_aload_n hx hb dX3_joinMore_121 rfl (lv_at hl 2 rfl) ?_
            refine tk_get (ci := 3) (C := RX3) (T := TX3) (N := 5) (sp := (6, 22, 4, 0)) hx hb htl inX3 hown hK hG ht_a0 (by decide) tk_no rfl 1 (by decide) (htl _ mw_173) (fun _ h9 => h9) rfl dX3_joinMore_122 (fun v9 hf381 hV9 => ?_)
            obtain ⟨b382, rfl, ht_b382⟩ := hV9
            have ht_b382 : t b382 = (22, 4, 0) := ht_b382
            refine lv_iload_n hx hb dX3_joinMore_125 rfl (lv_at hl 3 rfl) ?_
            refine lv_iload hx hb dX3_joinMore_126 (lv_at hl 1 rfl) ?_
            refine tk_iast hx hb hK hG hS ht_b382 (by decide) (fun _ => Iff.rfl) tk_no (I := 0) (by decide) (by decide) (by decide) (show 0 ≤ (v1 : Int32).toInt ∧ (v1 : Int32).toInt ≤ 9 from ⟨by omega, by omega⟩) (tk_w.of ht_b382 (by decide) (List.mem_of_getElem? (i := 0) rfl) (Nat.le_refl _) (Nat.le_refl _)) dX3_joinMore_128 (fun H locs hG hS hq9 => ?_)
            have hf348 := hf348.kept (hq9 _ (tk_ne ht_ld20 ht_b382 (Or.inl (by decide))))
            refine lv_iload_n hx hb dX3_joinMore_129 rfl (lv_at hl 5 rfl) ?_
            refine lv_aload_n hx hb dX3_joinMore_130 rfl (lv_at hl 2 rfl) ?_
            refine tk_get (ci := 3) (C := RX3) (T := TX3) (N := 5) (sp := (8, 20, 3, 0)) hx hb htl inX3 hown hK hG ht_a0 (by decide) tk_no rfl 0 (by decide) (htl _ mw_175) (fun _ h9 => h9) rfl dX3_joinMore_131 (fun v9 hf384 hV9 => ?_)
            obtain ⟨rfl, ht_ld20⟩ := hV9
            have ht_ld20 : t (ld 20) = (3, 0, 0) := ht_ld20
            refine fx_top (v := .ref (ld 20)) rfl ?_
            refine tk_get (ci := 2) (C := RX2) (T := TX2) (N := 20) (sp := (11, 100, 35, 10)) hx hb htl inX2 hown hK hG ht_ld20 (by decide) tk_no rfl 8 (by decide) (htl _ mw_1465) (fun _ h9 => h9) rfl dX3_joinMore_134 (fun v9 hf385 hV9 => ?_)
            obtain ⟨rfl, ht_ld100⟩ := hV9
            have ht_ld100 : t (ld 100) = (35, 10, 0) := ht_ld100
            refine fx_top (v := .ref (ld 100)) rfl ?_
            refine lv_iload hx hb dX3_joinMore_137 (lv_at hl 1 rfl) ?_
            refine tk_iald hx hb hK hG ht_ld100 (by decide) (fun _ h => h) tk_no rfl (by omega) (by omega) dX3_joinMore_139 (fun v386 _ _ => ?_)
            have hr_v386 := tk_rng v386
            refine lv_iadd hx hb dX3_joinMore_140 ?_
            obtain ⟨v387, hm_v387⟩ : ∃ z : Int32, p3 + v386 = z := ⟨_, rfl⟩
            refine fx_ti hm_v387 ?_
            refine lv_iload hx hb dX3_joinMore_141 (lv_at hl 0 rfl) ?_
            refine lv_if_eq (tgt := 150) hx hb dX3_joinMore_143 (by decide) (fun _ => ?_) (fun c9 => absurd (by decide) c9)
            refine lv_iconst (v := 0) hx hb dX3_joinMore_150 (by decide) ?_
            refine lv_iadd hx hb dX3_joinMore_151 ?_
            obtain ⟨v388, hm_v388⟩ : ∃ z : Int32, v387 + 0 = z := ⟨_, rfl⟩
            refine fx_ti hm_v388 ?_
            refine lv_istore (lv' := [(7, .int v388), (6, .int 0), (5, .int v1), (0, .ref a0), (1, .int 0), (2, .int p2), (3, .int p3), (4, .int p4)]) hx hb dX3_joinMore_152 hl (by decide) rfl (fun ls hl => ?_)
            refine lv_aload_n hx hb dX3_joinMore_154 rfl (lv_at hl 3 rfl) ?_
            refine lv_iload_n hx hb dX3_joinMore_155 rfl (lv_at hl 4 rfl) ?_
            refine lv_iconst (v := 1) hx hb dX3_joinMore_156 (by decide) ?_
            refine lv_iadd hx hb dX3_joinMore_157 ?_
            refine fx_ti (v := 1) (by decide) ?_
            refine lv_iload_n hx hb dX3_joinMore_158 rfl (lv_at hl 5 rfl) ?_
            refine lv_iconst (v := 1) hx hb dX3_joinMore_159 (by decide) ?_
            refine lv_iload hx hb dX3_joinMore_160 (lv_at hl 2 rfl) ?_
            refine lv_ishl hx hb dX3_joinMore_162 ?_
            refine tk_say (P := fun z => 1 ≤ z.toInt ∧ z.toInt ≤ 1024) (tk_shl1 v1 (by omega) (by omega)) (fun v389 h_v389 => ?_)
            refine lv_ior hx hb dX3_joinMore_163 ?_
            refine tk_any (fun v390 => ?_)
            refine lv_iload hx hb dX3_joinMore_164 (lv_at hl 0 rfl) ?_
            refine lv_iload hx hb dX3_joinMore_166 (lv_at hl 7 rfl) ?_
            refine lv_aload_n hx hb dX3_joinMore_168 rfl (lv_at hl 3 rfl) ?_
            refine tk_get (ci := 3) (C := RX3) (T := TX3) (N := 5) (sp := (8, 20, 3, 0)) hx hb htl inX3 hown hK hG ht_a0 (by decide) tk_no rfl 0 (by decide) (htl _ mw_175) (fun _ h9 => h9) rfl dX3_joinMore_169 (fun v9 hf391 hV9 => ?_)
            obtain ⟨rfl, ht_ld20⟩ := hV9
            have ht_ld20 : t (ld 20) = (3, 0, 0) := ht_ld20
            refine fx_top (v := .ref (ld 20)) rfl ?_
            refine tk_get (ci := 2) (C := RX2) (T := TX2) (N := 20) (sp := (11, 120, 37, 10)) hx hb htl inX2 hown hK hG ht_ld20 (by decide) tk_no rfl 10 (by decide) (htl _ mw_1463) (fun _ h9 => h9) rfl dX3_joinMore_172 (fun v9 hf392 hV9 => ?_)
            obtain ⟨rfl, ht_ld120⟩ := hV9
            have ht_ld120 : t (ld 120) = (37, 10, 0) := ht_ld120
            refine fx_top (v := .ref (ld 120)) rfl ?_
            refine lv_iload hx hb dX3_joinMore_175 (lv_at hl 2 rfl) ?_
            refine tk_iald hx hb hK hG ht_ld120 (by decide) (fun _ h => h) tk_no rfl (by omega) (by omega) dX3_joinMore_177 (fun v393 _ _ => ?_)
            have hr_v393 := tk_rng v393
            refine lv_isub hx hb dX3_joinMore_178 ?_
            obtain ⟨v394, hm_v394⟩ : ∃ z : Int32, p4 - v393 = z := ⟨_, rfl⟩
            refine fx_ti hm_v394 ?_
            have hk_1 : (1 : Int32).toInt = 1 := by decide
            refine tk_Vv (As := [.int 1, .int v390, .int v388, .int v394]) (rest := []) (ci := 3) ⟨hx, hb, hml, hown, hts⟩ hK hG hZ hS (k_X3_joinMore_1 l D cy ld t a0 v390 v388 v394 ht_a0) trivial ⟨callB_of 4 hts (wl_in mw_1460) rfl rfl rfl (htl _ mw_48) (htl _ mw_1457) hd_yX3_joinMore ⟨(Nat.le_of_ble_eq_true rfl), (Nat.le_of_ble_eq_true rfl)⟩, htl _ mw_1458, htl _ mw_1459⟩ ht_a0 (by decide) tk_no rfl (tk_w.pick [1, 2, 0] rfl) rfl hl.1 rfl (Nat.le_of_ble_eq_true rfl) dX3_joinMore_179 ⟨(Nat.le_of_ble_eq_true rfl), (Nat.le_of_ble_eq_true rfl)⟩ (fun H locs hpo hG hS hq9 => ?_)
            have hf348 := hf348.call hq9 (tk_w.no ht_ld20 (by decide))
            exact hj375 _ _ hG hS hf348 _ (lv_sub hl [2, 3, 4, 5, 6, 7] rfl)
  have hk_0 : (0 : Int32).toInt = 0 := by decide
  exact hl346 11 0 _ _ (by omega) (by omega) (by omega) hG hS _ (lv_sub hl [0, 1, 2, 3, 4, 5] rfl)
theorem dX3_strongest_0 : decode cX3_strongest 0 = .ok (.aload_n 0, 1) := by decide +kernel
theorem dX3_strongest_1 : decode cX3_strongest 1 = .ok (.iconst 0, 1) := by decide +kernel
theorem dX3_strongest_2 : decode cX3_strongest 2 = .ok (.putfield 22, 3) := by decide +kernel
theorem dX3_strongest_5 : decode cX3_strongest 5 = .ok (.aload_n 0, 1) := by decide +kernel
theorem dX3_strongest_6 : decode cX3_strongest 6 = .ok (.iconst (-1), 1) := by decide +kernel
theorem dX3_strongest_7 : decode cX3_strongest 7 = .ok (.putfield 26, 3) := by decide +kernel
theorem dX3_strongest_10 : decode cX3_strongest 10 = .ok (.aload_n 0, 1) := by decide +kernel
theorem dX3_strongest_11 : decode cX3_strongest 11 = .ok (.iconst 0, 1) := by decide +kernel
theorem dX3_strongest_12 : decode cX3_strongest 12 = .ok (.iconst 0, 1) := by decide +kernel
theorem dX3_strongest_13 : decode cX3_strongest 13 = .ok (.iconst 0, 1) := by decide +kernel
theorem dX3_strongest_14 : decode cX3_strongest 14 = .ok (.iload_n 1, 1) := by decide +kernel
theorem dX3_strongest_15 : decode cX3_strongest 15 = .ok (.invokevirtual 29, 3) := by decide +kernel
theorem dX3_strongest_18 : decode cX3_strongest 18 = .ok (.iload_n 2, 1) := by decide +kernel
theorem dX3_strongest_19 : decode cX3_strongest 19 = .ok (.iconst (-1), 1) := by decide +kernel
theorem dX3_strongest_20 : decode cX3_strongest 20 = .ok (.if_icmp .ne 8, 3) := by decide +kernel
theorem dX3_strongest_28 : decode cX3_strongest 28 = .ok (.iload_n 2, 1) := by decide +kernel
theorem dX3_strongest_29 : decode cX3_strongest 29 = .ok (.iconst 0, 1) := by decide +kernel
theorem dX3_strongest_30 : decode cX3_strongest 30 = .ok (.aload_n 0, 1) := by decide +kernel
theorem dX3_strongest_31 : decode cX3_strongest 31 = .ok (.getfield 22, 3) := by decide +kernel
theorem dX3_strongest_34 : decode cX3_strongest 34 = .ok (.iconst 1, 1) := by decide +kernel
theorem dX3_strongest_35 : decode cX3_strongest 35 = .ok (.isub, 1) := by decide +kernel
theorem dX3_strongest_36 : decode cX3_strongest 36 = .ok (.invokestatic 33, 3) := by decide +kernel
theorem dX3_strongest_39 : decode cX3_strongest 39 = .ok (.ifCond .eq 12, 3) := by decide +kernel
theorem dX3_strongest_51 : decode cX3_strongest 51 = .ok (.iconst (-1), 1) := by decide +kernel
theorem dX3_strongest_52 : decode cX3_strongest 52 = .ok (.ireturn, 1) := by decide +kernel
theorem dX3_strongest_42 : decode cX3_strongest 42 = .ok (.aload_n 0, 1) := by decide +kernel
theorem dX3_strongest_43 : decode cX3_strongest 43 = .ok (.getfield 15, 3) := by decide +kernel
theorem dX3_strongest_46 : decode cX3_strongest 46 = .ok (.iload_n 2, 1) := by decide +kernel
theorem dX3_strongest_47 : decode cX3_strongest 47 = .ok (.iaload, 1) := by decide +kernel
theorem dX3_strongest_48 : decode cX3_strongest 48 = .ok (.goto 4, 3) := by decide +kernel
theorem dX3_strongest_23 : decode cX3_strongest 23 = .ok (.aload_n 0, 1) := by decide +kernel
theorem dX3_strongest_24 : decode cX3_strongest 24 = .ok (.getfield 26, 3) := by decide +kernel
theorem dX3_strongest_27 : decode cX3_strongest 27 = .ok (.ireturn, 1) := by decide +kernel
set_option maxHeartbeats 4000000 in
set_option maxRecDepth 100000 in
theorem k_X3_strongest (l : Launch) (D : va_G) (cy : Nat → ClassId) (ld : Nat → Nat) (t : tk_T) (a0 : Nat) (p1 : Int32) (p2 : Int32) (ht_a0 : t a0 = (4, 0, 0)) : Met l yX3_strongest (wl yX3_strongest cX3_strongest 3 (some .int)) ({ frames := 9, cells := 0, slots := 0, locals := 560 }) (tp D cy ld t [] [.ref a0, .int p1, .int p2] (fun H => True)) (ti D cy ld t [] (fun r H => True) (tk_w t [(4, 0, 0), (22, 0, 0), (20, 0, 0)])) 0 0 (tk_w t [(4, 0, 0), (22, 0, 0), (20, 0, 0)]) := by
  refine tk_met (y := yX3_strongest) (cc := cX3_strongest) (maxL := 3) (ret := (some .int)) (av := [.ref a0, .int p1, .int p2]) _ _ (by decide) (Nat.le_of_ble_eq_true rfl) ?_
  intro p e s m args below meth c hx hb hr hml hts htl hown hlocks hK H locs hH hG hS hB hZ ls hl
  have hown : s.vm.findClass RX3 = some m.cls := hown
  have hl : lv_has ls 3 [(0, .ref a0), (1, .int p1), (2, .int p2)] := hl
  have hr_p1 := tk_rng p1
  have hr_p2 := tk_rng p2
  refine lv_aload_n hx hb dX3_strongest_0 rfl (lv_at hl 0 rfl) ?_
  refine lv_iconst (v := 0) hx hb dX3_strongest_1 (by decide) ?_
  refine tk_put (ci := 3) (v := .int 0) (ty := .int) (C := RX3) (T := TX3) (N := 5) (sp := (0, 0, 4, 0)) hx hb htl inX3 tyX3 tyX3_ok nmX3 hown hK hG hS ht_a0 (by decide) tk_no rfl 3 (by decide) (htl _ mw_1455) (fun _ h9 => h9) rfl (tyX3_ok 3 (by decide)) rfl rfl rfl (tk_V0 (by decide) (by decide)) (fun _ h => h) (tk_w.of ht_a0 (by decide) (List.mem_of_getElem? (i := 0) rfl) (Nat.le_refl _) (Nat.le_refl _)) dX3_strongest_2 (fun H locs hG hS hf1 hq9 hj9 => ?_)
  refine lv_aload_n hx hb dX3_strongest_5 rfl (lv_at hl 0 rfl) ?_
  refine lv_iconst (v := (-1)) hx hb dX3_strongest_6 (by decide) ?_
  refine tk_put (ci := 3) (v := .int (-1)) (ty := .int) (C := RX3) (T := TX3) (N := 5) (sp := (0, (-2147483648), 2147483647, 0)) hx hb htl inX3 tyX3 tyX3_ok nmX3 hown hK hG hS ht_a0 (by decide) tk_no rfl 4 (by decide) (htl _ mw_1456) (fun _ h9 => h9) rfl (tyX3_ok 4 (by decide)) rfl rfl rfl (tk_V0 (tk_rng _).1 (tk_rng _).2) (fun _ h => h) (tk_w.of ht_a0 (by decide) (List.mem_of_getElem? (i := 0) rfl) (Nat.le_refl _) (Nat.le_refl _)) dX3_strongest_7 (fun H locs hG hS hf3 hq9 hj9 => ?_)
  refine lv_aload_n hx hb dX3_strongest_10 rfl (lv_at hl 0 rfl) ?_
  refine lv_iconst (v := 0) hx hb dX3_strongest_11 (by decide) ?_
  refine lv_iconst (v := 0) hx hb dX3_strongest_12 (by decide) ?_
  refine lv_iconst (v := 0) hx hb dX3_strongest_13 (by decide) ?_
  refine lv_iload_n hx hb dX3_strongest_14 rfl (lv_at hl 1 rfl) ?_
  have hk_0 : (0 : Int32).toInt = 0 := by decide
  have hk_0 : (0 : Int32).toInt = 0 := by decide
  have hk_0 : (0 : Int32).toInt = 0 := by decide
  refine tk_Vv (As := [.int 0, .int 0, .int 0, .int p1]) (rest := []) (ci := 3) ⟨hx, hb, hml, hown, hts⟩ hK hG hZ hS (k_X3_joinMore_0 l D cy ld t a0 0 0 p1 ht_a0) trivial ⟨callB_of 4 hts (wl_in mw_1460) rfl rfl rfl (htl _ mw_48) (htl _ mw_1457) hd_yX3_joinMore ⟨(Nat.le_of_ble_eq_true rfl), (Nat.le_of_ble_eq_true rfl)⟩, htl _ mw_1458, htl _ mw_1459⟩ ht_a0 (by decide) tk_no rfl (tk_w.pick [1, 0, 2] rfl) rfl hl.1 rfl (Nat.le_of_ble_eq_true rfl) dX3_strongest_15 ⟨(Nat.le_of_ble_eq_true rfl), (Nat.le_of_ble_eq_true rfl)⟩ (fun H locs hpo hG hS hq9 => ?_)
  refine lv_iload_n hx hb dX3_strongest_18 rfl (lv_at hl 2 rfl) ?_
  refine lv_iconst (v := (-1)) hx hb dX3_strongest_19 (by decide) ?_
  refine lv_icmp_ne (tgt := 28) hx hb dX3_strongest_20 (by decide) (fun c9 => ?_) (fun c9 => ?_)
  · have hc6 : ¬ (p2.toInt = (-1)) := fun h9 => c9 ((fi_eq rfl (show ((-1) : Int32).toInt = (-1) by decide)).mpr h9)
    refine lv_iload_n hx hb dX3_strongest_28 rfl (lv_at hl 2 rfl) ?_
    refine lv_iconst (v := 0) hx hb dX3_strongest_29 (by decide) ?_
    refine lv_aload_n hx hb dX3_strongest_30 rfl (lv_at hl 0 rfl) ?_
    refine tk_get (ci := 3) (C := RX3) (T := TX3) (N := 5) (sp := (0, 0, 4, 0)) hx hb htl inX3 hown hK hG ht_a0 (by decide) tk_no rfl 3 (by decide) (htl _ mw_1455) (fun _ h9 => h9) rfl dX3_strongest_31 (fun v9 hf7 hV9 => ?_)
    obtain ⟨v8, rfl, (ha_v8 : 0 ≤ v8.toInt), (hb_v8 : v8.toInt ≤ 4)⟩ := hV9
    refine lv_iconst (v := 1) hx hb dX3_strongest_34 (by decide) ?_
    refine lv_isub hx hb dX3_strongest_35 ?_
    refine tk_sub rfl (show (1 : Int32).toInt = 1 by decide) (by omega) (by omega) (fun v9 h_v9 => ?_)
    have hk_0 : (0 : Int32).toInt = 0 := by decide
    refine tk_Ni (As := [.int p2, .int 0, .int v9]) (rest := []) ⟨hx, hb, hml, hown, hts⟩ hK hG hZ hS (k_X12_within l D cy ld t _ p2 0 v9) trivial ⟨va_cnB 3 hts (wl_in mw_262) rfl rfl rfl hK.2.2.2.1.2.2.1 (htl _ mw_2) hd_yX12_within ⟨(Nat.le_of_ble_eq_true rfl), (Nat.le_of_ble_eq_true rfl)⟩, htl _ mw_261, trivial⟩ (tk_w.pick [] rfl) rfl hl.1 rfl (Nat.le_of_ble_eq_true rfl) dX3_strongest_36 ⟨(Nat.le_of_ble_eq_true rfl), (Nat.le_of_ble_eq_true rfl)⟩ (fun v10 H locs hpo hG hS hq9 => ?_)
    obtain ⟨hpo12, hpo13, hpo14, hpo15, hpo16⟩ := hpo
    refine lv_if_eq (tgt := 51) hx hb dX3_strongest_39 (by decide) (fun c9 => ?_) (fun c9 => ?_)
    · have hc17 : v10.toInt = 0 := (fi_eq rfl (show (0 : Int32).toInt = 0 by decide)).mp c9
      refine lv_iconst (v := (-1)) hx hb dX3_strongest_51 (by decide) ?_
      have hk_m1 : ((-1) : Int32).toInt = (-1) := by decide
      exact tk_iret (v := (-1)) hx hb hr rfl hlocks trivial hG hS dX3_strongest_52
    · have hc17 : ¬ (v10.toInt = 0) := fun h9 => c9 ((fi_eq rfl (show (0 : Int32).toInt = 0 by decide)).mpr h9)
      refine lv_aload_n hx hb dX3_strongest_42 rfl (lv_at hl 0 rfl) ?_
      refine tk_get (ci := 3) (C := RX3) (T := TX3) (N := 5) (sp := (6, 20, 4, 0)) hx hb htl inX3 hown hK hG ht_a0 (by decide) tk_no rfl 2 (by decide) (htl _ mw_174) (fun _ h9 => h9) rfl dX3_strongest_43 (fun v9 hf18 hV9 => ?_)
      obtain ⟨b19, rfl, ht_b19⟩ := hV9
      have ht_b19 : t b19 = (20, 4, 0) := ht_b19
      refine lv_iload_n hx hb dX3_strongest_46 rfl (lv_at hl 2 rfl) ?_
      refine tk_iald hx hb hK hG ht_b19 (by decide) (fun _ h => h) tk_no rfl (by omega) (by omega) dX3_strongest_47 (fun v20 _ _ => ?_)
      have hr_v20 := tk_rng v20
      refine lv_goto (tgt := 52) hx hb dX3_strongest_48 (by decide) ?_
      exact tk_iret (v := v20) hx hb hr rfl hlocks trivial hG hS dX3_strongest_52
  · have hc6 : p2.toInt = (-1) := (fi_eq rfl (show ((-1) : Int32).toInt = (-1) by decide)).mp c9
    refine lv_aload_n hx hb dX3_strongest_23 rfl (lv_at hl 0 rfl) ?_
    refine tk_get (ci := 3) (C := RX3) (T := TX3) (N := 5) (sp := (0, (-2147483648), 2147483647, 0)) hx hb htl inX3 hown hK hG ht_a0 (by decide) tk_no rfl 4 (by decide) (htl _ mw_1456) (fun _ h9 => h9) rfl dX3_strongest_24 (fun v9 hf21 hV9 => ?_)
    obtain ⟨v22, rfl, (ha_v22 : (-2147483648) ≤ v22.toInt), (hb_v22 : v22.toInt ≤ 2147483647)⟩ := hV9
    exact tk_iret (v := v22) hx hb hr rfl hlocks trivial hG hS dX3_strongest_27
theorem dX4_doBegin_0 : decode cX4_doBegin 0 = .ok (.aload_n 0, 1) := by decide +kernel
theorem dX4_doBegin_1 : decode cX4_doBegin 1 = .ok (.getfield 23, 3) := by decide +kernel
theorem dX4_doBegin_4 : decode cX4_doBegin 4 = .ok (.aload_n 1, 1) := by decide +kernel
theorem dX4_doBegin_5 : decode cX4_doBegin 5 = .ok (.aload_n 1, 1) := by decide +kernel
theorem dX4_doBegin_6 : decode cX4_doBegin 6 = .ok (.iload_n 2, 1) := by decide +kernel
theorem dX4_doBegin_7 : decode cX4_doBegin 7 = .ok (.iconst 0, 1) := by decide +kernel
theorem dX4_doBegin_8 : decode cX4_doBegin 8 = .ok (.invokevirtual 71, 3) := by decide +kernel
theorem dX4_doBegin_11 : decode cX4_doBegin 11 = .ok (.invokevirtual 53, 3) := by decide +kernel
theorem dX4_doBegin_14 : decode cX4_doBegin 14 = .ok (.istore_n 3, 1) := by decide +kernel
theorem dX4_doBegin_15 : decode cX4_doBegin 15 = .ok (.aload_n 0, 1) := by decide +kernel
theorem dX4_doBegin_16 : decode cX4_doBegin 16 = .ok (.getfield 23, 3) := by decide +kernel
theorem dX4_doBegin_19 : decode cX4_doBegin 19 = .ok (.getfield 75, 3) := by decide +kernel
theorem dX4_doBegin_22 : decode cX4_doBegin 22 = .ok (.istore 4, 2) := by decide +kernel
theorem dX4_doBegin_24 : decode cX4_doBegin 24 = .ok (.aload_n 0, 1) := by decide +kernel
theorem dX4_doBegin_25 : decode cX4_doBegin 25 = .ok (.getfield 23, 3) := by decide +kernel
theorem dX4_doBegin_28 : decode cX4_doBegin 28 = .ok (.aload_n 1, 1) := by decide +kernel
theorem dX4_doBegin_29 : decode cX4_doBegin 29 = .ok (.aload_n 1, 1) := by decide +kernel
theorem dX4_doBegin_30 : decode cX4_doBegin 30 = .ok (.iload_n 2, 1) := by decide +kernel
theorem dX4_doBegin_31 : decode cX4_doBegin 31 = .ok (.iconst 1, 1) := by decide +kernel
theorem dX4_doBegin_32 : decode cX4_doBegin 32 = .ok (.invokevirtual 71, 3) := by decide +kernel
theorem dX4_doBegin_35 : decode cX4_doBegin 35 = .ok (.invokevirtual 53, 3) := by decide +kernel
theorem dX4_doBegin_38 : decode cX4_doBegin 38 = .ok (.istore 5, 2) := by decide +kernel
theorem dX4_doBegin_40 : decode cX4_doBegin 40 = .ok (.iload 4, 2) := by decide +kernel
theorem dX4_doBegin_42 : decode cX4_doBegin 42 = .ok (.aload_n 0, 1) := by decide +kernel
theorem dX4_doBegin_43 : decode cX4_doBegin 43 = .ok (.getfield 23, 3) := by decide +kernel
theorem dX4_doBegin_46 : decode cX4_doBegin 46 = .ok (.getfield 75, 3) := by decide +kernel
theorem dX4_doBegin_49 : decode cX4_doBegin 49 = .ok (.ior, 1) := by decide +kernel
theorem dX4_doBegin_50 : decode cX4_doBegin 50 = .ok (.istore 4, 2) := by decide +kernel
theorem dX4_doBegin_52 : decode cX4_doBegin 52 = .ok (.aload_n 0, 1) := by decide +kernel
theorem dX4_doBegin_53 : decode cX4_doBegin 53 = .ok (.getfield 23, 3) := by decide +kernel
theorem dX4_doBegin_56 : decode cX4_doBegin 56 = .ok (.aload_n 1, 1) := by decide +kernel
theorem dX4_doBegin_57 : decode cX4_doBegin 57 = .ok (.aload_n 1, 1) := by decide +kernel
theorem dX4_doBegin_58 : decode cX4_doBegin 58 = .ok (.iload_n 2, 1) := by decide +kernel
theorem dX4_doBegin_59 : decode cX4_doBegin 59 = .ok (.iconst 2, 1) := by decide +kernel
theorem dX4_doBegin_60 : decode cX4_doBegin 60 = .ok (.invokevirtual 71, 3) := by decide +kernel
theorem dX4_doBegin_63 : decode cX4_doBegin 63 = .ok (.invokevirtual 53, 3) := by decide +kernel
theorem dX4_doBegin_66 : decode cX4_doBegin 66 = .ok (.istore 6, 2) := by decide +kernel
theorem dX4_doBegin_68 : decode cX4_doBegin 68 = .ok (.iload 4, 2) := by decide +kernel
theorem dX4_doBegin_70 : decode cX4_doBegin 70 = .ok (.aload_n 0, 1) := by decide +kernel
theorem dX4_doBegin_71 : decode cX4_doBegin 71 = .ok (.getfield 23, 3) := by decide +kernel
theorem dX4_doBegin_74 : decode cX4_doBegin 74 = .ok (.getfield 75, 3) := by decide +kernel
theorem dX4_doBegin_77 : decode cX4_doBegin 77 = .ok (.ior, 1) := by decide +kernel
theorem dX4_doBegin_78 : decode cX4_doBegin 78 = .ok (.istore 4, 2) := by decide +kernel
theorem dX4_doBegin_80 : decode cX4_doBegin 80 = .ok (.iload 4, 2) := by decide +kernel
theorem dX4_doBegin_82 : decode cX4_doBegin 82 = .ok (.ifCond .eq 8, 3) := by decide +kernel
theorem dX4_doBegin_90 : decode cX4_doBegin 90 = .ok (.aload_n 0, 1) := by decide +kernel
theorem dX4_doBegin_91 : decode cX4_doBegin 91 = .ok (.getfield 19, 3) := by decide +kernel
theorem dX4_doBegin_94 : decode cX4_doBegin 94 = .ok (.iload_n 3, 1) := by decide +kernel
theorem dX4_doBegin_95 : decode cX4_doBegin 95 = .ok (.iload 5, 2) := by decide +kernel
theorem dX4_doBegin_97 : decode cX4_doBegin 97 = .ok (.iload 6, 2) := by decide +kernel
theorem dX4_doBegin_99 : decode cX4_doBegin 99 = .ok (.invokevirtual 90, 3) := by decide +kernel
theorem dX4_doBegin_102 : decode cX4_doBegin 102 = .ok (.ireturn, 1) := by decide +kernel
theorem dX4_doBegin_85 : decode cX4_doBegin 85 = .ok (.bipush (-3), 2) := by decide +kernel
theorem dX4_doBegin_87 : decode cX4_doBegin 87 = .ok (.goto 15, 3) := by decide +kernel
set_option maxHeartbeats 4000000 in
set_option maxRecDepth 100000 in
theorem k_X4_doBegin (l : Launch) (D : va_G) (cy : Nat → ClassId) (ld : Nat → Nat) (t : tk_T) (a0 : Nat) (a1 : Nat) (p2 : Int32) (ht_a0 : t a0 = (5, 0, 0)) (ht_a1 : t a1 = (8, 512, 12)) (hp_0 : 0 ≤ p2.toInt) (hp_1 : p2.toInt ≤ 11) : Met l yX4_doBegin (wl yX4_doBegin cX4_doBegin 7 (some .int)) ({ frames := 7, cells := 0, slots := 0, locals := 420 }) (tp D cy ld t [] [.ref a0, .ref a1, .int p2] (fun H => True)) (ti D cy ld t [] (fun r H => (-3) ≤ r.toInt ∧ r.toInt ≤ 0) (tk_w t [(12, 0, 0), (20, 0, 0), (2, 0, 0), (20, 1, 1), (10, 1, 1), (10, 0, 0)])) 0 0 (tk_w t [(12, 0, 0), (20, 0, 0), (2, 0, 0), (20, 1, 1), (10, 1, 1), (10, 0, 0)]) := by
  refine tk_met (y := yX4_doBegin) (cc := cX4_doBegin) (maxL := 7) (ret := (some .int)) (av := [.ref a0, .ref a1, .int p2]) _ _ (by decide) (Nat.le_of_ble_eq_true rfl) ?_
  intro p e s m args below meth c hx hb hr hml hts htl hown hlocks hK H locs hH hG hS hB hZ ls hl
  have hown : s.vm.findClass RX4 = some m.cls := hown
  have hl : lv_has ls 7 [(0, .ref a0), (1, .ref a1), (2, .int p2)] := hl
  have hr_p2 := tk_rng p2
  refine lv_aload_n hx hb dX4_doBegin_0 rfl (lv_at hl 0 rfl) ?_
  refine tk_get (ci := 4) (C := RX4) (T := TX4) (N := 6) (sp := (6, 12, 0, 0)) hx hb htl inX4 hown hK hG ht_a0 (by decide) tk_no rfl 3 (by decide) (htl _ mw_124) (fun _ h9 => h9) rfl dX4_doBegin_1 (fun v9 hf1 hV9 => ?_)
  obtain ⟨b2, rfl, ht_b2⟩ := hV9
  have ht_b2 : t b2 = (12, 0, 0) := ht_b2
  refine lv_aload_n hx hb dX4_doBegin_4 rfl (lv_at hl 1 rfl) ?_
  refine lv_aload_n hx hb dX4_doBegin_5 rfl (lv_at hl 1 rfl) ?_
  refine lv_iload_n hx hb dX4_doBegin_6 rfl (lv_at hl 2 rfl) ?_
  refine lv_iconst (v := 0) hx hb dX4_doBegin_7 (by decide) ?_
  have hk_0 : (0 : Int32).toInt = 0 := by decide
  refine tk_Vi (As := [.int p2, .int 0]) (rest := [.ref a1, .ref b2]) (ci := 7) ⟨hx, hb, hml, hown, hts⟩ hK hG hZ hS (k_X7_sumOf l D cy ld t 512 12 a1 p2 0 ht_a1) trivial ⟨callB_of 2 hts (wl_in mw_869) rfl rfl rfl (htl _ mw_131) (htl _ mw_866) hd_yX7_sumOf ⟨(Nat.le_of_ble_eq_true rfl), (Nat.le_of_ble_eq_true rfl)⟩, htl _ mw_867, htl _ mw_868⟩ ht_a1 (by decide) tk_no rfl (tk_w.pick [] rfl) rfl hl.1 rfl (Nat.le_of_ble_eq_true rfl) dX4_doBegin_8 ⟨(Nat.le_of_ble_eq_true rfl), (Nat.le_of_ble_eq_true rfl)⟩ (fun v3 H locs hpo hG hS hq9 => ?_)
  refine tk_Vi (As := [.ref a1, .int v3]) (rest := []) (ci := 11) ⟨hx, hb, hml, hown, hts⟩ hK hG hZ hS (k_X11_workOut l D cy ld t 512 12 b2 a1 v3 ht_b2 ht_a1) trivial ⟨callB_of 2 hts (wl_in mw_849) rfl rfl rfl (htl _ mw_95) (htl _ mw_846) hd_yX11_workOut ⟨(Nat.le_of_ble_eq_true rfl), (Nat.le_of_ble_eq_true rfl)⟩, htl _ mw_847, htl _ mw_848⟩ ht_b2 (by decide) tk_no rfl (tk_w.pick [0, 1] rfl) rfl hl.1 rfl (Nat.le_of_ble_eq_true rfl) dX4_doBegin_11 ⟨(Nat.le_of_ble_eq_true rfl), (Nat.le_of_ble_eq_true rfl)⟩ (fun v5 H locs hpo hG hS hq9 => ?_)
  refine lv_istore_n (lv' := [(3, .int v5), (0, .ref a0), (1, .ref a1), (2, .int p2)]) hx hb dX4_doBegin_14 rfl hl (by decide) rfl (fun ls hl => ?_)
  refine lv_aload_n hx hb dX4_doBegin_15 rfl (lv_at hl 1 rfl) ?_
  refine tk_get (ci := 4) (C := RX4) (T := TX4) (N := 6) (sp := (6, 12, 0, 0)) hx hb htl inX4 hown hK hG ht_a0 (by decide) tk_no rfl 3 (by decide) (htl _ mw_124) (fun _ h9 => h9) rfl dX4_doBegin_16 (fun v9 hf7 hV9 => ?_)
  obtain ⟨b8, rfl, ht_b8⟩ := hV9
  have ht_b8 : t b8 = (12, 0, 0) := ht_b8
  refine tk_get (ci := 11) (C := RX11) (T := TX11) (N := 3) (sp := (0, 0, 1, 0)) hx hb htl inX11 hown hK hG ht_b8 (by decide) tk_no rfl 1 (by decide) (htl _ mw_861) (fun _ h9 => h9) rfl dX4_doBegin_19 (fun v9 hf9 hV9 => ?_)
  obtain ⟨v10, rfl, (ha_v10 : 0 ≤ v10.toInt), (hb_v10 : v10.toInt ≤ 1)⟩ := hV9
  refine lv_istore (lv' := [(4, .int v10), (3, .int v5), (0, .ref a0), (1, .ref a1), (2, .int p2)]) hx hb dX4_doBegin_22 hl (by decide) rfl (fun ls hl => ?_)
  refine lv_aload_n hx hb dX4_doBegin_24 rfl (lv_at hl 2 rfl) ?_
  refine tk_get (ci := 4) (C := RX4) (T := TX4) (N := 6) (sp := (6, 12, 0, 0)) hx hb htl inX4 hown hK hG ht_a0 (by decide) tk_no rfl 3 (by decide) (htl _ mw_124) (fun _ h9 => h9) rfl dX4_doBegin_25 (fun v9 hf11 hV9 => ?_)
  obtain ⟨b12, rfl, ht_b12⟩ := hV9
  have ht_b12 : t b12 = (12, 0, 0) := ht_b12
  refine lv_aload_n hx hb dX4_doBegin_28 rfl (lv_at hl 3 rfl) ?_
  refine lv_aload_n hx hb dX4_doBegin_29 rfl (lv_at hl 3 rfl) ?_
  refine lv_iload_n hx hb dX4_doBegin_30 rfl (lv_at hl 4 rfl) ?_
  refine lv_iconst (v := 1) hx hb dX4_doBegin_31 (by decide) ?_
  have hk_1 : (1 : Int32).toInt = 1 := by decide
  refine tk_Vi (As := [.int p2, .int 1]) (rest := [.ref a1, .ref b12]) (ci := 7) ⟨hx, hb, hml, hown, hts⟩ hK hG hZ hS (k_X7_sumOf l D cy ld t 512 12 a1 p2 1 ht_a1) trivial ⟨callB_of 2 hts (wl_in mw_869) rfl rfl rfl (htl _ mw_131) (htl _ mw_866) hd_yX7_sumOf ⟨(Nat.le_of_ble_eq_true rfl), (Nat.le_of_ble_eq_true rfl)⟩, htl _ mw_867, htl _ mw_868⟩ ht_a1 (by decide) tk_no rfl (tk_w.pick [] rfl) rfl hl.1 rfl (Nat.le_of_ble_eq_true rfl) dX4_doBegin_32 ⟨(Nat.le_of_ble_eq_true rfl), (Nat.le_of_ble_eq_true rfl)⟩ (fun v13 H locs hpo hG hS hq9 => ?_)
  refine tk_Vi (As := [.ref a1, .int v13]) (rest := []) (ci := 11) ⟨hx, hb, hml, hown, hts⟩ hK hG hZ hS (k_X11_workOut l D cy ld t 512 12 b12 a1 v13 ht_b12 ht_a1) trivial ⟨callB_of 2 hts (wl_in mw_849) rfl rfl rfl (htl _ mw_95) (htl _ mw_846) hd_yX11_workOut ⟨(Nat.le_of_ble_eq_true rfl), (Nat.le_of_ble_eq_true rfl)⟩, htl _ mw_847, htl _ mw_848⟩ ht_b12 (by decide) tk_no rfl (tk_w.pick [0, 1] rfl) rfl hl.1 rfl (Nat.le_of_ble_eq_true rfl) dX4_doBegin_35 ⟨(Nat.le_of_ble_eq_true rfl), (Nat.le_of_ble_eq_true rfl)⟩ (fun v15 H locs hpo hG hS hq9 => ?_)
  refine lv_istore (lv' := [(5, .int v15), (4, .int v10), (3, .int v5), (0, .ref a0), (1, .ref a1), (2, .int p2)]) hx hb dX4_doBegin_38 hl (by decide) rfl (fun ls hl => ?_)
  refine lv_iload hx hb dX4_doBegin_40 (lv_at hl 1 rfl) ?_
  refine lv_aload_n hx hb dX4_doBegin_42 rfl (lv_at hl 3 rfl) ?_
  refine tk_get (ci := 4) (C := RX4) (T := TX4) (N := 6) (sp := (6, 12, 0, 0)) hx hb htl inX4 hown hK hG ht_a0 (by decide) tk_no rfl 3 (by decide) (htl _ mw_124) (fun _ h9 => h9) rfl dX4_doBegin_43 (fun v9 hf17 hV9 => ?_)
  obtain ⟨b18, rfl, ht_b18⟩ := hV9
  have ht_b18 : t b18 = (12, 0, 0) := ht_b18
  refine tk_get (ci := 11) (C := RX11) (T := TX11) (N := 3) (sp := (0, 0, 1, 0)) hx hb htl inX11 hown hK hG ht_b18 (by decide) tk_no rfl 1 (by decide) (htl _ mw_861) (fun _ h9 => h9) rfl dX4_doBegin_46 (fun v9 hf19 hV9 => ?_)
  obtain ⟨v20, rfl, (ha_v20 : 0 ≤ v20.toInt), (hb_v20 : v20.toInt ≤ 1)⟩ := hV9
  refine lv_ior hx hb dX4_doBegin_49 ?_
  refine tk_any (fun v21 => ?_)
  refine lv_istore (lv' := [(4, .int v21), (5, .int v15), (3, .int v5), (0, .ref a0), (1, .ref a1), (2, .int p2)]) hx hb dX4_doBegin_50 hl (by decide) rfl (fun ls hl => ?_)
  refine lv_aload_n hx hb dX4_doBegin_52 rfl (lv_at hl 3 rfl) ?_
  refine tk_get (ci := 4) (C := RX4) (T := TX4) (N := 6) (sp := (6, 12, 0, 0)) hx hb htl inX4 hown hK hG ht_a0 (by decide) tk_no rfl 3 (by decide) (htl _ mw_124) (fun _ h9 => h9) rfl dX4_doBegin_53 (fun v9 hf22 hV9 => ?_)
  obtain ⟨b23, rfl, ht_b23⟩ := hV9
  have ht_b23 : t b23 = (12, 0, 0) := ht_b23
  refine lv_aload_n hx hb dX4_doBegin_56 rfl (lv_at hl 4 rfl) ?_
  refine lv_aload_n hx hb dX4_doBegin_57 rfl (lv_at hl 4 rfl) ?_
  refine lv_iload_n hx hb dX4_doBegin_58 rfl (lv_at hl 5 rfl) ?_
  refine lv_iconst (v := 2) hx hb dX4_doBegin_59 (by decide) ?_
  have hk_2 : (2 : Int32).toInt = 2 := by decide
  refine tk_Vi (As := [.int p2, .int 2]) (rest := [.ref a1, .ref b23]) (ci := 7) ⟨hx, hb, hml, hown, hts⟩ hK hG hZ hS (k_X7_sumOf l D cy ld t 512 12 a1 p2 2 ht_a1) trivial ⟨callB_of 2 hts (wl_in mw_869) rfl rfl rfl (htl _ mw_131) (htl _ mw_866) hd_yX7_sumOf ⟨(Nat.le_of_ble_eq_true rfl), (Nat.le_of_ble_eq_true rfl)⟩, htl _ mw_867, htl _ mw_868⟩ ht_a1 (by decide) tk_no rfl (tk_w.pick [] rfl) rfl hl.1 rfl (Nat.le_of_ble_eq_true rfl) dX4_doBegin_60 ⟨(Nat.le_of_ble_eq_true rfl), (Nat.le_of_ble_eq_true rfl)⟩ (fun v24 H locs hpo hG hS hq9 => ?_)
  refine tk_Vi (As := [.ref a1, .int v24]) (rest := []) (ci := 11) ⟨hx, hb, hml, hown, hts⟩ hK hG hZ hS (k_X11_workOut l D cy ld t 512 12 b23 a1 v24 ht_b23 ht_a1) trivial ⟨callB_of 2 hts (wl_in mw_849) rfl rfl rfl (htl _ mw_95) (htl _ mw_846) hd_yX11_workOut ⟨(Nat.le_of_ble_eq_true rfl), (Nat.le_of_ble_eq_true rfl)⟩, htl _ mw_847, htl _ mw_848⟩ ht_b23 (by decide) tk_no rfl (tk_w.pick [0, 1] rfl) rfl hl.1 rfl (Nat.le_of_ble_eq_true rfl) dX4_doBegin_63 ⟨(Nat.le_of_ble_eq_true rfl), (Nat.le_of_ble_eq_true rfl)⟩ (fun v26 H locs hpo hG hS hq9 => ?_)
  refine lv_istore (lv' := [(6, .int v26), (4, .int v21), (5, .int v15), (3, .int v5), (0, .ref a0), (1, .ref a1), (2, .int p2)]) hx hb dX4_doBegin_66 hl (by decide) rfl (fun ls hl => ?_)
  refine lv_iload hx hb dX4_doBegin_68 (lv_at hl 1 rfl) ?_
  refine lv_aload_n hx hb dX4_doBegin_70 rfl (lv_at hl 4 rfl) ?_
  refine tk_get (ci := 4) (C := RX4) (T := TX4) (N := 6) (sp := (6, 12, 0, 0)) hx hb htl inX4 hown hK hG ht_a0 (by decide) tk_no rfl 3 (by decide) (htl _ mw_124) (fun _ h9 => h9) rfl dX4_doBegin_71 (fun v9 hf28 hV9 => ?_)
  obtain ⟨b29, rfl, ht_b29⟩ := hV9
  have ht_b29 : t b29 = (12, 0, 0) := ht_b29
  refine tk_get (ci := 11) (C := RX11) (T := TX11) (N := 3) (sp := (0, 0, 1, 0)) hx hb htl inX11 hown hK hG ht_b29 (by decide) tk_no rfl 1 (by decide) (htl _ mw_861) (fun _ h9 => h9) rfl dX4_doBegin_74 (fun v9 hf30 hV9 => ?_)
  obtain ⟨v31, rfl, (ha_v31 : 0 ≤ v31.toInt), (hb_v31 : v31.toInt ≤ 1)⟩ := hV9
  refine lv_ior hx hb dX4_doBegin_77 ?_
  refine tk_any (fun v32 => ?_)
  refine lv_istore (lv' := [(4, .int v32), (6, .int v26), (5, .int v15), (3, .int v5), (0, .ref a0), (1, .ref a1), (2, .int p2)]) hx hb dX4_doBegin_78 hl (by decide) rfl (fun ls hl => ?_)
  refine lv_iload hx hb dX4_doBegin_80 (lv_at hl 0 rfl) ?_
  refine lv_if_eq (tgt := 90) hx hb dX4_doBegin_82 (by decide) (fun c9 => ?_) (fun c9 => ?_)
  · have hc33 : v32.toInt = 0 := (fi_eq rfl (show (0 : Int32).toInt = 0 by decide)).mp c9
    refine lv_aload_n hx hb dX4_doBegin_90 rfl (lv_at hl 4 rfl) ?_
    refine tk_get (ci := 4) (C := RX4) (T := TX4) (N := 6) (sp := (6, 2, 0, 0)) hx hb htl inX4 hown hK hG ht_a0 (by decide) tk_no rfl 2 (by decide) (htl _ mw_123) (fun _ h9 => h9) rfl dX4_doBegin_91 (fun v9 hf34 hV9 => ?_)
    obtain ⟨b35, rfl, ht_b35⟩ := hV9
    have ht_b35 : t b35 = (2, 0, 0) := ht_b35
    refine lv_iload_n hx hb dX4_doBegin_94 rfl (lv_at hl 3 rfl) ?_
    refine lv_iload hx hb dX4_doBegin_95 (lv_at hl 2 rfl) ?_
    refine lv_iload hx hb dX4_doBegin_97 (lv_at hl 1 rfl) ?_
    refine tk_Vi (As := [.int v5, .int v15, .int v26]) (rest := []) (ci := 1) ⟨hx, hb, hml, hown, hts⟩ hK hG hZ hS (k_X1_openDuel l D cy ld t b35 v5 v15 v26 ht_b35) trivial ⟨callB_of 3 hts (wl_in mw_873) rfl rfl rfl (htl _ mw_25) (htl _ mw_870) hd_yX1_openDuel ⟨(Nat.le_of_ble_eq_true rfl), (Nat.le_of_ble_eq_true rfl)⟩, htl _ mw_871, htl _ mw_872⟩ ht_b35 (by decide) tk_no rfl (tk_w.pick [2, 3, 4, 1, 5] rfl) rfl hl.1 rfl (Nat.le_of_ble_eq_true rfl) dX4_doBegin_99 ⟨(Nat.le_of_ble_eq_true rfl), (Nat.le_of_ble_eq_true rfl)⟩ (fun v36 H locs hpo hG hS hq9 => ?_)
    obtain ⟨hpo38, hpo39⟩ := hpo
    exact tk_iret (v := v36) hx hb hr rfl hlocks (show (-3) ≤ v36.toInt ∧ v36.toInt ≤ 0 from ⟨(by omega), (by omega)⟩) hG hS dX4_doBegin_102
  · have hc33 : ¬ (v32.toInt = 0) := fun h9 => c9 ((fi_eq rfl (show (0 : Int32).toInt = 0 by decide)).mpr h9)
    refine lv_bipush (v := (-3)) hx hb dX4_doBegin_85 (by decide) ?_
    refine lv_goto (tgt := 102) hx hb dX4_doBegin_87 (by decide) ?_
    have hk_m3 : ((-3) : Int32).toInt = (-3) := by decide
    exact tk_iret (v := (-3)) hx hb hr rfl hlocks (show (-3) ≤ ((-3) : Int32).toInt ∧ ((-3) : Int32).toInt ≤ 0 from ⟨(by omega), (by omega)⟩) hG hS dX4_doBegin_102
theorem dX4_doDeed_0 : decode cX4_doDeed 0 = .ok (.aload_n 1, 1) := by decide +kernel
theorem dX4_doDeed_1 : decode cX4_doDeed 1 = .ok (.getfield 65, 3) := by decide +kernel
theorem dX4_doDeed_4 : decode cX4_doDeed 4 = .ok (.iload_n 2, 1) := by decide +kernel
theorem dX4_doDeed_5 : decode cX4_doDeed 5 = .ok (.iaload, 1) := by decide +kernel
theorem dX4_doDeed_6 : decode cX4_doDeed 6 = .ok (.istore_n 3, 1) := by decide +kernel
theorem dX4_doDeed_7 : decode cX4_doDeed 7 = .ok (.iload_n 3, 1) := by decide +kernel
theorem dX4_doDeed_8 : decode cX4_doDeed 8 = .ok (.ifCond .ne 10, 3) := by decide +kernel
theorem dX4_doDeed_18 : decode cX4_doDeed 18 = .ok (.iload_n 3, 1) := by decide +kernel
theorem dX4_doDeed_19 : decode cX4_doDeed 19 = .ok (.iconst 1, 1) := by decide +kernel
theorem dX4_doDeed_20 : decode cX4_doDeed 20 = .ok (.if_icmp .ne 50, 3) := by decide +kernel
theorem dX4_doDeed_70 : decode cX4_doDeed 70 = .ok (.iload_n 3, 1) := by decide +kernel
theorem dX4_doDeed_71 : decode cX4_doDeed 71 = .ok (.iconst 2, 1) := by decide +kernel
theorem dX4_doDeed_72 : decode cX4_doDeed 72 = .ok (.if_icmp .ne 13, 3) := by decide +kernel
theorem dX4_doDeed_85 : decode cX4_doDeed 85 = .ok (.aload_n 0, 1) := by decide +kernel
theorem dX4_doDeed_86 : decode cX4_doDeed 86 = .ok (.getfield 19, 3) := by decide +kernel
theorem dX4_doDeed_89 : decode cX4_doDeed 89 = .ok (.invokevirtual 87, 3) := by decide +kernel
theorem dX4_doDeed_92 : decode cX4_doDeed 92 = .ok (.ireturn, 1) := by decide +kernel
theorem dX4_doDeed_75 : decode cX4_doDeed 75 = .ok (.aload_n 0, 1) := by decide +kernel
theorem dX4_doDeed_76 : decode cX4_doDeed 76 = .ok (.getfield 19, 3) := by decide +kernel
theorem dX4_doDeed_79 : decode cX4_doDeed 79 = .ok (.invokevirtual 83, 3) := by decide +kernel
theorem dX4_doDeed_82 : decode cX4_doDeed 82 = .ok (.goto 10, 3) := by decide +kernel
theorem dX4_doDeed_23 : decode cX4_doDeed 23 = .ok (.aload_n 0, 1) := by decide +kernel
theorem dX4_doDeed_24 : decode cX4_doDeed 24 = .ok (.getfield 23, 3) := by decide +kernel
theorem dX4_doDeed_27 : decode cX4_doDeed 27 = .ok (.aload_n 1, 1) := by decide +kernel
theorem dX4_doDeed_28 : decode cX4_doDeed 28 = .ok (.aload_n 1, 1) := by decide +kernel
theorem dX4_doDeed_29 : decode cX4_doDeed 29 = .ok (.iload_n 2, 1) := by decide +kernel
theorem dX4_doDeed_30 : decode cX4_doDeed 30 = .ok (.iconst 0, 1) := by decide +kernel
theorem dX4_doDeed_31 : decode cX4_doDeed 31 = .ok (.invokevirtual 71, 3) := by decide +kernel
theorem dX4_doDeed_34 : decode cX4_doDeed 34 = .ok (.invokevirtual 53, 3) := by decide +kernel
theorem dX4_doDeed_37 : decode cX4_doDeed 37 = .ok (.istore 4, 2) := by decide +kernel
theorem dX4_doDeed_39 : decode cX4_doDeed 39 = .ok (.aload_n 0, 1) := by decide +kernel
theorem dX4_doDeed_40 : decode cX4_doDeed 40 = .ok (.getfield 23, 3) := by decide +kernel
theorem dX4_doDeed_43 : decode cX4_doDeed 43 = .ok (.getfield 75, 3) := by decide +kernel
theorem dX4_doDeed_46 : decode cX4_doDeed 46 = .ok (.ifCond .eq 6, 3) := by decide +kernel
theorem dX4_doDeed_52 : decode cX4_doDeed 52 = .ok (.aload_n 0, 1) := by decide +kernel
theorem dX4_doDeed_53 : decode cX4_doDeed 53 = .ok (.aload_n 0, 1) := by decide +kernel
theorem dX4_doDeed_54 : decode cX4_doDeed 54 = .ok (.getfield 19, 3) := by decide +kernel
theorem dX4_doDeed_57 : decode cX4_doDeed 57 = .ok (.iload 4, 2) := by decide +kernel
theorem dX4_doDeed_59 : decode cX4_doDeed 59 = .ok (.invokevirtual 79, 3) := by decide +kernel
theorem dX4_doDeed_62 : decode cX4_doDeed 62 = .ok (.putfield 35, 3) := by decide +kernel
theorem dX4_doDeed_65 : decode cX4_doDeed 65 = .ok (.aload_n 0, 1) := by decide +kernel
theorem dX4_doDeed_66 : decode cX4_doDeed 66 = .ok (.getfield 35, 3) := by decide +kernel
theorem dX4_doDeed_69 : decode cX4_doDeed 69 = .ok (.ireturn, 1) := by decide +kernel
theorem dX4_doDeed_49 : decode cX4_doDeed 49 = .ok (.bipush (-3), 2) := by decide +kernel
theorem dX4_doDeed_51 : decode cX4_doDeed 51 = .ok (.ireturn, 1) := by decide +kernel
theorem dX4_doDeed_11 : decode cX4_doDeed 11 = .ok (.aload_n 0, 1) := by decide +kernel
theorem dX4_doDeed_12 : decode cX4_doDeed 12 = .ok (.aload_n 1, 1) := by decide +kernel
theorem dX4_doDeed_13 : decode cX4_doDeed 13 = .ok (.iload_n 2, 1) := by decide +kernel
theorem dX4_doDeed_14 : decode cX4_doDeed 14 = .ok (.invokevirtual 68, 3) := by decide +kernel
theorem dX4_doDeed_17 : decode cX4_doDeed 17 = .ok (.ireturn, 1) := by decide +kernel
set_option maxHeartbeats 4000000 in
set_option maxRecDepth 100000 in
theorem k_X4_doDeed (l : Launch) (D : va_G) (cy : Nat → ClassId) (ld : Nat → Nat) (t : tk_T) (a0 : Nat) (a1 : Nat) (p2 : Int32) (ht_a0 : t a0 = (5, 0, 0)) (ht_a1 : t a1 = (8, 512, 12)) (hp_0 : 0 ≤ p2.toInt) (hp_1 : p2.toInt ≤ 11) : Met l yX4_doDeed (wl yX4_doDeed cX4_doDeed 5 (some .int)) ({ frames := 8, cells := 0, slots := 0, locals := 490 }) (tp D cy ld t [] [.ref a0, .ref a1, .int p2] (fun H => True)) (ti D cy ld t [] (fun r H => True) (tk_w t [(2, 0, 0), (20, 1, 1), (10, 1, 1), (20, 0, 0), (10, 0, 0), (12, 0, 0), (9, 0, 0), (5, 0, 0)])) 0 0 (tk_w t [(2, 0, 0), (20, 1, 1), (10, 1, 1), (20, 0, 0), (10, 0, 0), (12, 0, 0), (9, 0, 0), (5, 0, 0)]) := by
  refine tk_met (y := yX4_doDeed) (cc := cX4_doDeed) (maxL := 5) (ret := (some .int)) (av := [.ref a0, .ref a1, .int p2]) _ _ (by decide) (Nat.le_of_ble_eq_true rfl) ?_
  intro p e s m args below meth c hx hb hr hml hts htl hown hlocks hK H locs hH hG hS hB hZ ls hl
  have hown : s.vm.findClass RX4 = some m.cls := hown
  have hl : lv_has ls 5 [(0, .ref a0), (1, .ref a1), (2, .int p2)] := hl
  have hr_p2 := tk_rng p2
  refine lv_aload_n hx hb dX4_doDeed_0 rfl (lv_at hl 1 rfl) ?_
  refine tk_get (ci := 7) (C := RX7) (T := TX7) (N := 10) (sp := (3, 20, 1, 0)) hx hb htl inX7 hown hK hG ht_a1 (by decide) tk_no rfl 2 (by decide) (htl _ mw_860) (fun _ h9 => h9) rfl dX4_doDeed_1 (fun v9 hf1 hV9 => ?_)
  obtain ⟨b2, rfl, ht_b2⟩ := hV9
  have ht_b2 : t b2 = (20, 12, 0) := ht_b2
  refine lv_iload_n hx hb dX4_doDeed_4 rfl (lv_at hl 2 rfl) ?_
  refine tk_iald hx hb hK hG ht_b2 (by decide) (fun _ h => h) tk_no rfl (by omega) (by omega) dX4_doDeed_5 (fun v3 _ _ => ?_)
  have hr_v3 := tk_rng v3
  refine lv_istore_n (lv' := [(3, .int v3), (0, .ref a0), (1, .ref a1), (2, .int p2)]) hx hb dX4_doDeed_6 rfl hl (by decide) rfl (fun ls hl => ?_)
  refine lv_iload_n hx hb dX4_doDeed_7 rfl (lv_at hl 0 rfl) ?_
  refine lv_if_ne (tgt := 18) hx hb dX4_doDeed_8 (by decide) (fun c9 => ?_) (fun c9 => ?_)
  · have hc4 : ¬ (v3.toInt = 0) := fun h9 => c9 ((fi_eq rfl (show (0 : Int32).toInt = 0 by decide)).mpr h9)
    refine lv_iload_n hx hb dX4_doDeed_18 rfl (lv_at hl 0 rfl) ?_
    refine lv_iconst (v := 1) hx hb dX4_doDeed_19 (by decide) ?_
    refine lv_icmp_ne (tgt := 70) hx hb dX4_doDeed_20 (by decide) (fun c9 => ?_) (fun c9 => ?_)
    · have hc5 : ¬ (v3.toInt = 1) := fun h9 => c9 ((fi_eq rfl (show (1 : Int32).toInt = 1 by decide)).mpr h9)
      refine lv_iload_n hx hb dX4_doDeed_70 rfl (lv_at hl 0 rfl) ?_
      refine lv_iconst (v := 2) hx hb dX4_doDeed_71 (by decide) ?_
      refine lv_icmp_ne (tgt := 85) hx hb dX4_doDeed_72 (by decide) (fun c9 => ?_) (fun c9 => ?_)
      · have hc6 : ¬ (v3.toInt = 2) := fun h9 => c9 ((fi_eq rfl (show (2 : Int32).toInt = 2 by decide)).mpr h9)
        refine lv_aload_n hx hb dX4_doDeed_85 rfl (lv_at hl 1 rfl) ?_
        refine tk_get (ci := 4) (C := RX4) (T := TX4) (N := 6) (sp := (6, 2, 0, 0)) hx hb htl inX4 hown hK hG ht_a0 (by decide) tk_no rfl 2 (by decide) (htl _ mw_123) (fun _ h9 => h9) rfl dX4_doDeed_86 (fun v9 hf7 hV9 => ?_)
        obtain ⟨b8, rfl, ht_b8⟩ := hV9
        have ht_b8 : t b8 = (2, 0, 0) := ht_b8
        refine tk_Vi (As := []) (rest := []) (ci := 1) ⟨hx, hb, hml, hown, hts⟩ hK hG hZ hS (k_X1_nextDay l D cy ld t b8 ht_b8) trivial ⟨callB_of 0 hts (wl_in mw_990) rfl rfl rfl (htl _ mw_25) (htl _ mw_987) hd_yX1_nextDay ⟨(Nat.le_of_ble_eq_true rfl), (Nat.le_of_ble_eq_true rfl)⟩, htl _ mw_988, htl _ mw_989⟩ ht_b8 (by decide) tk_no rfl (tk_w.pick [0, 1, 2, 3, 4, 5, 6] rfl) rfl hl.1 rfl (Nat.le_of_ble_eq_true rfl) dX4_doDeed_89 ⟨(Nat.le_of_ble_eq_true rfl), (Nat.le_of_ble_eq_true rfl)⟩ (fun v9 H locs hpo hG hS hq9 => ?_)
        exact tk_iret (v := v9) hx hb hr rfl hlocks trivial hG hS dX4_doDeed_92
      · have hc6 : v3.toInt = 2 := (fi_eq rfl (show (2 : Int32).toInt = 2 by decide)).mp c9
        refine lv_aload_n hx hb dX4_doDeed_75 rfl (lv_at hl 1 rfl) ?_
        refine tk_get (ci := 4) (C := RX4) (T := TX4) (N := 6) (sp := (6, 2, 0, 0)) hx hb htl inX4 hown hK hG ht_a0 (by decide) tk_no rfl 2 (by decide) (htl _ mw_123) (fun _ h9 => h9) rfl dX4_doDeed_76 (fun v9 hf11 hV9 => ?_)
        obtain ⟨b12, rfl, ht_b12⟩ := hV9
        have ht_b12 : t b12 = (2, 0, 0) := ht_b12
        refine tk_Vi (As := []) (rest := []) (ci := 1) ⟨hx, hb, hml, hown, hts⟩ hK hG hZ hS (k_X1_leaveDuel l D cy ld t b12 ht_b12) trivial ⟨callB_of 0 hts (wl_in mw_984) rfl rfl rfl (htl _ mw_25) (htl _ mw_981) hd_yX1_leaveDuel ⟨(Nat.le_of_ble_eq_true rfl), (Nat.le_of_ble_eq_true rfl)⟩, htl _ mw_982, htl _ mw_983⟩ ht_b12 (by decide) tk_no rfl (tk_w.pick [0, 1, 2, 3, 4] rfl) rfl hl.1 rfl (Nat.le_of_ble_eq_true rfl) dX4_doDeed_79 ⟨(Nat.le_of_ble_eq_true rfl), (Nat.le_of_ble_eq_true rfl)⟩ (fun v13 H locs hpo hG hS hq9 => ?_)
        refine lv_goto (tgt := 92) hx hb dX4_doDeed_82 (by decide) ?_
        exact tk_iret (v := v13) hx hb hr rfl hlocks trivial hG hS dX4_doDeed_92
    · have hc5 : v3.toInt = 1 := (fi_eq rfl (show (1 : Int32).toInt = 1 by decide)).mp c9
      refine lv_aload_n hx hb dX4_doDeed_23 rfl (lv_at hl 1 rfl) ?_
      refine tk_get (ci := 4) (C := RX4) (T := TX4) (N := 6) (sp := (6, 12, 0, 0)) hx hb htl inX4 hown hK hG ht_a0 (by decide) tk_no rfl 3 (by decide) (htl _ mw_124) (fun _ h9 => h9) rfl dX4_doDeed_24 (fun v9 hf15 hV9 => ?_)
      obtain ⟨b16, rfl, ht_b16⟩ := hV9
      have ht_b16 : t b16 = (12, 0, 0) := ht_b16
      refine lv_aload_n hx hb dX4_doDeed_27 rfl (lv_at hl 2 rfl) ?_
      refine lv_aload_n hx hb dX4_doDeed_28 rfl (lv_at hl 2 rfl) ?_
      refine lv_iload_n hx hb dX4_doDeed_29 rfl (lv_at hl 3 rfl) ?_
      refine lv_iconst (v := 0) hx hb dX4_doDeed_30 (by decide) ?_
      have hk_0 : (0 : Int32).toInt = 0 := by decide
      refine tk_Vi (As := [.int p2, .int 0]) (rest := [.ref a1, .ref b16]) (ci := 7) ⟨hx, hb, hml, hown, hts⟩ hK hG hZ hS (k_X7_sumOf l D cy ld t 512 12 a1 p2 0 ht_a1) trivial ⟨callB_of 2 hts (wl_in mw_869) rfl rfl rfl (htl _ mw_131) (htl _ mw_866) hd_yX7_sumOf ⟨(Nat.le_of_ble_eq_true rfl), (Nat.le_of_ble_eq_true rfl)⟩, htl _ mw_867, htl _ mw_868⟩ ht_a1 (by decide) tk_no rfl (tk_w.pick [] rfl) rfl hl.1 rfl (Nat.le_of_ble_eq_true rfl) dX4_doDeed_31 ⟨(Nat.le_of_ble_eq_true rfl), (Nat.le_of_ble_eq_true rfl)⟩ (fun v17 H locs hpo hG hS hq9 => ?_)
      refine tk_Vi (As := [.ref a1, .int v17]) (rest := []) (ci := 11) ⟨hx, hb, hml, hown, hts⟩ hK hG hZ hS (k_X11_workOut l D cy ld t 512 12 b16 a1 v17 ht_b16 ht_a1) trivial ⟨callB_of 2 hts (wl_in mw_849) rfl rfl rfl (htl _ mw_95) (htl _ mw_846) hd_yX11_workOut ⟨(Nat.le_of_ble_eq_true rfl), (Nat.le_of_ble_eq_true rfl)⟩, htl _ mw_847, htl _ mw_848⟩ ht_b16 (by decide) tk_no rfl (tk_w.pick [5, 3] rfl) rfl hl.1 rfl (Nat.le_of_ble_eq_true rfl) dX4_doDeed_34 ⟨(Nat.le_of_ble_eq_true rfl), (Nat.le_of_ble_eq_true rfl)⟩ (fun v19 H locs hpo hG hS hq9 => ?_)
      refine lv_istore (lv' := [(4, .int v19), (3, .int v3), (0, .ref a0), (1, .ref a1), (2, .int p2)]) hx hb dX4_doDeed_37 hl (by decide) rfl (fun ls hl => ?_)
      refine lv_aload_n hx hb dX4_doDeed_39 rfl (lv_at hl 2 rfl) ?_
      refine tk_get (ci := 4) (C := RX4) (T := TX4) (N := 6) (sp := (6, 12, 0, 0)) hx hb htl inX4 hown hK hG ht_a0 (by decide) tk_no rfl 3 (by decide) (htl _ mw_124) (fun _ h9 => h9) rfl dX4_doDeed_40 (fun v9 hf21 hV9 => ?_)
      obtain ⟨b22, rfl, ht_b22⟩ := hV9
      have ht_b22 : t b22 = (12, 0, 0) := ht_b22
      refine tk_get (ci := 11) (C := RX11) (T := TX11) (N := 3) (sp := (0, 0, 1, 0)) hx hb htl inX11 hown hK hG ht_b22 (by decide) tk_no rfl 1 (by decide) (htl _ mw_861) (fun _ h9 => h9) rfl dX4_doDeed_43 (fun v9 hf23 hV9 => ?_)
      obtain ⟨v24, rfl, (ha_v24 : 0 ≤ v24.toInt), (hb_v24 : v24.toInt ≤ 1)⟩ := hV9
      refine lv_if_eq (tgt := 52) hx hb dX4_doDeed_46 (by decide) (fun c9 => ?_) (fun c9 => ?_)
      · have hc25 : v24.toInt = 0 := (fi_eq rfl (show (0 : Int32).toInt = 0 by decide)).mp c9
        refine lv_aload_n hx hb dX4_doDeed_52 rfl (lv_at hl 2 rfl) ?_
        refine lv_aload_n hx hb dX4_doDeed_53 rfl (lv_at hl 2 rfl) ?_
        refine tk_get (ci := 4) (C := RX4) (T := TX4) (N := 6) (sp := (6, 2, 0, 0)) hx hb htl inX4 hown hK hG ht_a0 (by decide) tk_no rfl 2 (by decide) (htl _ mw_123) (fun _ h9 => h9) rfl dX4_doDeed_54 (fun v9 hf26 hV9 => ?_)
        obtain ⟨b27, rfl, ht_b27⟩ := hV9
        have ht_b27 : t b27 = (2, 0, 0) := ht_b27
        refine lv_iload hx hb dX4_doDeed_57 (lv_at hl 0 rfl) ?_
        refine tk_Vi (As := [.int v19]) (rest := [.ref a0]) (ci := 1) ⟨hx, hb, hml, hown, hts⟩ hK hG hZ hS (k_X1_singVerse l D cy ld t b27 v19 ht_b27) trivial ⟨callB_of 1 hts (wl_in mw_896) rfl rfl rfl (htl _ mw_25) (htl _ mw_893) hd_yX1_singVerse ⟨(Nat.le_of_ble_eq_true rfl), (Nat.le_of_ble_eq_true rfl)⟩, htl _ mw_894, htl _ mw_895⟩ ht_b27 (by decide) tk_no rfl (tk_w.pick [3, 5, 6, 0, 1, 2, 4] rfl) rfl hl.1 rfl (Nat.le_of_ble_eq_true rfl) dX4_doDeed_59 ⟨(Nat.le_of_ble_eq_true rfl), (Nat.le_of_ble_eq_true rfl)⟩ (fun v28 H locs hpo hG hS hq9 => ?_)
        refine tk_put (ci := 4) (v := .int v28) (ty := .int) (C := RX4) (T := TX4) (N := 6) (sp := (0, (-2147483648), 2147483647, 0)) hx hb htl inX4 tyX4 tyX4_ok nmX4 hown hK hG hS ht_a0 (by decide) tk_no rfl 5 (by decide) (htl _ mw_806) (fun _ h9 => h9) rfl (tyX4_ok 5 (by decide)) rfl rfl rfl (tk_V0 (tk_rng _).1 (tk_rng _).2) (fun _ h => h) (tk_w.of ht_a0 (by decide) (List.mem_of_getElem? (i := 7) rfl) (Nat.le_refl _) (Nat.le_refl _)) dX4_doDeed_62 (fun H locs hG hS hf30 hq9 hj9 => ?_)
        refine lv_aload_n hx hb dX4_doDeed_65 rfl (lv_at hl 2 rfl) ?_
        refine tk_get (ci := 4) (C := RX4) (T := TX4) (N := 6) (sp := (0, (-2147483648), 2147483647, 0)) hx hb htl inX4 hown hK hG ht_a0 (by decide) tk_no rfl 5 (by decide) (htl _ mw_806) (fun _ h9 => h9) rfl dX4_doDeed_66 (fun v9 hf32 hV9 => ?_)
        obtain ⟨v33, rfl, (ha_v33 : (-2147483648) ≤ v33.toInt), (hb_v33 : v33.toInt ≤ 2147483647)⟩ := hV9
        exact tk_iret (v := v33) hx hb hr rfl hlocks trivial hG hS dX4_doDeed_69
      · have hc25 : ¬ (v24.toInt = 0) := fun h9 => c9 ((fi_eq rfl (show (0 : Int32).toInt = 0 by decide)).mpr h9)
        refine lv_bipush (v := (-3)) hx hb dX4_doDeed_49 (by decide) ?_
        have hk_m3 : ((-3) : Int32).toInt = (-3) := by decide
        exact tk_iret (v := (-3)) hx hb hr rfl hlocks trivial hG hS dX4_doDeed_51
  · have hc4 : v3.toInt = 0 := (fi_eq rfl (show (0 : Int32).toInt = 0 by decide)).mp c9
    refine lv_aload_n hx hb dX4_doDeed_11 rfl (lv_at hl 1 rfl) ?_
    refine lv_aload_n hx hb dX4_doDeed_12 rfl (lv_at hl 2 rfl) ?_
    refine lv_iload_n hx hb dX4_doDeed_13 rfl (lv_at hl 3 rfl) ?_
    refine tk_Vi (As := [.ref a1, .int p2]) (rest := []) (ci := 4) ⟨hx, hb, hml, hown, hts⟩ hK hG hZ hS (k_X4_doBegin l D cy ld t a0 a1 p2 ht_a0 ht_a1 (by omega) (by omega)) trivial ⟨callB_of 2 hts (wl_in mw_865) rfl rfl rfl (htl _ mw_29) (htl _ mw_862) hd_yX4_doBegin ⟨(Nat.le_of_ble_eq_true rfl), (Nat.le_of_ble_eq_true rfl)⟩, htl _ mw_863, htl _ mw_864⟩ ht_a0 (by decide) tk_no rfl (tk_w.pick [5, 3, 0, 1, 2, 4] rfl) rfl hl.1 rfl (Nat.le_of_ble_eq_true rfl) dX4_doDeed_14 ⟨(Nat.le_of_ble_eq_true rfl), (Nat.le_of_ble_eq_true rfl)⟩ (fun v34 H locs hpo hG hS hq9 => ?_)
    obtain ⟨hpo36, hpo37⟩ := hpo
    exact tk_iret (v := v34) hx hb hr rfl hlocks trivial hG hS dX4_doDeed_17
theorem dX4_setWords_0 : decode cX4_setWords 0 = .ok (.aload_n 0, 1) := by decide +kernel
theorem dX4_setWords_1 : decode cX4_setWords 1 = .ok (.getfield 15, 3) := by decide +kernel
theorem dX4_setWords_4 : decode cX4_setWords 4 = .ok (.getfield 94, 3) := by decide +kernel
theorem dX4_setWords_7 : decode cX4_setWords 7 = .ok (.astore_n 1, 1) := by decide +kernel
theorem dX4_setWords_8 : decode cX4_setWords 8 = .ok (.aload_n 0, 1) := by decide +kernel
theorem dX4_setWords_9 : decode cX4_setWords 9 = .ok (.getfield 23, 3) := by decide +kernel
theorem dX4_setWords_12 : decode cX4_setWords 12 = .ok (.getfield 100, 3) := by decide +kernel
theorem dX4_setWords_15 : decode cX4_setWords 15 = .ok (.astore_n 2, 1) := by decide +kernel
theorem dX4_setWords_16 : decode cX4_setWords 16 = .ok (.aload_n 2, 1) := by decide +kernel
theorem dX4_setWords_17 : decode cX4_setWords 17 = .ok (.iconst 0, 1) := by decide +kernel
theorem dX4_setWords_18 : decode cX4_setWords 18 = .ok (.aload_n 1, 1) := by decide +kernel
theorem dX4_setWords_19 : decode cX4_setWords 19 = .ok (.getfield 103, 3) := by decide +kernel
theorem dX4_setWords_22 : decode cX4_setWords 22 = .ok (.iastore, 1) := by decide +kernel
theorem dX4_setWords_23 : decode cX4_setWords 23 = .ok (.aload_n 2, 1) := by decide +kernel
theorem dX4_setWords_24 : decode cX4_setWords 24 = .ok (.iconst 1, 1) := by decide +kernel
theorem dX4_setWords_25 : decode cX4_setWords 25 = .ok (.aload_n 1, 1) := by decide +kernel
theorem dX4_setWords_26 : decode cX4_setWords 26 = .ok (.invokevirtual 108, 3) := by decide +kernel
theorem dX4_setWords_40 : decode cX4_setWords 40 = .ok (.iastore, 1) := by decide +kernel
theorem dX4_setWords_41 : decode cX4_setWords 41 = .ok (.aload_n 2, 1) := by decide +kernel
theorem dX4_setWords_42 : decode cX4_setWords 42 = .ok (.iconst 2, 1) := by decide +kernel
theorem dX4_setWords_43 : decode cX4_setWords 43 = .ok (.aload_n 1, 1) := by decide +kernel
theorem dX4_setWords_44 : decode cX4_setWords 44 = .ok (.invokevirtual 108, 3) := by decide +kernel
theorem dX4_setWords_58 : decode cX4_setWords 58 = .ok (.iastore, 1) := by decide +kernel
theorem dX4_setWords_59 : decode cX4_setWords 59 = .ok (.aload_n 2, 1) := by decide +kernel
theorem dX4_setWords_60 : decode cX4_setWords 60 = .ok (.iconst 3, 1) := by decide +kernel
theorem dX4_setWords_61 : decode cX4_setWords 61 = .ok (.aload_n 0, 1) := by decide +kernel
theorem dX4_setWords_62 : decode cX4_setWords 62 = .ok (.getfield 32, 3) := by decide +kernel
theorem dX4_setWords_65 : decode cX4_setWords 65 = .ok (.iastore, 1) := by decide +kernel
theorem dX4_setWords_66 : decode cX4_setWords 66 = .ok (.aload_n 2, 1) := by decide +kernel
theorem dX4_setWords_67 : decode cX4_setWords 67 = .ok (.iconst 4, 1) := by decide +kernel
theorem dX4_setWords_68 : decode cX4_setWords 68 = .ok (.aload_n 0, 1) := by decide +kernel
theorem dX4_setWords_69 : decode cX4_setWords 69 = .ok (.getfield 35, 3) := by decide +kernel
theorem dX4_setWords_72 : decode cX4_setWords 72 = .ok (.iastore, 1) := by decide +kernel
theorem dX4_setWords_73 : decode cX4_setWords 73 = .ok (.iconst 0, 1) := by decide +kernel
theorem dX4_setWords_74 : decode cX4_setWords 74 = .ok (.istore_n 3, 1) := by decide +kernel
theorem dX4_setWords_75 : decode cX4_setWords 75 = .ok (.iload_n 3, 1) := by decide +kernel
theorem dX4_setWords_76 : decode cX4_setWords 76 = .ok (.bipush 8, 2) := by decide +kernel
theorem dX4_setWords_78 : decode cX4_setWords 78 = .ok (.if_icmp .ge 35, 3) := by decide +kernel
theorem dX4_setWords_113 : decode cX4_setWords 113 = .ok (.aload_n 2, 1) := by decide +kernel
theorem dX4_setWords_114 : decode cX4_setWords 114 = .ok (.bipush 13, 2) := by decide +kernel
theorem dX4_setWords_116 : decode cX4_setWords 116 = .ok (.aload_n 1, 1) := by decide +kernel
theorem dX4_setWords_117 : decode cX4_setWords 117 = .ok (.getfield 125, 3) := by decide +kernel
theorem dX4_setWords_120 : decode cX4_setWords 120 = .ok (.iconst 0, 1) := by decide +kernel
theorem dX4_setWords_121 : decode cX4_setWords 121 = .ok (.iaload, 1) := by decide +kernel
theorem dX4_setWords_122 : decode cX4_setWords 122 = .ok (.iastore, 1) := by decide +kernel
theorem dX4_setWords_123 : decode cX4_setWords 123 = .ok (.aload_n 2, 1) := by decide +kernel
theorem dX4_setWords_124 : decode cX4_setWords 124 = .ok (.bipush 14, 2) := by decide +kernel
theorem dX4_setWords_126 : decode cX4_setWords 126 = .ok (.aload_n 1, 1) := by decide +kernel
theorem dX4_setWords_127 : decode cX4_setWords 127 = .ok (.getfield 125, 3) := by decide +kernel
theorem dX4_setWords_130 : decode cX4_setWords 130 = .ok (.iconst 1, 1) := by decide +kernel
theorem dX4_setWords_131 : decode cX4_setWords 131 = .ok (.iaload, 1) := by decide +kernel
theorem dX4_setWords_132 : decode cX4_setWords 132 = .ok (.iastore, 1) := by decide +kernel
theorem dX4_setWords_133 : decode cX4_setWords 133 = .ok (.return_, 1) := by decide +kernel
theorem dX4_setWords_81 : decode cX4_setWords 81 = .ok (.aload_n 2, 1) := by decide +kernel
theorem dX4_setWords_82 : decode cX4_setWords 82 = .ok (.iconst 5, 1) := by decide +kernel
theorem dX4_setWords_83 : decode cX4_setWords 83 = .ok (.iload_n 3, 1) := by decide +kernel
theorem dX4_setWords_84 : decode cX4_setWords 84 = .ok (.iadd, 1) := by decide +kernel
theorem dX4_setWords_85 : decode cX4_setWords 85 = .ok (.aload_n 0, 1) := by decide +kernel
theorem dX4_setWords_86 : decode cX4_setWords 86 = .ok (.getfield 15, 3) := by decide +kernel
theorem dX4_setWords_89 : decode cX4_setWords 89 = .ok (.iload_n 3, 1) := by decide +kernel
theorem dX4_setWords_90 : decode cX4_setWords 90 = .ok (.invokevirtual 118, 3) := by decide +kernel
theorem dX4_setWords_106 : decode cX4_setWords 106 = .ok (.iastore, 1) := by decide +kernel
theorem dX4_setWords_107 : decode cX4_setWords 107 = .ok (.iinc 3 1, 3) := by decide +kernel
theorem dX4_setWords_110 : decode cX4_setWords 110 = .ok (.goto (-35), 3) := by decide +kernel
theorem dX4_setWords_93 : decode cX4_setWords 93 = .ok (.ifCond .eq 12, 3) := by decide +kernel
theorem dX4_setWords_105 : decode cX4_setWords 105 = .ok (.iconst (-1), 1) := by decide +kernel
theorem dX4_setWords_96 : decode cX4_setWords 96 = .ok (.aload_n 1, 1) := by decide +kernel
theorem dX4_setWords_97 : decode cX4_setWords 97 = .ok (.getfield 122, 3) := by decide +kernel
theorem dX4_setWords_100 : decode cX4_setWords 100 = .ok (.iload_n 3, 1) := by decide +kernel
theorem dX4_setWords_101 : decode cX4_setWords 101 = .ok (.iaload, 1) := by decide +kernel
theorem dX4_setWords_102 : decode cX4_setWords 102 = .ok (.goto 4, 3) := by decide +kernel
theorem dX4_setWords_47 : decode cX4_setWords 47 = .ok (.ifCond .eq 10, 3) := by decide +kernel
theorem dX4_setWords_57 : decode cX4_setWords 57 = .ok (.iconst (-1), 1) := by decide +kernel
theorem dX4_setWords_50 : decode cX4_setWords 50 = .ok (.aload_n 1, 1) := by decide +kernel
theorem dX4_setWords_51 : decode cX4_setWords 51 = .ok (.invokevirtual 115, 3) := by decide +kernel
theorem dX4_setWords_54 : decode cX4_setWords 54 = .ok (.goto 4, 3) := by decide +kernel
theorem dX4_setWords_29 : decode cX4_setWords 29 = .ok (.ifCond .eq 10, 3) := by decide +kernel
theorem dX4_setWords_39 : decode cX4_setWords 39 = .ok (.iconst (-1), 1) := by decide +kernel
theorem dX4_setWords_32 : decode cX4_setWords 32 = .ok (.aload_n 1, 1) := by decide +kernel
theorem dX4_setWords_33 : decode cX4_setWords 33 = .ok (.getfield 112, 3) := by decide +kernel
theorem dX4_setWords_36 : decode cX4_setWords 36 = .ok (.goto 4, 3) := by decide +kernel
set_option maxHeartbeats 4000000 in
set_option maxRecDepth 100000 in
theorem k_X4_setWords (l : Launch) (D : va_G) (cy : Nat → ClassId) (ld : Nat → Nat) (t : tk_T) (a0 : Nat) (ht_a0 : t a0 = (5, 0, 0)) : Met l yX4_setWords (wl yX4_setWords cX4_setWords 4 none) ({ frames := 4, cells := 0, slots := 0, locals := 210 }) (tp D cy ld t [] [.ref a0] (fun H => True)) (tv D cy ld t [] (fun H => True) (tk_w t [(20, 0, 0)])) 0 0 (tk_w t [(20, 0, 0)]) := by
  refine tk_met (y := yX4_setWords) (cc := cX4_setWords) (maxL := 4) (ret := none) (av := [.ref a0]) _ _ (by decide) (Nat.le_of_ble_eq_true rfl) ?_
  intro p e s m args below meth c hx hb hr hml hts htl hown hlocks hK H locs hH hG hS hB hZ ls hl
  have hown : s.vm.findClass RX4 = some m.cls := hown
  have hl : lv_has ls 4 [(0, .ref a0)] := hl
  refine lv_aload_n hx hb dX4_setWords_0 rfl (lv_at hl 0 rfl) ?_
  refine tk_get (ci := 4) (C := RX4) (T := TX4) (N := 6) (sp := (8, 20, 3, 0)) hx hb htl inX4 hown hK hG ht_a0 (by decide) tk_no rfl 1 (by decide) (htl _ mw_122) (fun _ h9 => h9) rfl dX4_setWords_1 (fun v9 hf1 hV9 => ?_)
  obtain ⟨rfl, ht_ld20⟩ := hV9
  have ht_ld20 : t (ld 20) = (3, 0, 0) := ht_ld20
  refine fx_top (v := .ref (ld 20)) rfl ?_
  refine tk_get (ci := 2) (C := RX2) (T := TX2) (N := 20) (sp := (9, 40, 10, 0)) hx hb htl inX2 hown hK hG ht_ld20 (by decide) tk_no rfl 19 (by decide) (htl _ mw_831) (fun _ h9 => h9) rfl dX4_setWords_4 (fun v9 hf2 hV9 => ?_)
  obtain ⟨rfl, ht_ld40⟩ := hV9
  have ht_ld40 : t (ld 40) = (10, 0, 0) := ht_ld40
  refine fx_top (v := .ref (ld 40)) rfl ?_
  refine lv_astore_n (lv' := [(1, .ref (ld 40)), (0, .ref a0)]) hx hb dX4_setWords_7 rfl hl (by decide) rfl (fun ls hl => ?_)
  refine lv_aload_n hx hb dX4_setWords_8 rfl (lv_at hl 1 rfl) ?_
  refine tk_get (ci := 4) (C := RX4) (T := TX4) (N := 6) (sp := (6, 12, 0, 0)) hx hb htl inX4 hown hK hG ht_a0 (by decide) tk_no rfl 3 (by decide) (htl _ mw_124) (fun _ h9 => h9) rfl dX4_setWords_9 (fun v9 hf3 hV9 => ?_)
  obtain ⟨b4, rfl, ht_b4⟩ := hV9
  have ht_b4 : t b4 = (12, 0, 0) := ht_b4
  refine tk_get (ci := 11) (C := RX11) (T := TX11) (N := 3) (sp := (6, 20, 15, 0)) hx hb htl inX11 hown hK hG ht_b4 (by decide) tk_no rfl 0 (by decide) (htl _ mw_832) (fun _ h9 => h9) rfl dX4_setWords_12 (fun v9 hf5 hV9 => ?_)
  obtain ⟨b6, rfl, ht_b6⟩ := hV9
  have ht_b6 : t b6 = (20, 15, 0) := ht_b6
  refine lv_astore_n (lv' := [(2, .ref b6), (1, .ref (ld 40)), (0, .ref a0)]) hx hb dX4_setWords_15 rfl hl (by decide) rfl (fun ls hl => ?_)
  refine lv_aload_n hx hb dX4_setWords_16 rfl (lv_at hl 0 rfl) ?_
  refine lv_iconst (v := 0) hx hb dX4_setWords_17 (by decide) ?_
  refine lv_aload_n hx hb dX4_setWords_18 rfl (lv_at hl 1 rfl) ?_
  refine tk_get (ci := 9) (C := RX9) (T := TX9) (N := 11) (sp := (0, (-2147483648), 2147483647, 0)) hx hb htl inX9 hown hK hG ht_ld40 (by decide) tk_no rfl 4 (by decide) (htl _ mw_833) (fun _ h9 => h9) rfl dX4_setWords_19 (fun v9 hf7 hV9 => ?_)
  obtain ⟨v8, rfl, (ha_v8 : (-2147483648) ≤ v8.toInt), (hb_v8 : v8.toInt ≤ 2147483647)⟩ := hV9
  refine tk_iast hx hb hK hG hS ht_b6 (by decide) (fun _ => Iff.rfl) tk_no (I := 0) (by decide) (by decide) (by decide) trivial (tk_w.of ht_b6 (by decide) (List.mem_of_getElem? (i := 0) rfl) (Nat.le_refl _) (Nat.le_refl _)) dX4_setWords_22 (fun H locs hG hS hq9 => ?_)
  refine lv_aload_n hx hb dX4_setWords_23 rfl (lv_at hl 0 rfl) ?_
  refine lv_iconst (v := 1) hx hb dX4_setWords_24 (by decide) ?_
  refine lv_aload_n hx hb dX4_setWords_25 rfl (lv_at hl 1 rfl) ?_
  obtain ⟨v9, hf10, hV9⟩ := tk_peek (ci := 9) (C := RX9) (T := TX9) (N := 11) (sp := (0, (-1), 7, 0)) hG ht_ld40 (by decide) tk_no rfl 5 (by decide) rfl
  obtain ⟨v11, rfl, (ha_v11 : (-1) ≤ v11.toInt), (hb_v11 : v11.toInt ≤ 7)⟩ := hV9
  refine tk_Vi (As := []) (rest := [.int 1, .ref b6]) (ci := 9) ⟨hx, hb, hml, hown, hts⟩ hK hG hZ hS (k_X9_isDuel l D cy ld t 0 (ld 40) v11 ht_ld40 (by omega) (by omega)) hf10 ⟨callB_of 0 hts (wl_in mw_840) rfl rfl rfl (htl _ mw_76) (htl _ mw_837) hd_yX9_isDuel ⟨(Nat.le_of_ble_eq_true rfl), (Nat.le_of_ble_eq_true rfl)⟩, htl _ mw_838, htl _ mw_839⟩ ht_ld40 (by decide) tk_no rfl (tk_w.pick [] rfl) rfl hl.1 rfl (Nat.le_of_ble_eq_true rfl) dX4_setWords_26 ⟨(Nat.le_of_ble_eq_true rfl), (Nat.le_of_ble_eq_true rfl)⟩ (fun v12 H locs hpo hG hS hq9 => ?_)
  have hf10 := hf10.call hq9 tk_w.nil
  obtain ⟨hpo14, hpo15, hpo16, hpo17, hpo18⟩ := hpo
  have hj24 : ∀ (v23 : Int32), ∀ ls : Array Slot, lv_has ls 4 [(2, .ref b6), (1, .ref (ld 40)), (0, .ref a0)] → W p l e ({ frames := 4, cells := 0, slots := 0, locals := 210 }) s m args below meth c H locs 0 0 (MQ below (tv D cy ld t [] (fun H => True) (tk_w t [(20, 0, 0)])) args s 0 0 (tk_w t [(20, 0, 0)])) (F0 m 40 ls [.int v23, .int 1, .ref b6]) := by
    intro v23  ls hl
    refine tk_iast hx hb hK hG hS ht_b6 (by decide) (fun _ => Iff.rfl) tk_no (I := 1) (by decide) (by decide) (by decide) trivial (tk_w.of ht_b6 (by decide) (List.mem_of_getElem? (i := 0) rfl) (Nat.le_refl _) (Nat.le_refl _)) dX4_setWords_40 (fun H locs hG hS hq9 => ?_)
    have hf10 := hf10.kept (hq9 _ (tk_ne ht_ld40 ht_b6 (Or.inl (by decide))))
    refine lv_aload_n hx hb dX4_setWords_41 rfl (lv_at hl 0 rfl) ?_
    refine lv_iconst (v := 2) hx hb dX4_setWords_42 (by decide) ?_
    refine lv_aload_n hx hb dX4_setWords_43 rfl (lv_at hl 1 rfl) ?_
    refine tk_Vi (As := []) (rest := [.int 2, .ref b6]) (ci := 9) ⟨hx, hb, hml, hown, hts⟩ hK hG hZ hS (k_X9_isDuel l D cy ld t 0 (ld 40) v11 ht_ld40 (by omega) (by omega)) hf10 ⟨callB_of 0 hts (wl_in mw_840) rfl rfl rfl (htl _ mw_76) (htl _ mw_837) hd_yX9_isDuel ⟨(Nat.le_of_ble_eq_true rfl), (Nat.le_of_ble_eq_true rfl)⟩, htl _ mw_838, htl _ mw_839⟩ ht_ld40 (by decide) tk_no rfl (tk_w.pick [] rfl) rfl hl.1 rfl (Nat.le_of_ble_eq_true rfl) dX4_setWords_44 ⟨(Nat.le_of_ble_eq_true rfl), (Nat.le_of_ble_eq_true rfl)⟩ (fun v26 H locs hpo hG hS hq9 => ?_)
    have hf10 := hf10.call hq9 tk_w.nil
    obtain ⟨hpo28, hpo29, hpo30, hpo31, hpo32⟩ := hpo
    have hj43 : ∀ (v41 : Int32) (H : Heap) (locs : List Loc), (-1) ≤ v41.toInt → v41.toInt ≤ 7 → tk_G D cy ld t [] H → va_S (tk_w t [(20, 0, 0)]) s.heap H locs → tk_f D H (ld 40) 9 5 (.int v11) → ∀ ls : Array Slot, lv_has ls 4 [(2, .ref b6), (1, .ref (ld 40)), (0, .ref a0)] → W p l e ({ frames := 4, cells := 0, slots := 0, locals := 210 }) s m args below meth c H locs 0 0 (MQ below (tv D cy ld t [] (fun H => True) (tk_w t [(20, 0, 0)])) args s 0 0 (tk_w t [(20, 0, 0)])) (F0 m 58 ls [.int v41, .int 2, .ref b6]) := by
      intro v41 H locs hq0_j43 hq1_j43 hG hS hf10 ls hl
      refine tk_iast hx hb hK hG hS ht_b6 (by decide) (fun _ => Iff.rfl) tk_no (I := 2) (by decide) (by decide) (by decide) trivial (tk_w.of ht_b6 (by decide) (List.mem_of_getElem? (i := 0) rfl) (Nat.le_refl _) (Nat.le_refl _)) dX4_setWords_58 (fun H locs hG hS hq9 => ?_)
      have hf10 := hf10.kept (hq9 _ (tk_ne ht_ld40 ht_b6 (Or.inl (by decide))))
      refine lv_aload_n hx hb dX4_setWords_59 rfl (lv_at hl 0 rfl) ?_
      refine lv_iconst (v := 3) hx hb dX4_setWords_60 (by decide) ?_
      refine lv_aload_n hx hb dX4_setWords_61 rfl (lv_at hl 2 rfl) ?_
      refine tk_get (ci := 4) (C := RX4) (T := TX4) (N := 6) (sp := (0, (-2147483648), 2147483647, 0)) hx hb htl inX4 hown hK hG ht_a0 (by decide) tk_no rfl 4 (by decide) (htl _ mw_805) (fun _ h9 => h9) rfl dX4_setWords_62 (fun v9 hf45 hV9 => ?_)
      obtain ⟨v46, rfl, (ha_v46 : (-2147483648) ≤ v46.toInt), (hb_v46 : v46.toInt ≤ 2147483647)⟩ := hV9
      refine tk_iast hx hb hK hG hS ht_b6 (by decide) (fun _ => Iff.rfl) tk_no (I := 3) (by decide) (by decide) (by decide) trivial (tk_w.of ht_b6 (by decide) (List.mem_of_getElem? (i := 0) rfl) (Nat.le_refl _) (Nat.le_refl _)) dX4_setWords_65 (fun H locs hG hS hq9 => ?_)
      have hf10 := hf10.kept (hq9 _ (tk_ne ht_ld40 ht_b6 (Or.inl (by decide))))
      refine lv_aload_n hx hb dX4_setWords_66 rfl (lv_at hl 0 rfl) ?_
      refine lv_iconst (v := 4) hx hb dX4_setWords_67 (by decide) ?_
      refine lv_aload_n hx hb dX4_setWords_68 rfl (lv_at hl 2 rfl) ?_
      refine tk_get (ci := 4) (C := RX4) (T := TX4) (N := 6) (sp := (0, (-2147483648), 2147483647, 0)) hx hb htl inX4 hown hK hG ht_a0 (by decide) tk_no rfl 5 (by decide) (htl _ mw_806) (fun _ h9 => h9) rfl dX4_setWords_69 (fun v9 hf48 hV9 => ?_)
      obtain ⟨v49, rfl, (ha_v49 : (-2147483648) ≤ v49.toInt), (hb_v49 : v49.toInt ≤ 2147483647)⟩ := hV9
      refine tk_iast hx hb hK hG hS ht_b6 (by decide) (fun _ => Iff.rfl) tk_no (I := 4) (by decide) (by decide) (by decide) trivial (tk_w.of ht_b6 (by decide) (List.mem_of_getElem? (i := 0) rfl) (Nat.le_refl _) (Nat.le_refl _)) dX4_setWords_72 (fun H locs hG hS hq9 => ?_)
      have hf10 := hf10.kept (hq9 _ (tk_ne ht_ld40 ht_b6 (Or.inl (by decide))))
      refine lv_iconst (v := 0) hx hb dX4_setWords_73 (by decide) ?_
      refine lv_istore_n (lv' := [(3, .int 0), (2, .ref b6), (1, .ref (ld 40)), (0, .ref a0)]) hx hb dX4_setWords_74 rfl hl (by decide) rfl (fun ls hl => ?_)
      have hl380 : ∀ (N_l380 : Nat) (v51 : Int32) (H : Heap) (locs : List Loc), v51.toInt ≤ 8 → 0 ≤ v51.toInt → (-1) * v51.toInt + 8 < (N_l380 : Int) → tk_G D cy ld t [] H → va_S (tk_w t [(20, 0, 0)]) s.heap H locs → tk_f D H (ld 40) 9 5 (.int v11) → ∀ ls : Array Slot, lv_has ls 4 [(3, .int v51), (2, .ref b6), (1, .ref (ld 40)), (0, .ref a0)] → W p l e ({ frames := 4, cells := 0, slots := 0, locals := 210 }) s m args below meth c H locs 0 0 (MQ below (tv D cy ld t [] (fun H => True) (tk_w t [(20, 0, 0)])) args s 0 0 (tk_w t [(20, 0, 0)])) (F0 m 75 ls []) := by
        intro N_l380
        induction N_l380 with
        | zero => intro v51 H locs hq0_l380 hq1_l380 hm_l380 hG hS hf10 ls hl; exfalso; omega
        | succ N_l380 ih_l380 =>
          intro v51 H locs hq0_l380 hq1_l380 hm_l380 hG hS hf10 ls hl
          refine lv_iload_n hx hb dX4_setWords_75 rfl (lv_at hl 0 rfl) ?_
          refine lv_bipush (v := 8) hx hb dX4_setWords_76 (by decide) ?_
          refine lv_icmp_ge (tgt := 113) hx hb dX4_setWords_78 (by decide) (fun c9 => ?_) (fun c9 => ?_)
          · have hc381 : 8 ≤ v51.toInt := (fi_le (show (8 : Int32).toInt = 8 by decide) rfl).mp c9
            refine lv_aload_n hx hb dX4_setWords_113 rfl (lv_at hl 1 rfl) ?_
            refine lv_bipush (v := 13) hx hb dX4_setWords_114 (by decide) ?_
            refine lv_aload_n hx hb dX4_setWords_116 rfl (lv_at hl 2 rfl) ?_
            refine tk_get (ci := 9) (C := RX9) (T := TX9) (N := 11) (sp := (1, 20, 2, 0)) hx hb htl inX9 hown hK hG ht_ld40 (by decide) tk_no rfl 3 (by decide) (htl _ mw_836) (fun _ h9 => h9) rfl dX4_setWords_117 (fun v9 hf403 hV9 => ?_)
            obtain ⟨b404, rfl, ht_b404⟩ := hV9
            have ht_b404 : t b404 = (20, 2, 0) := ht_b404
            refine lv_iconst (v := 0) hx hb dX4_setWords_120 (by decide) ?_
            refine tk_iald hx hb hK hG ht_b404 (by decide) (fun _ h => h) tk_no (I := 0) (by decide) (by decide) (by decide) dX4_setWords_121 (fun v405 _ _ => ?_)
            have hr_v405 := tk_rng v405
            refine tk_iast hx hb hK hG hS ht_b6 (by decide) (fun _ => Iff.rfl) tk_no (I := 13) (by decide) (by decide) (by decide) trivial (tk_w.of ht_b6 (by decide) (List.mem_of_getElem? (i := 0) rfl) (Nat.le_refl _) (Nat.le_refl _)) dX4_setWords_122 (fun H locs hG hS hq9 => ?_)
            have hf10 := hf10.kept (hq9 _ (tk_ne ht_ld40 ht_b6 (Or.inl (by decide))))
            refine lv_aload_n hx hb dX4_setWords_123 rfl (lv_at hl 1 rfl) ?_
            refine lv_bipush (v := 14) hx hb dX4_setWords_124 (by decide) ?_
            refine lv_aload_n hx hb dX4_setWords_126 rfl (lv_at hl 2 rfl) ?_
            refine tk_get (ci := 9) (C := RX9) (T := TX9) (N := 11) (sp := (1, 20, 2, 0)) hx hb htl inX9 hown hK hG ht_ld40 (by decide) tk_no rfl 3 (by decide) (htl _ mw_836) (fun _ h9 => h9) rfl dX4_setWords_127 (fun v9 hf407 hV9 => ?_)
            obtain ⟨b408, rfl, ht_b408⟩ := hV9
            have ht_b408 : t b408 = (20, 2, 0) := ht_b408
            refine lv_iconst (v := 1) hx hb dX4_setWords_130 (by decide) ?_
            refine tk_iald hx hb hK hG ht_b408 (by decide) (fun _ h => h) tk_no (I := 1) (by decide) (by decide) (by decide) dX4_setWords_131 (fun v409 _ _ => ?_)
            have hr_v409 := tk_rng v409
            refine tk_iast hx hb hK hG hS ht_b6 (by decide) (fun _ => Iff.rfl) tk_no (I := 14) (by decide) (by decide) (by decide) trivial (tk_w.of ht_b6 (by decide) (List.mem_of_getElem? (i := 0) rfl) (Nat.le_refl _) (Nat.le_refl _)) dX4_setWords_132 (fun H locs hG hS hq9 => ?_)
            have hf10 := hf10.kept (hq9 _ (tk_ne ht_ld40 ht_b6 (Or.inl (by decide))))
            exact tk_vret hx hb hr hlocks trivial hG hS dX4_setWords_133
          · have hc381 : ¬ (8 ≤ v51.toInt) := fun h9 => c9 ((fi_le (show (8 : Int32).toInt = 8 by decide) rfl).mpr h9)
            refine lv_aload_n hx hb dX4_setWords_81 rfl (lv_at hl 1 rfl) ?_
            refine lv_iconst (v := 5) hx hb dX4_setWords_82 (by decide) ?_
            refine lv_iload_n hx hb dX4_setWords_83 rfl (lv_at hl 0 rfl) ?_
            refine lv_iadd hx hb dX4_setWords_84 ?_
            refine tk_add (show (5 : Int32).toInt = 5 by decide) rfl (by omega) (by omega) (fun v411 h_v411 => ?_)
            refine lv_aload_n hx hb dX4_setWords_85 rfl (lv_at hl 3 rfl) ?_
            refine tk_get (ci := 4) (C := RX4) (T := TX4) (N := 6) (sp := (8, 20, 3, 0)) hx hb htl inX4 hown hK hG ht_a0 (by decide) tk_no rfl 1 (by decide) (htl _ mw_122) (fun _ h9 => h9) rfl dX4_setWords_86 (fun v9 hf412 hV9 => ?_)
            obtain ⟨rfl, ht_ld20⟩ := hV9
            have ht_ld20 : t (ld 20) = (3, 0, 0) := ht_ld20
            refine fx_top (v := .ref (ld 20)) rfl ?_
            refine lv_iload_n hx hb dX4_setWords_89 rfl (lv_at hl 0 rfl) ?_
            refine tk_Vi (As := [.int v51]) (rest := [.int v411, .ref b6]) (ci := 2) ⟨hx, hb, hml, hown, hts⟩ hK hG hZ hS (k_X2_isSinger l D cy ld t (ld 20) v51 ht_ld20) trivial ⟨callB_of 1 hts (wl_in mw_311) rfl rfl rfl (htl _ mw_14) (htl _ mw_845) hd_yX2_isSinger ⟨(Nat.le_of_ble_eq_true rfl), (Nat.le_of_ble_eq_true rfl)⟩, htl _ mw_309, htl _ mw_310⟩ ht_ld20 (by decide) tk_no rfl (tk_w.pick [] rfl) rfl hl.1 rfl (Nat.le_of_ble_eq_true rfl) dX4_setWords_90 ⟨(Nat.le_of_ble_eq_true rfl), (Nat.le_of_ble_eq_true rfl)⟩ (fun v413 H locs hpo hG hS hq9 => ?_)
            have hf10 := hf10.call hq9 tk_w.nil
            obtain ⟨hpo415, hpo416, hpo417, hpo418, hpo419⟩ := hpo
            have hj426 : ∀ (v425 : Int32), ∀ ls : Array Slot, lv_has ls 4 [(3, .int v51), (2, .ref b6), (1, .ref (ld 40)), (0, .ref a0)] → W p l e ({ frames := 4, cells := 0, slots := 0, locals := 210 }) s m args below meth c H locs 0 0 (MQ below (tv D cy ld t [] (fun H => True) (tk_w t [(20, 0, 0)])) args s 0 0 (tk_w t [(20, 0, 0)])) (F0 m 106 ls [.int v425, .int v411, .ref b6]) := by
              intro v425  ls hl
              refine tk_iast hx hb hK hG hS ht_b6 (by decide) (fun _ => Iff.rfl) tk_no rfl (by omega) (by omega) trivial (tk_w.of ht_b6 (by decide) (List.mem_of_getElem? (i := 0) rfl) (Nat.le_refl _) (Nat.le_refl _)) dX4_setWords_106 (fun H locs hG hS hq9 => ?_)
              have hf10 := hf10.kept (hq9 _ (tk_ne ht_ld40 ht_b6 (Or.inl (by decide))))
              obtain ⟨v428, h_v428, e_v428⟩ := tk_inc v51 1 (by decide) (by omega) (by omega)
              refine lv_iinc (v := v428) (lv' := [(3, .int v428), (2, .ref b6), (1, .ref (ld 40)), (0, .ref a0)]) hx hb dX4_setWords_107 hl (k := 0) rfl e_v428 (by decide) rfl (fun ls hl => ?_)
              refine lv_goto (tgt := 75) hx hb dX4_setWords_110 (by decide) ?_
              exact ih_l380 v428 _ _ (by omega) (by omega) (by omega) hG hS hf10 _ (lv_sub hl [0, 1, 2, 3] rfl)
            refine lv_if_eq (tgt := 105) hx hb dX4_setWords_93 (by decide) (fun c9 => ?_) (fun c9 => ?_)
            · have hc420 : v413.toInt = 0 := (fi_eq rfl (show (0 : Int32).toInt = 0 by decide)).mp c9
              refine lv_iconst (v := (-1)) hx hb dX4_setWords_105 (by decide) ?_
              have hk_m1 : ((-1) : Int32).toInt = (-1) := by decide
              exact hj426 (-1) _ (lv_sub hl [0, 1, 2, 3] rfl)
            · have hc420 : ¬ (v413.toInt = 0) := fun h9 => c9 ((fi_eq rfl (show (0 : Int32).toInt = 0 by decide)).mpr h9)
              refine lv_aload_n hx hb dX4_setWords_96 rfl (lv_at hl 2 rfl) ?_
              refine tk_get (ci := 9) (C := RX9) (T := TX9) (N := 11) (sp := (1, 20, 8, 0)) hx hb htl inX9 hown hK hG ht_ld40 (by decide) tk_no rfl 0 (by decide) (htl _ mw_835) (fun _ h9 => h9) rfl dX4_setWords_97 (fun v9 hf429 hV9 => ?_)
              obtain ⟨b430, rfl, ht_b430⟩ := hV9
              have ht_b430 : t b430 = (20, 8, 0) := ht_b430
              refine lv_iload_n hx hb dX4_setWords_100 rfl (lv_at hl 0 rfl) ?_
              refine tk_iald hx hb hK hG ht_b430 (by decide) (fun _ h => h) tk_no rfl (by omega) (by omega) dX4_setWords_101 (fun v431 _ _ => ?_)
              have hr_v431 := tk_rng v431
              refine lv_goto (tgt := 106) hx hb dX4_setWords_102 (by decide) ?_
              exact hj426 v431 _ (lv_sub hl [0, 1, 2, 3] rfl)
      have hk_0 : (0 : Int32).toInt = 0 := by decide
      exact hl380 9 0 _ _ (by omega) (by omega) (by omega) hG hS hf10 _ (lv_sub hl [0, 1, 2, 3] rfl)
    refine lv_if_eq (tgt := 57) hx hb dX4_setWords_47 (by decide) (fun c9 => ?_) (fun c9 => ?_)
    · have hc33 : v26.toInt = 0 := (fi_eq rfl (show (0 : Int32).toInt = 0 by decide)).mp c9
      refine lv_iconst (v := (-1)) hx hb dX4_setWords_57 (by decide) ?_
      have hk_m1 : ((-1) : Int32).toInt = (-1) := by decide
      exact hj43 (-1) _ _ (by omega) (by omega) hG hS hf10 _ (lv_sub hl [0, 1, 2] rfl)
    · have hc33 : ¬ (v26.toInt = 0) := fun h9 => c9 ((fi_eq rfl (show (0 : Int32).toInt = 0 by decide)).mpr h9)
      refine lv_aload_n hx hb dX4_setWords_50 rfl (lv_at hl 1 rfl) ?_
      refine tk_Vi (As := []) (rest := [.int 2, .ref b6]) (ci := 9) ⟨hx, hb, hml, hown, hts⟩ hK hG hZ hS (k_X9_whoSings l D cy ld t 0 (ld 40) v11 ht_ld40 (by omega) (by omega)) hf10 ⟨callB_of 0 hts (wl_in mw_844) rfl rfl rfl (htl _ mw_76) (htl _ mw_841) hd_yX9_whoSings ⟨(Nat.le_of_ble_eq_true rfl), (Nat.le_of_ble_eq_true rfl)⟩, htl _ mw_842, htl _ mw_843⟩ ht_ld40 (by decide) tk_no rfl (tk_w.pick [] rfl) rfl hl.1 rfl (Nat.le_of_ble_eq_true rfl) dX4_setWords_51 ⟨(Nat.le_of_ble_eq_true rfl), (Nat.le_of_ble_eq_true rfl)⟩ (fun v432 H locs hpo hG hS hq9 => ?_)
      have hf10 := hf10.call hq9 tk_w.nil
      obtain ⟨hpo434, hpo435, hpo436⟩ := hpo
      refine lv_goto (tgt := 58) hx hb dX4_setWords_54 (by decide) ?_
      exact hj43 v432 _ _ (by omega) (by omega) hG hS hf10 _ (lv_sub hl [0, 1, 2] rfl)
  refine lv_if_eq (tgt := 39) hx hb dX4_setWords_29 (by decide) (fun c9 => ?_) (fun c9 => ?_)
  · have hc19 : v12.toInt = 0 := (fi_eq rfl (show (0 : Int32).toInt = 0 by decide)).mp c9
    refine lv_iconst (v := (-1)) hx hb dX4_setWords_39 (by decide) ?_
    have hk_m1 : ((-1) : Int32).toInt = (-1) := by decide
    exact hj24 (-1) _ (lv_sub hl [0, 1, 2] rfl)
  · have hc19 : ¬ (v12.toInt = 0) := fun h9 => c9 ((fi_eq rfl (show (0 : Int32).toInt = 0 by decide)).mpr h9)
    refine lv_aload_n hx hb dX4_setWords_32 rfl (lv_at hl 1 rfl) ?_
    refine tk_get (ci := 9) (C := RX9) (T := TX9) (N := 11) (sp := (0, (-2147483648), 2147483647, 0)) hx hb htl inX9 hown hK hG ht_ld40 (by decide) tk_no rfl 8 (by decide) (htl _ mw_834) (fun _ h9 => h9) rfl dX4_setWords_33 (fun v9 hf437 hV9 => ?_)
    obtain ⟨v438, rfl, (ha_v438 : (-2147483648) ≤ v438.toInt), (hb_v438 : v438.toInt ≤ 2147483647)⟩ := hV9
    refine lv_goto (tgt := 40) hx hb dX4_setWords_36 (by decide) ?_
    exact hj24 v438 _ (lv_sub hl [0, 1, 2] rfl)
theorem dX4_run_0 : decode cX4_run 0 = .ok (.aload_n 0, 1) := by decide +kernel
theorem dX4_run_1 : decode cX4_run 1 = .ok (.getfield 19, 3) := by decide +kernel
theorem dX4_run_4 : decode cX4_run 4 = .ok (.invokevirtual 27, 3) := by decide +kernel
theorem dX4_run_7 : decode cX4_run 7 = .ok (.aload_n 0, 1) := by decide +kernel
theorem dX4_run_8 : decode cX4_run 8 = .ok (.iconst 0, 1) := by decide +kernel
theorem dX4_run_9 : decode cX4_run 9 = .ok (.putfield 32, 3) := by decide +kernel
theorem dX4_run_12 : decode cX4_run 12 = .ok (.aload_n 0, 1) := by decide +kernel
theorem dX4_run_13 : decode cX4_run 13 = .ok (.iconst (-1), 1) := by decide +kernel
theorem dX4_run_14 : decode cX4_run 14 = .ok (.putfield 35, 3) := by decide +kernel
theorem dX4_run_17 : decode cX4_run 17 = .ok (.iconst 0, 1) := by decide +kernel
theorem dX4_run_18 : decode cX4_run 18 = .ok (.istore_n 2, 1) := by decide +kernel
theorem dX4_run_19 : decode cX4_run 19 = .ok (.iload_n 2, 1) := by decide +kernel
theorem dX4_run_20 : decode cX4_run 20 = .ok (.aload_n 1, 1) := by decide +kernel
theorem dX4_run_21 : decode cX4_run 21 = .ok (.getfield 38, 3) := by decide +kernel
theorem dX4_run_24 : decode cX4_run 24 = .ok (.if_icmp .ge 95, 3) := by decide +kernel
theorem dX4_run_119 : decode cX4_run 119 = .ok (.aload_n 0, 1) := by decide +kernel
theorem dX4_run_120 : decode cX4_run 120 = .ok (.getfield 32, 3) := by decide +kernel
theorem dX4_run_123 : decode cX4_run 123 = .ok (.ireturn, 1) := by decide +kernel
theorem dX4_run_27 : decode cX4_run 27 = .ok (.iconst 0, 1) := by decide +kernel
theorem dX4_run_28 : decode cX4_run 28 = .ok (.istore_n 3, 1) := by decide +kernel
theorem dX4_run_29 : decode cX4_run 29 = .ok (.iload_n 3, 1) := by decide +kernel
theorem dX4_run_30 : decode cX4_run 30 = .ok (.aload_n 1, 1) := by decide +kernel
theorem dX4_run_31 : decode cX4_run 31 = .ok (.getfield 43, 3) := by decide +kernel
theorem dX4_run_34 : decode cX4_run 34 = .ok (.iload_n 2, 1) := by decide +kernel
theorem dX4_run_35 : decode cX4_run 35 = .ok (.iaload, 1) := by decide +kernel
theorem dX4_run_36 : decode cX4_run 36 = .ok (.if_icmp .ge 77, 3) := by decide +kernel
theorem dX4_run_113 : decode cX4_run 113 = .ok (.iinc 2 1, 3) := by decide +kernel
theorem dX4_run_116 : decode cX4_run 116 = .ok (.goto (-97), 3) := by decide +kernel
theorem dX4_run_39 : decode cX4_run 39 = .ok (.aload_n 0, 1) := by decide +kernel
theorem dX4_run_40 : decode cX4_run 40 = .ok (.invokevirtual 47, 3) := by decide +kernel
theorem dX4_run_43 : decode cX4_run 43 = .ok (.aload_n 1, 1) := by decide +kernel
theorem dX4_run_44 : decode cX4_run 44 = .ok (.getfield 50, 3) := by decide +kernel
theorem dX4_run_47 : decode cX4_run 47 = .ok (.iload_n 2, 1) := by decide +kernel
theorem dX4_run_48 : decode cX4_run 48 = .ok (.iaload, 1) := by decide +kernel
theorem dX4_run_49 : decode cX4_run 49 = .ok (.istore 4, 2) := by decide +kernel
theorem dX4_run_51 : decode cX4_run 51 = .ok (.iload 4, 2) := by decide +kernel
theorem dX4_run_53 : decode cX4_run 53 = .ok (.iconst (-1), 1) := by decide +kernel
theorem dX4_run_54 : decode cX4_run 54 = .ok (.if_icmp .eq 19, 3) := by decide +kernel
theorem dX4_run_73 : decode cX4_run 73 = .ok (.aload_n 0, 1) := by decide +kernel
theorem dX4_run_74 : decode cX4_run 74 = .ok (.aload_n 1, 1) := by decide +kernel
theorem dX4_run_75 : decode cX4_run 75 = .ok (.iload_n 2, 1) := by decide +kernel
theorem dX4_run_76 : decode cX4_run 76 = .ok (.invokevirtual 59, 3) := by decide +kernel
theorem dX4_run_79 : decode cX4_run 79 = .ok (.ifCond .ge 18, 3) := by decide +kernel
theorem dX4_run_97 : decode cX4_run 97 = .ok (.aload_n 0, 1) := by decide +kernel
theorem dX4_run_98 : decode cX4_run 98 = .ok (.dup, 1) := by decide +kernel
theorem dX4_run_99 : decode cX4_run 99 = .ok (.getfield 32, 3) := by decide +kernel
theorem dX4_run_102 : decode cX4_run 102 = .ok (.iconst 1, 1) := by decide +kernel
theorem dX4_run_103 : decode cX4_run 103 = .ok (.iadd, 1) := by decide +kernel
theorem dX4_run_104 : decode cX4_run 104 = .ok (.putfield 32, 3) := by decide +kernel
theorem dX4_run_107 : decode cX4_run 107 = .ok (.iinc 3 1, 3) := by decide +kernel
theorem dX4_run_110 : decode cX4_run 110 = .ok (.goto (-81), 3) := by decide +kernel
theorem dX4_run_82 : decode cX4_run 82 = .ok (.aload_n 0, 1) := by decide +kernel
theorem dX4_run_83 : decode cX4_run 83 = .ok (.iload_n 2, 1) := by decide +kernel
theorem dX4_run_84 : decode cX4_run 84 = .ok (.putfield 11, 3) := by decide +kernel
theorem dX4_run_87 : decode cX4_run 87 = .ok (.aload_n 0, 1) := by decide +kernel
theorem dX4_run_88 : decode cX4_run 88 = .ok (.getfield 19, 3) := by decide +kernel
theorem dX4_run_91 : decode cX4_run 91 = .ok (.invokevirtual 62, 3) := by decide +kernel
theorem dX4_run_94 : decode cX4_run 94 = .ok (.bipush (-3), 2) := by decide +kernel
theorem dX4_run_96 : decode cX4_run 96 = .ok (.ireturn, 1) := by decide +kernel
theorem dX4_run_57 : decode cX4_run 57 = .ok (.aload_n 0, 1) := by decide +kernel
theorem dX4_run_58 : decode cX4_run 58 = .ok (.getfield 23, 3) := by decide +kernel
theorem dX4_run_61 : decode cX4_run 61 = .ok (.aload_n 1, 1) := by decide +kernel
theorem dX4_run_62 : decode cX4_run 62 = .ok (.iload 4, 2) := by decide +kernel
theorem dX4_run_64 : decode cX4_run 64 = .ok (.invokevirtual 53, 3) := by decide +kernel
theorem dX4_run_67 : decode cX4_run 67 = .ok (.ifCond .ne 6, 3) := by decide +kernel
theorem dX4_run_70 : decode cX4_run 70 = .ok (.goto 37, 3) := by decide +kernel
set_option maxHeartbeats 4000000 in
set_option maxRecDepth 100000 in
theorem k_X4_run (l : Launch) (D : va_G) (cy : Nat → ClassId) (ld : Nat → Nat) (t : tk_T) (a0 : Nat) (a1 : Nat) (ht_a0 : t a0 = (5, 0, 0)) (ht_a1 : t a1 = (8, 512, 12)) : Met l yX4_run (wl yX4_run cX4_run 5 (some .int)) ({ frames := 9, cells := 0, slots := 0, locals := 560 }) (tp D cy ld t [] [.ref a0, .ref a1] (fun H => True)) (ti D cy ld t [] (fun r H => True) (tk_w t [(20, 2, 2), (10, 2, 2), (2, 0, 0), (20, 3, 3), (10, 3, 3), (20, 0, 0), (5, 0, 0), (20, 1, 1), (10, 1, 1), (10, 0, 0), (12, 0, 0), (9, 0, 0)])) 0 0 (tk_w t [(20, 2, 2), (10, 2, 2), (2, 0, 0), (20, 3, 3), (10, 3, 3), (20, 0, 0), (5, 0, 0), (20, 1, 1), (10, 1, 1), (10, 0, 0), (12, 0, 0), (9, 0, 0)]) := by
  refine tk_met (y := yX4_run) (cc := cX4_run) (maxL := 5) (ret := (some .int)) (av := [.ref a0, .ref a1]) _ _ (by decide) (Nat.le_of_ble_eq_true rfl) ?_
  intro p e s m args below meth c hx hb hr hml hts htl hown hlocks hK H locs hH hG hS hB hZ ls hl
  have hown : s.vm.findClass RX4 = some m.cls := hown
  have hl : lv_has ls 5 [(0, .ref a0), (1, .ref a1)] := hl
  refine lv_aload_n hx hb dX4_run_0 rfl (lv_at hl 0 rfl) ?_
  refine tk_get (ci := 4) (C := RX4) (T := TX4) (N := 6) (sp := (6, 2, 0, 0)) hx hb htl inX4 hown hK hG ht_a0 (by decide) tk_no rfl 2 (by decide) (htl _ mw_123) (fun _ h9 => h9) rfl dX4_run_1 (fun v9 hf1 hV9 => ?_)
  obtain ⟨b2, rfl, ht_b2⟩ := hV9
  have ht_b2 : t b2 = (2, 0, 0) := ht_b2
  refine tk_Vv (As := []) (rest := []) (ci := 1) ⟨hx, hb, hml, hown, hts⟩ hK hG hZ hS (k_X1_save l D cy ld t b2 ht_b2) trivial ⟨callB_of 0 hts (wl_in mw_813) rfl rfl rfl (htl _ mw_25) (htl _ mw_810) hd_yX1_save ⟨(Nat.le_of_ble_eq_true rfl), (Nat.le_of_ble_eq_true rfl)⟩, htl _ mw_811, htl _ mw_812⟩ ht_b2 (by decide) tk_no rfl (tk_w.pick [0, 1, 2, 3, 4, 5] rfl) rfl hl.1 rfl (Nat.le_of_ble_eq_true rfl) dX4_run_4 ⟨(Nat.le_of_ble_eq_true rfl), (Nat.le_of_ble_eq_true rfl)⟩ (fun H locs hpo hG hS hq9 => ?_)
  refine lv_aload_n hx hb dX4_run_7 rfl (lv_at hl 0 rfl) ?_
  refine lv_iconst (v := 0) hx hb dX4_run_8 (by decide) ?_
  refine tk_put (ci := 4) (v := .int 0) (ty := .int) (C := RX4) (T := TX4) (N := 6) (sp := (0, (-2147483648), 2147483647, 0)) hx hb htl inX4 tyX4 tyX4_ok nmX4 hown hK hG hS ht_a0 (by decide) tk_no rfl 4 (by decide) (htl _ mw_805) (fun _ h9 => h9) rfl (tyX4_ok 4 (by decide)) rfl rfl rfl (tk_V0 (tk_rng _).1 (tk_rng _).2) (fun _ h => h) (tk_w.of ht_a0 (by decide) (List.mem_of_getElem? (i := 6) rfl) (Nat.le_refl _) (Nat.le_refl _)) dX4_run_9 (fun H locs hG hS hf4 hq9 hj9 => ?_)
  refine lv_aload_n hx hb dX4_run_12 rfl (lv_at hl 0 rfl) ?_
  refine lv_iconst (v := (-1)) hx hb dX4_run_13 (by decide) ?_
  refine tk_put (ci := 4) (v := .int (-1)) (ty := .int) (C := RX4) (T := TX4) (N := 6) (sp := (0, (-2147483648), 2147483647, 0)) hx hb htl inX4 tyX4 tyX4_ok nmX4 hown hK hG hS ht_a0 (by decide) tk_no rfl 5 (by decide) (htl _ mw_806) (fun _ h9 => h9) rfl (tyX4_ok 5 (by decide)) rfl rfl rfl (tk_V0 (tk_rng _).1 (tk_rng _).2) (fun _ h => h) (tk_w.of ht_a0 (by decide) (List.mem_of_getElem? (i := 6) rfl) (Nat.le_refl _) (Nat.le_refl _)) dX4_run_14 (fun H locs hG hS hf6 hq9 hj9 => ?_)
  refine lv_iconst (v := 0) hx hb dX4_run_17 (by decide) ?_
  refine lv_istore_n (lv' := [(2, .int 0), (0, .ref a0), (1, .ref a1)]) hx hb dX4_run_18 rfl hl (by decide) rfl (fun ls hl => ?_)
  have hl2530 : ∀ (N_l2530 : Nat) (v8 : Int32) (H : Heap) (locs : List Loc), v8.toInt ≤ 12 → 0 ≤ v8.toInt → (-1) * v8.toInt + 12 < (N_l2530 : Int) → tk_G D cy ld t [] H → va_S (tk_w t [(20, 2, 2), (10, 2, 2), (2, 0, 0), (20, 3, 3), (10, 3, 3), (20, 0, 0), (5, 0, 0), (20, 1, 1), (10, 1, 1), (10, 0, 0), (12, 0, 0), (9, 0, 0)]) s.heap H locs → ∀ ls : Array Slot, lv_has ls 5 [(2, .int v8), (0, .ref a0), (1, .ref a1)] → W p l e ({ frames := 9, cells := 0, slots := 0, locals := 560 }) s m args below meth c H locs 0 0 (MQ below (ti D cy ld t [] (fun r H => True) (tk_w t [(20, 2, 2), (10, 2, 2), (2, 0, 0), (20, 3, 3), (10, 3, 3), (20, 0, 0), (5, 0, 0), (20, 1, 1), (10, 1, 1), (10, 0, 0), (12, 0, 0), (9, 0, 0)])) args s 0 0 (tk_w t [(20, 2, 2), (10, 2, 2), (2, 0, 0), (20, 3, 3), (10, 3, 3), (20, 0, 0), (5, 0, 0), (20, 1, 1), (10, 1, 1), (10, 0, 0), (12, 0, 0), (9, 0, 0)])) (F0 m 19 ls []) := by
    intro N_l2530
    induction N_l2530 with
    | zero => intro v8 H locs hq0_l2530 hq1_l2530 hm_l2530 hG hS ls hl; exfalso; omega
    | succ N_l2530 ih_l2530 =>
      intro v8 H locs hq0_l2530 hq1_l2530 hm_l2530 hG hS ls hl
      refine lv_iload_n hx hb dX4_run_19 rfl (lv_at hl 0 rfl) ?_
      refine lv_aload_n hx hb dX4_run_20 rfl (lv_at hl 2 rfl) ?_
      refine tk_get (ci := 7) (C := RX7) (T := TX7) (N := 10) (sp := (5, 0, 0, 0)) hx hb htl inX7 hown hK hG ht_a1 (by decide) tk_no rfl 7 (by decide) (htl _ mw_807) (fun _ h9 => h9) rfl dX4_run_21 (fun v9 hf2531 hV9 => ?_)
      obtain ⟨v2532, rfl, (ha_v2532 : 0 ≤ v2532.toInt), (hb_v2532 : v2532.toInt ≤ 12)⟩ := hV9
      refine lv_icmp_ge (tgt := 119) hx hb dX4_run_24 (by decide) (fun c9 => ?_) (fun c9 => ?_)
      · have hc2533 : v2532.toInt ≤ v8.toInt := (fi_le rfl rfl).mp c9
        refine lv_aload_n hx hb dX4_run_119 rfl (lv_at hl 1 rfl) ?_
        refine tk_get (ci := 4) (C := RX4) (T := TX4) (N := 6) (sp := (0, (-2147483648), 2147483647, 0)) hx hb htl inX4 hown hK hG ht_a0 (by decide) tk_no rfl 4 (by decide) (htl _ mw_805) (fun _ h9 => h9) rfl dX4_run_120 (fun v9 hf2534 hV9 => ?_)
        obtain ⟨v2535, rfl, (ha_v2535 : (-2147483648) ≤ v2535.toInt), (hb_v2535 : v2535.toInt ≤ 2147483647)⟩ := hV9
        exact tk_iret (v := v2535) hx hb hr rfl hlocks trivial hG hS dX4_run_123
      · have hc2533 : ¬ (v2532.toInt ≤ v8.toInt) := fun h9 => c9 ((fi_le rfl rfl).mpr h9)
        refine lv_iconst (v := 0) hx hb dX4_run_27 (by decide) ?_
        refine lv_istore_n (lv' := [(3, .int 0), (2, .int v8), (0, .ref a0), (1, .ref a1)]) hx hb dX4_run_28 rfl hl (by decide) rfl (fun ls hl => ?_)
        have hl2846 : ∀ (N_l2846 : Nat) (v2536 : Int32) (H : Heap) (locs : List Loc), v2536.toInt ≤ 20 → 0 ≤ v2536.toInt → (-1) * v2536.toInt + 20 < (N_l2846 : Int) → tk_G D cy ld t [] H → va_S (tk_w t [(20, 2, 2), (10, 2, 2), (2, 0, 0), (20, 3, 3), (10, 3, 3), (20, 0, 0), (5, 0, 0), (20, 1, 1), (10, 1, 1), (10, 0, 0), (12, 0, 0), (9, 0, 0)]) s.heap H locs → tk_f D H a1 7 7 (.int v2532) → ∀ ls : Array Slot, lv_has ls 5 [(3, .int v2536), (2, .int v8), (0, .ref a0), (1, .ref a1)] → W p l e ({ frames := 9, cells := 0, slots := 0, locals := 560 }) s m args below meth c H locs 0 0 (MQ below (ti D cy ld t [] (fun r H => True) (tk_w t [(20, 2, 2), (10, 2, 2), (2, 0, 0), (20, 3, 3), (10, 3, 3), (20, 0, 0), (5, 0, 0), (20, 1, 1), (10, 1, 1), (10, 0, 0), (12, 0, 0), (9, 0, 0)])) args s 0 0 (tk_w t [(20, 2, 2), (10, 2, 2), (2, 0, 0), (20, 3, 3), (10, 3, 3), (20, 0, 0), (5, 0, 0), (20, 1, 1), (10, 1, 1), (10, 0, 0), (12, 0, 0), (9, 0, 0)])) (F0 m 29 ls []) := by
          intro N_l2846
          induction N_l2846 with
          | zero => intro v2536 H locs hq0_l2846 hq1_l2846 hm_l2846 hG hS hf2531 ls hl; exfalso; omega
          | succ N_l2846 ih_l2846 =>
            intro v2536 H locs hq0_l2846 hq1_l2846 hm_l2846 hG hS hf2531 ls hl
            refine lv_iload_n hx hb dX4_run_29 rfl (lv_at hl 0 rfl) ?_
            refine lv_aload_n hx hb dX4_run_30 rfl (lv_at hl 3 rfl) ?_
            refine tk_get (ci := 7) (C := RX7) (T := TX7) (N := 10) (sp := (3, 23, 1, 0)) hx hb htl inX7 hown hK hG ht_a1 (by decide) tk_no rfl 3 (by decide) (htl _ mw_808) (fun _ h9 => h9) rfl dX4_run_31 (fun v9 hf2847 hV9 => ?_)
            obtain ⟨b2848, rfl, ht_b2848⟩ := hV9
            have ht_b2848 : t b2848 = (23, 12, 0) := ht_b2848
            refine lv_iload_n hx hb dX4_run_34 rfl (lv_at hl 1 rfl) ?_
            refine tk_iald hx hb hK hG ht_b2848 (by decide) (fun _ h => h) tk_no rfl (by omega) (by omega) dX4_run_35 (fun v2849 hE9 _ => ?_)
            have he_v2849 : 0 ≤ v2849.toInt ∧ v2849.toInt ≤ 20 := hE9
            refine lv_icmp_ge (tgt := 113) hx hb dX4_run_36 (by decide) (fun c9 => ?_) (fun c9 => ?_)
            · have hc2850 : v2849.toInt ≤ v2536.toInt := (fi_le rfl rfl).mp c9
              obtain ⟨v2851, h_v2851, e_v2851⟩ := tk_inc v8 1 (by decide) (by omega) (by omega)
              refine lv_iinc (v := v2851) (lv' := [(2, .int v2851), (3, .int v2536), (0, .ref a0), (1, .ref a1)]) hx hb dX4_run_113 hl (k := 1) rfl e_v2851 (by decide) rfl (fun ls hl => ?_)
              refine lv_goto (tgt := 19) hx hb dX4_run_116 (by decide) ?_
              exact ih_l2530 v2851 _ _ (by omega) (by omega) (by omega) hG hS _ (lv_sub hl [0, 2, 3] rfl)
            · have hc2850 : ¬ (v2849.toInt ≤ v2536.toInt) := fun h9 => c9 ((fi_le rfl rfl).mpr h9)
              refine lv_aload_n hx hb dX4_run_39 rfl (lv_at hl 2 rfl) ?_
              refine tk_Vv (As := []) (rest := []) (ci := 4) ⟨hx, hb, hml, hown, hts⟩ hK hG hZ hS (k_X4_setWords l D cy ld t a0 ht_a0) trivial ⟨callB_of 0 hts (wl_in mw_830) rfl rfl rfl (htl _ mw_29) (htl _ mw_827) hd_yX4_setWords ⟨(Nat.le_of_ble_eq_true rfl), (Nat.le_of_ble_eq_true rfl)⟩, htl _ mw_828, htl _ mw_829⟩ ht_a0 (by decide) tk_no rfl (tk_w.pick [5] rfl) rfl hl.1 rfl (Nat.le_of_ble_eq_true rfl) dX4_run_40 ⟨(Nat.le_of_ble_eq_true rfl), (Nat.le_of_ble_eq_true rfl)⟩ (fun H locs hpo hG hS hq9 => ?_)
              have hf2531 := hf2531.call hq9 (tk_w.no ht_a1 (by decide))
              refine lv_aload_n hx hb dX4_run_43 rfl (lv_at hl 3 rfl) ?_
              refine tk_get (ci := 7) (C := RX7) (T := TX7) (N := 10) (sp := (3, 20, 1, 0)) hx hb htl inX7 hown hK hG ht_a1 (by decide) tk_no rfl 4 (by decide) (htl _ mw_809) (fun _ h9 => h9) rfl dX4_run_44 (fun v9 hf2853 hV9 => ?_)
              obtain ⟨b2854, rfl, ht_b2854⟩ := hV9
              have ht_b2854 : t b2854 = (20, 12, 0) := ht_b2854
              refine lv_iload_n hx hb dX4_run_47 rfl (lv_at hl 1 rfl) ?_
              refine tk_iald hx hb hK hG ht_b2854 (by decide) (fun _ h => h) tk_no rfl (by omega) (by omega) dX4_run_48 (fun v2855 _ _ => ?_)
              have hr_v2855 := tk_rng v2855
              refine lv_istore (lv' := [(4, .int v2855), (3, .int v2536), (2, .int v8), (0, .ref a0), (1, .ref a1)]) hx hb dX4_run_49 hl (by decide) rfl (fun ls hl => ?_)
              refine lv_iload hx hb dX4_run_51 (lv_at hl 0 rfl) ?_
              refine lv_iconst (v := (-1)) hx hb dX4_run_53 (by decide) ?_
              refine lv_icmp_eq (tgt := 73) hx hb dX4_run_54 (by decide) (fun c9 => ?_) (fun c9 => ?_)
              · have hc2856 : v2855.toInt = (-1) := (fi_eq rfl (show ((-1) : Int32).toInt = (-1) by decide)).mp c9
                refine lv_aload_n hx hb dX4_run_73 rfl (lv_at hl 3 rfl) ?_
                refine lv_aload_n hx hb dX4_run_74 rfl (lv_at hl 4 rfl) ?_
                refine lv_iload_n hx hb dX4_run_75 rfl (lv_at hl 2 rfl) ?_
                refine tk_Vi (As := [.ref a1, .int v8]) (rest := []) (ci := 4) ⟨hx, hb, hml, hown, hts⟩ hK hG hZ hS (k_X4_doDeed l D cy ld t a0 a1 v8 ht_a0 ht_a1 (by omega) (by omega)) trivial ⟨callB_of 2 hts (wl_in mw_859) rfl rfl rfl (htl _ mw_29) (htl _ mw_856) hd_yX4_doDeed ⟨(Nat.le_of_ble_eq_true rfl), (Nat.le_of_ble_eq_true rfl)⟩, htl _ mw_857, htl _ mw_858⟩ ht_a0 (by decide) tk_no rfl (tk_w.pick [2, 7, 8, 5, 9, 10, 11, 6] rfl) rfl hl.1 rfl (Nat.le_of_ble_eq_true rfl) dX4_run_76 ⟨(Nat.le_of_ble_eq_true rfl), (Nat.le_of_ble_eq_true rfl)⟩ (fun v2857 H locs hpo hG hS hq9 => ?_)
                have hf2531 := hf2531.call hq9 (tk_w.no ht_a1 (by decide))
                refine lv_if_ge (tgt := 97) hx hb dX4_run_79 (by decide) (fun c9 => ?_) (fun c9 => ?_)
                · have hc2859 : 0 ≤ v2857.toInt := (fi_le (show (0 : Int32).toInt = 0 by decide) rfl).mp c9
                  refine lv_aload_n hx hb dX4_run_97 rfl (lv_at hl 3 rfl) ?_
                  refine lv_dup hx hb dX4_run_98 rfl ?_
                  refine tk_get (ci := 4) (C := RX4) (T := TX4) (N := 6) (sp := (0, (-2147483648), 2147483647, 0)) hx hb htl inX4 hown hK hG ht_a0 (by decide) tk_no rfl 4 (by decide) (htl _ mw_805) (fun _ h9 => h9) rfl dX4_run_99 (fun v9 hf2860 hV9 => ?_)
                  obtain ⟨v2861, rfl, (ha_v2861 : (-2147483648) ≤ v2861.toInt), (hb_v2861 : v2861.toInt ≤ 2147483647)⟩ := hV9
                  refine lv_iconst (v := 1) hx hb dX4_run_102 (by decide) ?_
                  refine lv_iadd hx hb dX4_run_103 ?_
                  obtain ⟨v2862, hm_v2862⟩ : ∃ z : Int32, v2861 + 1 = z := ⟨_, rfl⟩
                  refine fx_ti hm_v2862 ?_
                  refine tk_put (ci := 4) (v := .int v2862) (ty := .int) (C := RX4) (T := TX4) (N := 6) (sp := (0, (-2147483648), 2147483647, 0)) hx hb htl inX4 tyX4 tyX4_ok nmX4 hown hK hG hS ht_a0 (by decide) tk_no rfl 4 (by decide) (htl _ mw_805) (fun _ h9 => h9) rfl (tyX4_ok 4 (by decide)) rfl rfl rfl (tk_V0 (tk_rng _).1 (tk_rng _).2) (fun _ h => h) (tk_w.of ht_a0 (by decide) (List.mem_of_getElem? (i := 6) rfl) (Nat.le_refl _) (Nat.le_refl _)) dX4_run_104 (fun H locs hG hS hf2863 hq9 hj9 => ?_)
                  have hf2531 := hf2531.kept (hq9 _ (tk_ne ht_a1 ht_a0 (Or.inl (by decide))))
                  obtain ⟨v2865, h_v2865, e_v2865⟩ := tk_inc v2536 1 (by decide) (by omega) (by omega)
                  refine lv_iinc (v := v2865) (lv' := [(3, .int v2865), (4, .int v2855), (2, .int v8), (0, .ref a0), (1, .ref a1)]) hx hb dX4_run_107 hl (k := 1) rfl e_v2865 (by decide) rfl (fun ls hl => ?_)
                  refine lv_goto (tgt := 29) hx hb dX4_run_110 (by decide) ?_
                  exact ih_l2846 v2865 _ _ (by omega) (by omega) (by omega) hG hS hf2531 _ (lv_sub hl [0, 2, 3, 4] rfl)
                · have hc2859 : ¬ (0 ≤ v2857.toInt) := fun h9 => c9 ((fi_le (show (0 : Int32).toInt = 0 by decide) rfl).mpr h9)
                  refine lv_aload_n hx hb dX4_run_82 rfl (lv_at hl 3 rfl) ?_
                  refine lv_iload_n hx hb dX4_run_83 rfl (lv_at hl 2 rfl) ?_
                  refine tk_put (ci := 4) (v := .int v8) (ty := .int) (C := RX4) (T := TX4) (N := 6) (sp := (0, (-2147483648), 2147483647, 0)) hx hb htl inX4 tyX4 tyX4_ok nmX4 hown hK hG hS ht_a0 (by decide) tk_no rfl 0 (by decide) (htl _ mw_121) (fun _ h9 => h9) rfl (tyX4_ok 0 (by decide)) rfl rfl rfl (tk_V0 (tk_rng _).1 (tk_rng _).2) (fun _ h => h) (tk_w.of ht_a0 (by decide) (List.mem_of_getElem? (i := 6) rfl) (Nat.le_refl _) (Nat.le_refl _)) dX4_run_84 (fun H locs hG hS hf2866 hq9 hj9 => ?_)
                  have hf2531 := hf2531.kept (hq9 _ (tk_ne ht_a1 ht_a0 (Or.inl (by decide))))
                  refine lv_aload_n hx hb dX4_run_87 rfl (lv_at hl 3 rfl) ?_
                  refine tk_get (ci := 4) (C := RX4) (T := TX4) (N := 6) (sp := (6, 2, 0, 0)) hx hb htl inX4 hown hK hG ht_a0 (by decide) tk_no rfl 2 (by decide) (htl _ mw_123) (fun _ h9 => h9) rfl dX4_run_88 (fun v9 hf2868 hV9 => ?_)
                  obtain ⟨b2869, rfl, ht_b2869⟩ := hV9
                  have ht_b2869 : t b2869 = (2, 0, 0) := ht_b2869
                  refine tk_Vv (As := []) (rest := []) (ci := 1) ⟨hx, hb, hml, hown, hts⟩ hK hG hZ hS (k_X1_restore l D cy ld t b2869 ht_b2869) trivial ⟨callB_of 0 hts (wl_in mw_1004) rfl rfl rfl (htl _ mw_25) (htl _ mw_1001) hd_yX1_restore ⟨(Nat.le_of_ble_eq_true rfl), (Nat.le_of_ble_eq_true rfl)⟩, htl _ mw_1002, htl _ mw_1003⟩ ht_b2869 (by decide) tk_no rfl (tk_w.pick [5, 9, 2, 7, 8] rfl) rfl hl.1 rfl (Nat.le_of_ble_eq_true rfl) dX4_run_91 ⟨(Nat.le_of_ble_eq_true rfl), (Nat.le_of_ble_eq_true rfl)⟩ (fun H locs hpo hG hS hq9 => ?_)
                  have hf2531 := hf2531.call hq9 (tk_w.no ht_a1 (by decide))
                  refine lv_bipush (v := (-3)) hx hb dX4_run_94 (by decide) ?_
                  have hk_m3 : ((-3) : Int32).toInt = (-3) := by decide
                  exact tk_iret (v := (-3)) hx hb hr rfl hlocks trivial hG hS dX4_run_96
              · have hc2856 : ¬ (v2855.toInt = (-1)) := fun h9 => c9 ((fi_eq rfl (show ((-1) : Int32).toInt = (-1) by decide)).mpr h9)
                refine lv_aload_n hx hb dX4_run_57 rfl (lv_at hl 3 rfl) ?_
                refine tk_get (ci := 4) (C := RX4) (T := TX4) (N := 6) (sp := (6, 12, 0, 0)) hx hb htl inX4 hown hK hG ht_a0 (by decide) tk_no rfl 3 (by decide) (htl _ mw_124) (fun _ h9 => h9) rfl dX4_run_58 (fun v9 hf2871 hV9 => ?_)
                obtain ⟨b2872, rfl, ht_b2872⟩ := hV9
                have ht_b2872 : t b2872 = (12, 0, 0) := ht_b2872
                refine lv_aload_n hx hb dX4_run_61 rfl (lv_at hl 4 rfl) ?_
                refine lv_iload hx hb dX4_run_62 (lv_at hl 0 rfl) ?_
                refine tk_Vi (As := [.ref a1, .int v2855]) (rest := []) (ci := 11) ⟨hx, hb, hml, hown, hts⟩ hK hG hZ hS (k_X11_workOut l D cy ld t 512 12 b2872 a1 v2855 ht_b2872 ht_a1) trivial ⟨callB_of 2 hts (wl_in mw_849) rfl rfl rfl (htl _ mw_95) (htl _ mw_846) hd_yX11_workOut ⟨(Nat.le_of_ble_eq_true rfl), (Nat.le_of_ble_eq_true rfl)⟩, htl _ mw_847, htl _ mw_848⟩ ht_b2872 (by decide) tk_no rfl (tk_w.pick [10, 5] rfl) rfl hl.1 rfl (Nat.le_of_ble_eq_true rfl) dX4_run_64 ⟨(Nat.le_of_ble_eq_true rfl), (Nat.le_of_ble_eq_true rfl)⟩ (fun v2873 H locs hpo hG hS hq9 => ?_)
                have hf2531 := hf2531.call hq9 (tk_w.no ht_a1 (by decide))
                refine lv_if_ne (tgt := 73) hx hb dX4_run_67 (by decide) (fun c9 => ?_) (fun c9 => ?_)
                · have hc2875 : ¬ (v2873.toInt = 0) := fun h9 => c9 ((fi_eq rfl (show (0 : Int32).toInt = 0 by decide)).mpr h9)
                  refine lv_aload_n hx hb dX4_run_73 rfl (lv_at hl 3 rfl) ?_
                  refine lv_aload_n hx hb dX4_run_74 rfl (lv_at hl 4 rfl) ?_
                  refine lv_iload_n hx hb dX4_run_75 rfl (lv_at hl 2 rfl) ?_
                  refine tk_Vi (As := [.ref a1, .int v8]) (rest := []) (ci := 4) ⟨hx, hb, hml, hown, hts⟩ hK hG hZ hS (k_X4_doDeed l D cy ld t a0 a1 v8 ht_a0 ht_a1 (by omega) (by omega)) trivial ⟨callB_of 2 hts (wl_in mw_859) rfl rfl rfl (htl _ mw_29) (htl _ mw_856) hd_yX4_doDeed ⟨(Nat.le_of_ble_eq_true rfl), (Nat.le_of_ble_eq_true rfl)⟩, htl _ mw_857, htl _ mw_858⟩ ht_a0 (by decide) tk_no rfl (tk_w.pick [2, 7, 8, 5, 9, 10, 11, 6] rfl) rfl hl.1 rfl (Nat.le_of_ble_eq_true rfl) dX4_run_76 ⟨(Nat.le_of_ble_eq_true rfl), (Nat.le_of_ble_eq_true rfl)⟩ (fun v2876 H locs hpo hG hS hq9 => ?_)
                  have hf2531 := hf2531.call hq9 (tk_w.no ht_a1 (by decide))
                  refine lv_if_ge (tgt := 97) hx hb dX4_run_79 (by decide) (fun c9 => ?_) (fun c9 => ?_)
                  · have hc2878 : 0 ≤ v2876.toInt := (fi_le (show (0 : Int32).toInt = 0 by decide) rfl).mp c9
                    refine lv_aload_n hx hb dX4_run_97 rfl (lv_at hl 3 rfl) ?_
                    refine lv_dup hx hb dX4_run_98 rfl ?_
                    refine tk_get (ci := 4) (C := RX4) (T := TX4) (N := 6) (sp := (0, (-2147483648), 2147483647, 0)) hx hb htl inX4 hown hK hG ht_a0 (by decide) tk_no rfl 4 (by decide) (htl _ mw_805) (fun _ h9 => h9) rfl dX4_run_99 (fun v9 hf2879 hV9 => ?_)
                    obtain ⟨v2880, rfl, (ha_v2880 : (-2147483648) ≤ v2880.toInt), (hb_v2880 : v2880.toInt ≤ 2147483647)⟩ := hV9
                    refine lv_iconst (v := 1) hx hb dX4_run_102 (by decide) ?_
                    refine lv_iadd hx hb dX4_run_103 ?_
                    obtain ⟨v2881, hm_v2881⟩ : ∃ z : Int32, v2880 + 1 = z := ⟨_, rfl⟩
                    refine fx_ti hm_v2881 ?_
                    refine tk_put (ci := 4) (v := .int v2881) (ty := .int) (C := RX4) (T := TX4) (N := 6) (sp := (0, (-2147483648), 2147483647, 0)) hx hb htl inX4 tyX4 tyX4_ok nmX4 hown hK hG hS ht_a0 (by decide) tk_no rfl 4 (by decide) (htl _ mw_805) (fun _ h9 => h9) rfl (tyX4_ok 4 (by decide)) rfl rfl rfl (tk_V0 (tk_rng _).1 (tk_rng _).2) (fun _ h => h) (tk_w.of ht_a0 (by decide) (List.mem_of_getElem? (i := 6) rfl) (Nat.le_refl _) (Nat.le_refl _)) dX4_run_104 (fun H locs hG hS hf2882 hq9 hj9 => ?_)
                    have hf2531 := hf2531.kept (hq9 _ (tk_ne ht_a1 ht_a0 (Or.inl (by decide))))
                    obtain ⟨v2884, h_v2884, e_v2884⟩ := tk_inc v2536 1 (by decide) (by omega) (by omega)
                    refine lv_iinc (v := v2884) (lv' := [(3, .int v2884), (4, .int v2855), (2, .int v8), (0, .ref a0), (1, .ref a1)]) hx hb dX4_run_107 hl (k := 1) rfl e_v2884 (by decide) rfl (fun ls hl => ?_)
                    refine lv_goto (tgt := 29) hx hb dX4_run_110 (by decide) ?_
                    exact ih_l2846 v2884 _ _ (by omega) (by omega) (by omega) hG hS hf2531 _ (lv_sub hl [0, 2, 3, 4] rfl)
                  · have hc2878 : ¬ (0 ≤ v2876.toInt) := fun h9 => c9 ((fi_le (show (0 : Int32).toInt = 0 by decide) rfl).mpr h9)
                    refine lv_aload_n hx hb dX4_run_82 rfl (lv_at hl 3 rfl) ?_
                    refine lv_iload_n hx hb dX4_run_83 rfl (lv_at hl 2 rfl) ?_
                    refine tk_put (ci := 4) (v := .int v8) (ty := .int) (C := RX4) (T := TX4) (N := 6) (sp := (0, (-2147483648), 2147483647, 0)) hx hb htl inX4 tyX4 tyX4_ok nmX4 hown hK hG hS ht_a0 (by decide) tk_no rfl 0 (by decide) (htl _ mw_121) (fun _ h9 => h9) rfl (tyX4_ok 0 (by decide)) rfl rfl rfl (tk_V0 (tk_rng _).1 (tk_rng _).2) (fun _ h => h) (tk_w.of ht_a0 (by decide) (List.mem_of_getElem? (i := 6) rfl) (Nat.le_refl _) (Nat.le_refl _)) dX4_run_84 (fun H locs hG hS hf2885 hq9 hj9 => ?_)
                    have hf2531 := hf2531.kept (hq9 _ (tk_ne ht_a1 ht_a0 (Or.inl (by decide))))
                    refine lv_aload_n hx hb dX4_run_87 rfl (lv_at hl 3 rfl) ?_
                    refine tk_get (ci := 4) (C := RX4) (T := TX4) (N := 6) (sp := (6, 2, 0, 0)) hx hb htl inX4 hown hK hG ht_a0 (by decide) tk_no rfl 2 (by decide) (htl _ mw_123) (fun _ h9 => h9) rfl dX4_run_88 (fun v9 hf2887 hV9 => ?_)
                    obtain ⟨b2888, rfl, ht_b2888⟩ := hV9
                    have ht_b2888 : t b2888 = (2, 0, 0) := ht_b2888
                    refine tk_Vv (As := []) (rest := []) (ci := 1) ⟨hx, hb, hml, hown, hts⟩ hK hG hZ hS (k_X1_restore l D cy ld t b2888 ht_b2888) trivial ⟨callB_of 0 hts (wl_in mw_1004) rfl rfl rfl (htl _ mw_25) (htl _ mw_1001) hd_yX1_restore ⟨(Nat.le_of_ble_eq_true rfl), (Nat.le_of_ble_eq_true rfl)⟩, htl _ mw_1002, htl _ mw_1003⟩ ht_b2888 (by decide) tk_no rfl (tk_w.pick [5, 9, 2, 7, 8] rfl) rfl hl.1 rfl (Nat.le_of_ble_eq_true rfl) dX4_run_91 ⟨(Nat.le_of_ble_eq_true rfl), (Nat.le_of_ble_eq_true rfl)⟩ (fun H locs hpo hG hS hq9 => ?_)
                    have hf2531 := hf2531.call hq9 (tk_w.no ht_a1 (by decide))
                    refine lv_bipush (v := (-3)) hx hb dX4_run_94 (by decide) ?_
                    have hk_m3 : ((-3) : Int32).toInt = (-3) := by decide
                    exact tk_iret (v := (-3)) hx hb hr rfl hlocks trivial hG hS dX4_run_96
                · have hc2875 : v2873.toInt = 0 := (fi_eq rfl (show (0 : Int32).toInt = 0 by decide)).mp c9
                  refine lv_goto (tgt := 107) hx hb dX4_run_70 (by decide) ?_
                  obtain ⟨v2890, h_v2890, e_v2890⟩ := tk_inc v2536 1 (by decide) (by omega) (by omega)
                  refine lv_iinc (v := v2890) (lv' := [(3, .int v2890), (4, .int v2855), (2, .int v8), (0, .ref a0), (1, .ref a1)]) hx hb dX4_run_107 hl (k := 1) rfl e_v2890 (by decide) rfl (fun ls hl => ?_)
                  refine lv_goto (tgt := 29) hx hb dX4_run_110 (by decide) ?_
                  exact ih_l2846 v2890 _ _ (by omega) (by omega) (by omega) hG hS hf2531 _ (lv_sub hl [0, 2, 3, 4] rfl)
        have hk_0 : (0 : Int32).toInt = 0 := by decide
        exact hl2846 21 0 _ _ (by omega) (by omega) (by omega) hG hS hf2531 _ (lv_sub hl [0, 1, 2, 3] rfl)
  have hk_0 : (0 : Int32).toInt = 0 := by decide
  exact hl2530 13 0 _ _ (by omega) (by omega) (by omega) hG hS _ (lv_sub hl [0, 1, 2] rfl)
theorem dX5_worthOf_0 : decode cX5_worthOf 0 = .ok (.iload_n 1, 1) := by decide +kernel
theorem dX5_worthOf_1 : decode cX5_worthOf 1 = .ok (.aload_n 0, 1) := by decide +kernel
theorem dX5_worthOf_2 : decode cX5_worthOf 2 = .ok (.getfield 42, 3) := by decide +kernel
theorem dX5_worthOf_5 : decode cX5_worthOf 5 = .ok (.if_icmp .ge 20, 3) := by decide +kernel
theorem dX5_worthOf_25 : decode cX5_worthOf 25 = .ok (.iconst 0, 1) := by decide +kernel
theorem dX5_worthOf_26 : decode cX5_worthOf 26 = .ok (.ireturn, 1) := by decide +kernel
theorem dX5_worthOf_8 : decode cX5_worthOf 8 = .ok (.iload_n 1, 1) := by decide +kernel
theorem dX5_worthOf_9 : decode cX5_worthOf 9 = .ok (.iconst 4, 1) := by decide +kernel
theorem dX5_worthOf_10 : decode cX5_worthOf 10 = .ok (.if_icmp .ge 15, 3) := by decide +kernel
set_option maxHeartbeats 4000000 in
set_option maxRecDepth 100000 in
theorem k_X5_worthOf_4 (l : Launch) (D : va_G) (cy : Nat → ClassId) (ld : Nat → Nat) (t : tk_T) (a0 : Nat) (p2 : Int32) (p3 : Int32) (ht_a0 : t a0 = (6, 0, 0)) : Met l yX5_worthOf (wl yX5_worthOf cX5_worthOf 11 (some .int)) ({ frames := 3, cells := 0, slots := 0, locals := 140 }) (tp D cy ld t [] [.ref a0, .int 4, .int p2, .int p3] (fun H => True)) (ti D cy ld t [] (fun r H => 0 ≤ r.toInt ∧ r.toInt ≤ 0) (tk_w t [])) 0 0 (tk_w t []) := by
  refine tk_met (y := yX5_worthOf) (cc := cX5_worthOf) (maxL := 11) (ret := (some .int)) (av := [.ref a0, .int 4, .int p2, .int p3]) _ _ (by decide) (Nat.le_of_ble_eq_true rfl) ?_
  intro p e s m args below meth c hx hb hr hml hts htl hown hlocks hK H locs hH hG hS hB hZ ls hl
  have hown : s.vm.findClass RX5 = some m.cls := hown
  have hl : lv_has ls 11 [(0, .ref a0), (1, .int 4), (2, .int p2), (3, .int p3)] := hl
  have hr_p2 := tk_rng p2
  have hr_p3 := tk_rng p3
  refine lv_iload_n hx hb dX5_worthOf_0 rfl (lv_at hl 1 rfl) ?_
  refine lv_aload_n hx hb dX5_worthOf_1 rfl (lv_at hl 0 rfl) ?_
  refine tk_get (ci := 5) (C := RX5) (T := TX5) (N := 11) (sp := (0, (-2147483648), 2147483647, 0)) hx hb htl inX5 hown hK hG ht_a0 (by decide) tk_no rfl 3 (by decide) (htl _ mw_1286) (fun _ h9 => h9) rfl dX5_worthOf_2 (fun v9 hf1 hV9 => ?_)
  obtain ⟨v2, rfl, (ha_v2 : (-2147483648) ≤ v2.toInt), (hb_v2 : v2.toInt ≤ 2147483647)⟩ := hV9
  refine lv_icmp_ge (tgt := 25) hx hb dX5_worthOf_5 (by decide) (fun c9 => ?_) (fun c9 => ?_)
  · have hc3 : v2.toInt ≤ 4 := (fi_le rfl (show (4 : Int32).toInt = 4 by decide)).mp c9
    refine lv_iconst (v := 0) hx hb dX5_worthOf_25 (by decide) ?_
    have hk_0 : (0 : Int32).toInt = 0 := by decide
    exact tk_iret (v := 0) hx hb hr rfl hlocks (show 0 ≤ (0 : Int32).toInt ∧ (0 : Int32).toInt ≤ 0 from ⟨(by omega), (by omega)⟩) hG hS dX5_worthOf_26
  · have hc3 : ¬ (v2.toInt ≤ 4) := fun h9 => c9 ((fi_le rfl (show (4 : Int32).toInt = 4 by decide)).mpr h9)
    refine lv_iload_n hx hb dX5_worthOf_8 rfl (lv_at hl 1 rfl) ?_
    refine lv_iconst (v := 4) hx hb dX5_worthOf_9 (by decide) ?_
    refine lv_icmp_ge (tgt := 25) hx hb dX5_worthOf_10 (by decide) (fun _ => ?_) (fun c9 => absurd (by decide) c9)
    refine lv_iconst (v := 0) hx hb dX5_worthOf_25 (by decide) ?_
    have hk_0 : (0 : Int32).toInt = 0 := by decide
    exact tk_iret (v := 0) hx hb hr rfl hlocks (show 0 ≤ (0 : Int32).toInt ∧ (0 : Int32).toInt ≤ 0 from ⟨(by omega), (by omega)⟩) hG hS dX5_worthOf_26
theorem dX5_worthOf_13 : decode cX5_worthOf 13 = .ok (.aload_n 0, 1) := by decide +kernel
theorem dX5_worthOf_14 : decode cX5_worthOf 14 = .ok (.getfield 13, 3) := by decide +kernel
theorem dX5_worthOf_17 : decode cX5_worthOf 17 = .ok (.iload_n 1, 1) := by decide +kernel
theorem dX5_worthOf_18 : decode cX5_worthOf 18 = .ok (.aaload, 1) := by decide +kernel
theorem dX5_worthOf_19 : decode cX5_worthOf 19 = .ok (.invokevirtual 75, 3) := by decide +kernel
theorem dX5_worthOf_22 : decode cX5_worthOf 22 = .ok (.ifCond .ne 5, 3) := by decide +kernel
theorem dX5_worthOf_27 : decode cX5_worthOf 27 = .ok (.aload_n 0, 1) := by decide +kernel
theorem dX5_worthOf_28 : decode cX5_worthOf 28 = .ok (.getfield 13, 3) := by decide +kernel
theorem dX5_worthOf_31 : decode cX5_worthOf 31 = .ok (.iload_n 1, 1) := by decide +kernel
theorem dX5_worthOf_32 : decode cX5_worthOf 32 = .ok (.aaload, 1) := by decide +kernel
theorem dX5_worthOf_33 : decode cX5_worthOf 33 = .ok (.astore 4, 2) := by decide +kernel
theorem dX5_worthOf_35 : decode cX5_worthOf 35 = .ok (.aload_n 0, 1) := by decide +kernel
theorem dX5_worthOf_36 : decode cX5_worthOf 36 = .ok (.getfield 13, 3) := by decide +kernel
theorem dX5_worthOf_39 : decode cX5_worthOf 39 = .ok (.iload_n 1, 1) := by decide +kernel
theorem dX5_worthOf_40 : decode cX5_worthOf 40 = .ok (.iconst 1, 1) := by decide +kernel
theorem dX5_worthOf_41 : decode cX5_worthOf 41 = .ok (.iadd, 1) := by decide +kernel
theorem dX5_worthOf_42 : decode cX5_worthOf 42 = .ok (.aaload, 1) := by decide +kernel
theorem dX5_worthOf_43 : decode cX5_worthOf 43 = .ok (.astore 5, 2) := by decide +kernel
theorem dX5_worthOf_45 : decode cX5_worthOf 45 = .ok (.iconst (-1), 1) := by decide +kernel
theorem dX5_worthOf_46 : decode cX5_worthOf 46 = .ok (.istore 6, 2) := by decide +kernel
theorem dX5_worthOf_48 : decode cX5_worthOf 48 = .ok (.iconst 0, 1) := by decide +kernel
theorem dX5_worthOf_49 : decode cX5_worthOf 49 = .ok (.istore 7, 2) := by decide +kernel
theorem dX5_worthOf_51 : decode cX5_worthOf 51 = .ok (.iconst 0, 1) := by decide +kernel
theorem dX5_worthOf_52 : decode cX5_worthOf 52 = .ok (.istore 8, 2) := by decide +kernel
theorem dX5_worthOf_54 : decode cX5_worthOf 54 = .ok (.iload 8, 2) := by decide +kernel
theorem dX5_worthOf_56 : decode cX5_worthOf 56 = .ok (.aload_n 0, 1) := by decide +kernel
theorem dX5_worthOf_57 : decode cX5_worthOf 57 = .ok (.getfield 34, 3) := by decide +kernel
theorem dX5_worthOf_60 : decode cX5_worthOf 60 = .ok (.getfield 79, 3) := by decide +kernel
theorem dX5_worthOf_183 : decode cX5_worthOf 183 = .ok (.iload_n 1, 1) := by decide +kernel
theorem dX5_worthOf_184 : decode cX5_worthOf 184 = .ok (.ifCond .ne 9, 3) := by decide +kernel
theorem dX5_worthOf_193 : decode cX5_worthOf 193 = .ok (.iload 7, 2) := by decide +kernel
theorem dX5_worthOf_195 : decode cX5_worthOf 195 = .ok (.ireturn, 1) := by decide +kernel
theorem dX5_worthOf_63 : decode cX5_worthOf 63 = .ok (.if_icmp .ge 120, 3) := by decide +kernel
theorem dX5_worthOf_66 : decode cX5_worthOf 66 = .ok (.iload 6, 2) := by decide +kernel
theorem dX5_worthOf_68 : decode cX5_worthOf 68 = .ok (.iconst (-1), 1) := by decide +kernel
theorem dX5_worthOf_69 : decode cX5_worthOf 69 = .ok (.if_icmp .eq 9, 3) := by decide +kernel
theorem dX5_worthOf_78 : decode cX5_worthOf 78 = .ok (.aload_n 0, 1) := by decide +kernel
theorem dX5_worthOf_79 : decode cX5_worthOf 79 = .ok (.getfield 38, 3) := by decide +kernel
theorem dX5_worthOf_82 : decode cX5_worthOf 82 = .ok (.aload 4, 2) := by decide +kernel
theorem dX5_worthOf_84 : decode cX5_worthOf 84 = .ok (.iload 8, 2) := by decide +kernel
theorem dX5_worthOf_86 : decode cX5_worthOf 86 = .ok (.invokevirtual 82, 3) := by decide +kernel
theorem dX5_worthOf_177 : decode cX5_worthOf 177 = .ok (.iinc 8 1, 3) := by decide +kernel
theorem dX5_worthOf_180 : decode cX5_worthOf 180 = .ok (.goto (-126), 3) := by decide +kernel
theorem dX5_worthOf_89 : decode cX5_worthOf 89 = .ok (.ifCond .eq 6, 3) := by decide +kernel
theorem dX5_worthOf_95 : decode cX5_worthOf 95 = .ok (.aload 5, 2) := by decide +kernel
theorem dX5_worthOf_97 : decode cX5_worthOf 97 = .ok (.aload 4, 2) := by decide +kernel
theorem dX5_worthOf_99 : decode cX5_worthOf 99 = .ok (.invokevirtual 54, 3) := by decide +kernel
theorem dX5_worthOf_102 : decode cX5_worthOf 102 = .ok (.iload 6, 2) := by decide +kernel
theorem dX5_worthOf_104 : decode cX5_worthOf 104 = .ok (.iconst (-1), 1) := by decide +kernel
theorem dX5_worthOf_105 : decode cX5_worthOf 105 = .ok (.if_icmp .ne 7, 3) := by decide +kernel
theorem dX5_worthOf_108 : decode cX5_worthOf 108 = .ok (.iload_n 2, 1) := by decide +kernel
theorem dX5_worthOf_109 : decode cX5_worthOf 109 = .ok (.goto 9, 3) := by decide +kernel
theorem dX5_worthOf_118 : decode cX5_worthOf 118 = .ok (.istore 9, 2) := by decide +kernel
theorem dX5_worthOf_120 : decode cX5_worthOf 120 = .ok (.aload_n 0, 1) := by decide +kernel
theorem dX5_worthOf_121 : decode cX5_worthOf 121 = .ok (.getfield 38, 3) := by decide +kernel
theorem dX5_worthOf_124 : decode cX5_worthOf 124 = .ok (.aload 5, 2) := by decide +kernel
theorem dX5_worthOf_126 : decode cX5_worthOf 126 = .ok (.iload 8, 2) := by decide +kernel
theorem dX5_worthOf_128 : decode cX5_worthOf 128 = .ok (.invokevirtual 92, 3) := by decide +kernel
theorem dX5_worthOf_154 : decode cX5_worthOf 154 = .ok (.istore 10, 2) := by decide +kernel
theorem dX5_worthOf_156 : decode cX5_worthOf 156 = .ok (.iload 6, 2) := by decide +kernel
theorem dX5_worthOf_158 : decode cX5_worthOf 158 = .ok (.iconst (-1), 1) := by decide +kernel
theorem dX5_worthOf_159 : decode cX5_worthOf 159 = .ok (.if_icmp .eq 10, 3) := by decide +kernel
theorem dX5_worthOf_169 : decode cX5_worthOf 169 = .ok (.iload 8, 2) := by decide +kernel
theorem dX5_worthOf_171 : decode cX5_worthOf 171 = .ok (.istore 6, 2) := by decide +kernel
theorem dX5_worthOf_173 : decode cX5_worthOf 173 = .ok (.iload 10, 2) := by decide +kernel
theorem dX5_worthOf_175 : decode cX5_worthOf 175 = .ok (.istore 7, 2) := by decide +kernel
theorem dX5_worthOf_131 : decode cX5_worthOf 131 = .ok (.ifCond .ne 10, 3) := by decide +kernel
theorem dX5_worthOf_141 : decode cX5_worthOf 141 = .ok (.aload_n 0, 1) := by decide +kernel
theorem dX5_worthOf_142 : decode cX5_worthOf 142 = .ok (.iload_n 1, 1) := by decide +kernel
theorem dX5_worthOf_143 : decode cX5_worthOf 143 = .ok (.iconst 1, 1) := by decide +kernel
theorem dX5_worthOf_144 : decode cX5_worthOf 144 = .ok (.iadd, 1) := by decide +kernel
theorem dX5_worthOf_145 : decode cX5_worthOf 145 = .ok (.iload_n 3, 1) := by decide +kernel
theorem dX5_worthOf_146 : decode cX5_worthOf 146 = .ok (.ineg, 1) := by decide +kernel
theorem dX5_worthOf_147 : decode cX5_worthOf 147 = .ok (.iload 9, 2) := by decide +kernel
theorem dX5_worthOf_149 : decode cX5_worthOf 149 = .ok (.ineg, 1) := by decide +kernel
theorem dX5_worthOf_150 : decode cX5_worthOf 150 = .ok (.invokevirtual 58, 3) := by decide +kernel
theorem dX5_worthOf_153 : decode cX5_worthOf 153 = .ok (.ineg, 1) := by decide +kernel
theorem dX5_worthOf_134 : decode cX5_worthOf 134 = .ok (.bipush 100, 2) := by decide +kernel
theorem dX5_worthOf_136 : decode cX5_worthOf 136 = .ok (.iload_n 1, 1) := by decide +kernel
theorem dX5_worthOf_137 : decode cX5_worthOf 137 = .ok (.isub, 1) := by decide +kernel
theorem dX5_worthOf_138 : decode cX5_worthOf 138 = .ok (.goto 16, 3) := by decide +kernel
theorem dX5_worthOf_92 : decode cX5_worthOf 92 = .ok (.goto 85, 3) := by decide +kernel
theorem dX5_worthOf_72 : decode cX5_worthOf 72 = .ok (.iload 7, 2) := by decide +kernel
theorem dX5_worthOf_74 : decode cX5_worthOf 74 = .ok (.iload_n 3, 1) := by decide +kernel
theorem dX5_worthOf_75 : decode cX5_worthOf 75 = .ok (.if_icmp .ge 108, 3) := by decide +kernel
theorem dX5_worthOf_112 : decode cX5_worthOf 112 = .ok (.iload_n 2, 1) := by decide +kernel
theorem dX5_worthOf_113 : decode cX5_worthOf 113 = .ok (.iload 7, 2) := by decide +kernel
theorem dX5_worthOf_115 : decode cX5_worthOf 115 = .ok (.invokestatic 88, 3) := by decide +kernel
theorem dX5_worthOf_162 : decode cX5_worthOf 162 = .ok (.iload 10, 2) := by decide +kernel
theorem dX5_worthOf_164 : decode cX5_worthOf 164 = .ok (.iload 7, 2) := by decide +kernel
theorem dX5_worthOf_166 : decode cX5_worthOf 166 = .ok (.if_icmp .le 11, 3) := by decide +kernel
set_option maxHeartbeats 4000000 in
set_option maxRecDepth 100000 in
theorem k_X5_worthOf_3 (l : Launch) (D : va_G) (cy : Nat → ClassId) (ld : Nat → Nat) (t : tk_T) (a0 : Nat) (p2 : Int32) (p3 : Int32) (ht_a0 : t a0 = (6, 0, 0)) : Met l yX5_worthOf (wl yX5_worthOf cX5_worthOf 11 (some .int)) ({ frames := 7, cells := 0, slots := 0, locals := 420 }) (tp D cy ld t [] [.ref a0, .int 3, .int p2, .int p3] (fun H => True)) (ti D cy ld t [] (fun r H => 0 ≤ r.toInt ∧ r.toInt ≤ 100) (tk_w t [(20, 0, 0), (12, 0, 0), (9, 0, 0), (20, 14, 14), (10, 14, 14)])) 0 0 (tk_w t [(20, 0, 0), (12, 0, 0), (9, 0, 0), (20, 14, 14), (10, 14, 14)]) := by
  refine tk_met (y := yX5_worthOf) (cc := cX5_worthOf) (maxL := 11) (ret := (some .int)) (av := [.ref a0, .int 3, .int p2, .int p3]) _ _ (by decide) (Nat.le_of_ble_eq_true rfl) ?_
  intro p e s m args below meth c hx hb hr hml hts htl hown hlocks hK H locs hH hG hS hB hZ ls hl
  have hown : s.vm.findClass RX5 = some m.cls := hown
  have hl : lv_has ls 11 [(0, .ref a0), (1, .int 3), (2, .int p2), (3, .int p3)] := hl
  have hr_p2 := tk_rng p2
  have hr_p3 := tk_rng p3
  refine lv_iload_n hx hb dX5_worthOf_0 rfl (lv_at hl 1 rfl) ?_
  refine lv_aload_n hx hb dX5_worthOf_1 rfl (lv_at hl 0 rfl) ?_
  refine tk_get (ci := 5) (C := RX5) (T := TX5) (N := 11) (sp := (0, (-2147483648), 2147483647, 0)) hx hb htl inX5 hown hK hG ht_a0 (by decide) tk_no rfl 3 (by decide) (htl _ mw_1286) (fun _ h9 => h9) rfl dX5_worthOf_2 (fun v9 hf1 hV9 => ?_)
  obtain ⟨v2, rfl, (ha_v2 : (-2147483648) ≤ v2.toInt), (hb_v2 : v2.toInt ≤ 2147483647)⟩ := hV9
  refine lv_icmp_ge (tgt := 25) hx hb dX5_worthOf_5 (by decide) (fun c9 => ?_) (fun c9 => ?_)
  · have hc3 : v2.toInt ≤ 3 := (fi_le rfl (show (3 : Int32).toInt = 3 by decide)).mp c9
    refine lv_iconst (v := 0) hx hb dX5_worthOf_25 (by decide) ?_
    have hk_0 : (0 : Int32).toInt = 0 := by decide
    exact tk_iret (v := 0) hx hb hr rfl hlocks (show 0 ≤ (0 : Int32).toInt ∧ (0 : Int32).toInt ≤ 100 from ⟨(by omega), (by omega)⟩) hG hS dX5_worthOf_26
  · have hc3 : ¬ (v2.toInt ≤ 3) := fun h9 => c9 ((fi_le rfl (show (3 : Int32).toInt = 3 by decide)).mpr h9)
    refine lv_iload_n hx hb dX5_worthOf_8 rfl (lv_at hl 1 rfl) ?_
    refine lv_iconst (v := 4) hx hb dX5_worthOf_9 (by decide) ?_
    refine lv_icmp_ge (tgt := 25) hx hb dX5_worthOf_10 (by decide) (fun c9 => absurd c9 (by decide)) (fun _ => ?_)
    refine lv_aload_n hx hb dX5_worthOf_13 rfl (lv_at hl 0 rfl) ?_
    refine tk_get (ci := 5) (C := RX5) (T := TX5) (N := 11) (sp := (6, 26, 5, 0)) hx hb htl inX5 hown hK hG ht_a0 (by decide) tk_no rfl 2 (by decide) (htl _ mw_149) (fun _ h9 => h9) rfl dX5_worthOf_14 (fun v9 hf4 hV9 => ?_)
    obtain ⟨b5, rfl, ht_b5⟩ := hV9
    have ht_b5 : t b5 = (26, 5, 0) := ht_b5
    refine lv_iload_n hx hb dX5_worthOf_17 rfl (lv_at hl 1 rfl) ?_
    refine tk_aald hx hb hK hG 3 rfl rfl ht_b5 (by decide) (fun _ h => h) tk_no (I := 3) (by decide) (by decide) (by decide) dX5_worthOf_18 (fun o6 ht_o6 => ?_)
    obtain ⟨rfl, ht_ld33⟩ := ht_o6
    have ht_ld33 : t (ld 33) = (10, 0, 13) := ht_ld33
    refine fx_top (v := .ref (ld 33)) rfl ?_
    obtain ⟨v9, hf7, hV9⟩ := tk_peek (ci := 9) (C := RX9) (T := TX9) (N := 11) (sp := (0, (-1), 7, 0)) hG ht_ld33 (by decide) tk_no rfl 5 (by decide) rfl
    obtain ⟨v8, rfl, (ha_v8 : (-1) ≤ v8.toInt), (hb_v8 : v8.toInt ≤ 7)⟩ := hV9
    refine tk_Vi (As := []) (rest := []) (ci := 9) ⟨hx, hb, hml, hown, hts⟩ hK hG hZ hS (k_X9_isDuel l D cy ld t 13 (ld 33) v8 ht_ld33 (by omega) (by omega)) hf7 ⟨callB_of 0 hts (wl_in mw_840) rfl rfl rfl (htl _ mw_76) (htl _ mw_1299) hd_yX9_isDuel ⟨(Nat.le_of_ble_eq_true rfl), (Nat.le_of_ble_eq_true rfl)⟩, htl _ mw_838, htl _ mw_839⟩ ht_ld33 (by decide) tk_no rfl (tk_w.pick [] rfl) rfl hl.1 rfl (Nat.le_of_ble_eq_true rfl) dX5_worthOf_19 ⟨(Nat.le_of_ble_eq_true rfl), (Nat.le_of_ble_eq_true rfl)⟩ (fun v9 H locs hpo hG hS hq9 => ?_)
    have hf7 := hf7.call hq9 tk_w.nil
    obtain ⟨hpo11, hpo12, hpo13, hpo14, hpo15⟩ := hpo
    refine lv_if_ne (tgt := 27) hx hb dX5_worthOf_22 (by decide) (fun c9 => ?_) (fun c9 => ?_)
    · have hc16 : ¬ (v9.toInt = 0) := fun h9 => c9 ((fi_eq rfl (show (0 : Int32).toInt = 0 by decide)).mpr h9)
      refine lv_aload_n hx hb dX5_worthOf_27 rfl (lv_at hl 0 rfl) ?_
      refine tk_get (ci := 5) (C := RX5) (T := TX5) (N := 11) (sp := (6, 26, 5, 0)) hx hb htl inX5 hown hK hG ht_a0 (by decide) tk_no rfl 2 (by decide) (htl _ mw_149) (fun _ h9 => h9) rfl dX5_worthOf_28 (fun v9 hf17 hV9 => ?_)
      obtain ⟨b18, rfl, ht_b18⟩ := hV9
      have ht_b18 : t b18 = (26, 5, 0) := ht_b18
      refine lv_iload_n hx hb dX5_worthOf_31 rfl (lv_at hl 1 rfl) ?_
      refine tk_aald hx hb hK hG 3 rfl rfl ht_b18 (by decide) (fun _ h => h) tk_no (I := 3) (by decide) (by decide) (by decide) dX5_worthOf_32 (fun o19 ht_o19 => ?_)
      obtain ⟨rfl, ht_ld33⟩ := ht_o19
      have ht_ld33 : t (ld 33) = (10, 0, 13) := ht_ld33
      refine fx_top (v := .ref (ld 33)) rfl ?_
      refine lv_astore (lv' := [(4, .ref (ld 33)), (0, .ref a0), (1, .int 3), (2, .int p2), (3, .int p3)]) hx hb dX5_worthOf_33 hl (by decide) rfl (fun ls hl => ?_)
      refine lv_aload_n hx hb dX5_worthOf_35 rfl (lv_at hl 1 rfl) ?_
      refine tk_get (ci := 5) (C := RX5) (T := TX5) (N := 11) (sp := (6, 26, 5, 0)) hx hb htl inX5 hown hK hG ht_a0 (by decide) tk_no rfl 2 (by decide) (htl _ mw_149) (fun _ h9 => h9) rfl dX5_worthOf_36 (fun v9 hf20 hV9 => ?_)
      obtain ⟨b21, rfl, ht_b21⟩ := hV9
      have ht_b21 : t b21 = (26, 5, 0) := ht_b21
      refine lv_iload_n hx hb dX5_worthOf_39 rfl (lv_at hl 2 rfl) ?_
      refine lv_iconst (v := 1) hx hb dX5_worthOf_40 (by decide) ?_
      refine lv_iadd hx hb dX5_worthOf_41 ?_
      refine fx_ti (v := 4) (by decide) ?_
      refine tk_aald hx hb hK hG 3 rfl rfl ht_b21 (by decide) (fun _ h => h) tk_no (I := 4) (by decide) (by decide) (by decide) dX5_worthOf_42 (fun o22 ht_o22 => ?_)
      obtain ⟨rfl, ht_ld34⟩ := ht_o22
      have ht_ld34 : t (ld 34) = (10, 0, 14) := ht_ld34
      refine fx_top (v := .ref (ld 34)) rfl ?_
      refine lv_astore (lv' := [(5, .ref (ld 34)), (4, .ref (ld 33)), (0, .ref a0), (1, .int 3), (2, .int p2), (3, .int p3)]) hx hb dX5_worthOf_43 hl (by decide) rfl (fun ls hl => ?_)
      refine lv_iconst (v := (-1)) hx hb dX5_worthOf_45 (by decide) ?_
      refine lv_istore (lv' := [(6, .int (-1)), (5, .ref (ld 34)), (4, .ref (ld 33)), (0, .ref a0), (1, .int 3), (2, .int p2), (3, .int p3)]) hx hb dX5_worthOf_46 hl (by decide) rfl (fun ls hl => ?_)
      refine lv_iconst (v := 0) hx hb dX5_worthOf_48 (by decide) ?_
      refine lv_istore (lv' := [(7, .int 0), (6, .int (-1)), (5, .ref (ld 34)), (4, .ref (ld 33)), (0, .ref a0), (1, .int 3), (2, .int p2), (3, .int p3)]) hx hb dX5_worthOf_49 hl (by decide) rfl (fun ls hl => ?_)
      refine lv_iconst (v := 0) hx hb dX5_worthOf_51 (by decide) ?_
      refine lv_istore (lv' := [(8, .int 0), (7, .int 0), (6, .int (-1)), (5, .ref (ld 34)), (4, .ref (ld 33)), (0, .ref a0), (1, .int 3), (2, .int p2), (3, .int p3)]) hx hb dX5_worthOf_52 hl (by decide) rfl (fun ls hl => ?_)
      have hl1927 : ∀ (N_l1927 : Nat) (v23 : Int32) (v24 : Int32) (v25 : Int32) (H : Heap) (locs : List Loc), v23.toInt ≤ 10 → 0 ≤ v24.toInt → (-1) ≤ v25.toInt → 0 ≤ v23.toInt + (-1) * v25.toInt + (-1) → v24.toInt ≤ 100 → (-1) * v23.toInt + 10 < (N_l1927 : Int) → tk_G D cy ld t [] H → va_S (tk_w t [(20, 0, 0), (12, 0, 0), (9, 0, 0), (20, 14, 14), (10, 14, 14)]) s.heap H locs → tk_f D H (ld 33) 9 5 (.int v8) → ∀ ls : Array Slot, lv_has ls 11 [(8, .int v23), (7, .int v24), (6, .int v25), (5, .ref (ld 34)), (4, .ref (ld 33)), (0, .ref a0), (1, .int 3), (2, .int p2), (3, .int p3)] → W p l e ({ frames := 7, cells := 0, slots := 0, locals := 420 }) s m args below meth c H locs 0 0 (MQ below (ti D cy ld t [] (fun r H => 0 ≤ r.toInt ∧ r.toInt ≤ 100) (tk_w t [(20, 0, 0), (12, 0, 0), (9, 0, 0), (20, 14, 14), (10, 14, 14)])) args s 0 0 (tk_w t [(20, 0, 0), (12, 0, 0), (9, 0, 0), (20, 14, 14), (10, 14, 14)])) (F0 m 54 ls []) := by
        intro N_l1927
        induction N_l1927 with
        | zero => intro v23 v24 v25 H locs hq0_l1927 hq1_l1927 hq2_l1927 hq3_l1927 hq4_l1927 hm_l1927 hG hS hf7 ls hl; exfalso; omega
        | succ N_l1927 ih_l1927 =>
          intro v23 v24 v25 H locs hq0_l1927 hq1_l1927 hq2_l1927 hq3_l1927 hq4_l1927 hm_l1927 hG hS hf7 ls hl
          refine lv_iload hx hb dX5_worthOf_54 (lv_at hl 0 rfl) ?_
          refine lv_aload_n hx hb dX5_worthOf_56 rfl (lv_at hl 5 rfl) ?_
          refine tk_get (ci := 5) (C := RX5) (T := TX5) (N := 11) (sp := (8, 20, 3, 0)) hx hb htl inX5 hown hK hG ht_a0 (by decide) tk_no rfl 0 (by decide) (htl _ mw_155) (fun _ h9 => h9) rfl dX5_worthOf_57 (fun v9 hf1928 hV9 => ?_)
          obtain ⟨rfl, ht_ld20⟩ := hV9
          have ht_ld20 : t (ld 20) = (3, 0, 0) := ht_ld20
          refine fx_top (v := .ref (ld 20)) rfl ?_
          refine tk_get (ci := 2) (C := RX2) (T := TX2) (N := 20) (sp := (0, 0, 10, 0)) hx hb htl inX2 hown hK hG ht_ld20 (by decide) tk_no rfl 4 (by decide) (htl _ mw_1297) (fun _ h9 => h9) rfl dX5_worthOf_60 (fun v9 hf1929 hV9 => ?_)
          obtain ⟨v1930, rfl, (ha_v1930 : 0 ≤ v1930.toInt), (hb_v1930 : v1930.toInt ≤ 10)⟩ := hV9
          have hj2076 : ∀ (_ : Unit), ∀ ls : Array Slot, lv_has ls 11 [(7, .int v24), (6, .int v25), (0, .ref a0), (1, .int 3)] → W p l e ({ frames := 7, cells := 0, slots := 0, locals := 420 }) s m args below meth c H locs 0 0 (MQ below (ti D cy ld t [] (fun r H => 0 ≤ r.toInt ∧ r.toInt ≤ 100) (tk_w t [(20, 0, 0), (12, 0, 0), (9, 0, 0), (20, 14, 14), (10, 14, 14)])) args s 0 0 (tk_w t [(20, 0, 0), (12, 0, 0), (9, 0, 0), (20, 14, 14), (10, 14, 14)])) (F0 m 183 ls []) := by
            intro _  ls hl
            refine lv_iload_n hx hb dX5_worthOf_183 rfl (lv_at hl 3 rfl) ?_
            refine lv_if_ne (tgt := 193) hx hb dX5_worthOf_184 (by decide) (fun _ => ?_) (fun c9 => absurd c9 (by decide))
            refine lv_iload hx hb dX5_worthOf_193 (lv_at hl 0 rfl) ?_
            exact tk_iret (v := v24) hx hb hr rfl hlocks (show 0 ≤ v24.toInt ∧ v24.toInt ≤ 100 from ⟨(by omega), (by omega)⟩) hG hS dX5_worthOf_195
          refine lv_icmp_ge (tgt := 183) hx hb dX5_worthOf_63 (by decide) (fun c9 => ?_) (fun c9 => ?_)
          · have hc1931 : v1930.toInt ≤ v23.toInt := (fi_le rfl rfl).mp c9
            exact hj2076 () _ (lv_sub hl [1, 2, 5, 6] rfl)
          · have hc1931 : ¬ (v1930.toInt ≤ v23.toInt) := fun h9 => c9 ((fi_le rfl rfl).mpr h9)
            refine lv_iload hx hb dX5_worthOf_66 (lv_at hl 2 rfl) ?_
            refine lv_iconst (v := (-1)) hx hb dX5_worthOf_68 (by decide) ?_
            refine lv_icmp_eq (tgt := 78) hx hb dX5_worthOf_69 (by decide) (fun c9 => ?_) (fun c9 => ?_)
            · have hc2077 : v25.toInt = (-1) := (fi_eq rfl (show ((-1) : Int32).toInt = (-1) by decide)).mp c9
              refine lv_aload_n hx hb dX5_worthOf_78 rfl (lv_at hl 5 rfl) ?_
              refine tk_get (ci := 5) (C := RX5) (T := TX5) (N := 11) (sp := (6, 9, 0, 0)) hx hb htl inX5 hown hK hG ht_a0 (by decide) tk_no rfl 1 (by decide) (htl _ mw_156) (fun _ h9 => h9) rfl dX5_worthOf_79 (fun v9 hf2078 hV9 => ?_)
              obtain ⟨b2079, rfl, ht_b2079⟩ := hV9
              have ht_b2079 : t b2079 = (9, 0, 0) := ht_b2079
              refine lv_aload hx hb dX5_worthOf_82 (lv_at hl 4 rfl) ?_
              refine lv_iload hx hb dX5_worthOf_84 (lv_at hl 0 rfl) ?_
              refine tk_Vi (As := [.ref (ld 33), .int v23]) (rest := []) (ci := 8) ⟨hx, hb, hml, hown, hts⟩ hK hG hZ hS (k_X8_isBarred l D cy ld t 13 b2079 (ld 33) v23 v8 ht_b2079 ht_ld33 (by omega) (by omega) (by omega) (by omega)) hf7 ⟨callB_of 2 hts (wl_in mw_901) rfl rfl rfl (htl _ mw_21) (htl _ mw_1300) hd_yX8_isBarred ⟨(Nat.le_of_ble_eq_true rfl), (Nat.le_of_ble_eq_true rfl)⟩, htl _ mw_899, htl _ mw_900⟩ ht_b2079 (by decide) tk_no rfl (tk_w.pick [0, 1, 2] rfl) rfl hl.1 rfl (Nat.le_of_ble_eq_true rfl) dX5_worthOf_86 ⟨(Nat.le_of_ble_eq_true rfl), (Nat.le_of_ble_eq_true rfl)⟩ (fun v2080 H locs hpo hG hS hq9 => ?_)
              have hf7 := hf7.call hq9 (tk_w.no ht_ld33 (by decide))
              have hf1929 := hf1929.call hq9 (tk_w.no ht_ld20 (by decide))
              obtain ⟨hpo2082, hpo2083, hpo2084, hpo2085⟩ := hpo
              have hj2119 : ∀ (v2116 : Int32) (v2117 : Int32) (H : Heap) (locs : List Loc), v2116.toInt ≤ 100 → 0 ≤ v2116.toInt + (-1) * v25.toInt + (-1) → 0 ≤ (-1) * v2117.toInt + v23.toInt → 0 ≤ v2117.toInt + (-1) * v25.toInt → tk_G D cy ld t [] H → va_S (tk_w t [(20, 0, 0), (12, 0, 0), (9, 0, 0), (20, 14, 14), (10, 14, 14)]) s.heap H locs → tk_f D H (ld 33) 9 5 (.int v8) → tk_f D H (ld 20) 2 4 (.int v1930) → ∀ ls : Array Slot, lv_has ls 11 [(7, .int v2116), (6, .int v2117), (8, .int v23), (5, .ref (ld 34)), (4, .ref (ld 33)), (0, .ref a0), (1, .int 3), (2, .int p2), (3, .int p3)] → W p l e ({ frames := 7, cells := 0, slots := 0, locals := 420 }) s m args below meth c H locs 0 0 (MQ below (ti D cy ld t [] (fun r H => 0 ≤ r.toInt ∧ r.toInt ≤ 100) (tk_w t [(20, 0, 0), (12, 0, 0), (9, 0, 0), (20, 14, 14), (10, 14, 14)])) args s 0 0 (tk_w t [(20, 0, 0), (12, 0, 0), (9, 0, 0), (20, 14, 14), (10, 14, 14)])) (F0 m 177 ls []) := by
                intro v2116 v2117 H locs hq0_j2119 hq1_j2119 hq2_j2119 hq3_j2119 hG hS hf7 hf1929 ls hl
                obtain ⟨v2120, h_v2120, e_v2120⟩ := tk_inc v23 1 (by decide) (by omega) (by omega)
                refine lv_iinc (v := v2120) (lv' := [(8, .int v2120), (7, .int v2116), (6, .int v2117), (5, .ref (ld 34)), (4, .ref (ld 33)), (0, .ref a0), (1, .int 3), (2, .int p2), (3, .int p3)]) hx hb dX5_worthOf_177 hl (k := 2) rfl e_v2120 (by decide) rfl (fun ls hl => ?_)
                refine lv_goto (tgt := 54) hx hb dX5_worthOf_180 (by decide) ?_
                exact ih_l1927 v2120 v2116 v2117 _ _ (by omega) (by omega) (by omega) (by omega) (by omega) (by omega) hG hS hf7 _ (lv_sub hl [0, 1, 2, 3, 4, 5, 6, 7, 8] rfl)
              refine lv_if_eq (tgt := 95) hx hb dX5_worthOf_89 (by decide) (fun c9 => ?_) (fun c9 => ?_)
              · have hc2086 : v2080.toInt = 0 := (fi_eq rfl (show (0 : Int32).toInt = 0 by decide)).mp c9
                refine lv_aload hx hb dX5_worthOf_95 (lv_at hl 3 rfl) ?_
                refine lv_aload hx hb dX5_worthOf_97 (lv_at hl 4 rfl) ?_
                refine tk_Vv (As := [.ref (ld 33)]) (rest := []) (ci := 9) ⟨hx, hb, hml, hown, hts⟩ hK hG hZ hS (k_X9_copyFrom l D cy ld t 14 13 (ld 34) (ld 33) v8 ht_ld34 ht_ld33 (by omega) (by omega) (by omega)) hf7 ⟨callB_of 1 hts (wl_in mw_821) rfl rfl rfl (htl _ mw_76) (htl _ mw_1292) hd_yX9_copyFrom ⟨(Nat.le_of_ble_eq_true rfl), (Nat.le_of_ble_eq_true rfl)⟩, htl _ mw_819, htl _ mw_820⟩ ht_ld34 (by decide) tk_no rfl (tk_w.pick [3, 4] rfl) rfl hl.1 rfl (Nat.le_of_ble_eq_true rfl) dX5_worthOf_99 ⟨(Nat.le_of_ble_eq_true rfl), (Nat.le_of_ble_eq_true rfl)⟩ (fun H locs hpo hG hS hq9 => ?_)
                have hf7 := hf7.call hq9 (tk_w.no ht_ld33 (by decide))
                have hf1929 := hf1929.call hq9 (tk_w.no ht_ld20 (by decide))
                have hf2122 := hpo
                refine lv_iload hx hb dX5_worthOf_102 (lv_at hl 2 rfl) ?_
                refine lv_iconst (v := (-1)) hx hb dX5_worthOf_104 (by decide) ?_
                refine lv_icmp_ne (tgt := 112) hx hb dX5_worthOf_105 (by decide) (fun c9 => absurd ((fi_eq rfl (show ((-1) : Int32).toInt = (-1) by decide)).mpr (show v25.toInt = (-1) by omega)) c9) (fun _ => ?_)
                refine lv_iload_n hx hb dX5_worthOf_108 rfl (lv_at hl 7 rfl) ?_
                refine lv_goto (tgt := 118) hx hb dX5_worthOf_109 (by decide) ?_
                refine lv_istore (lv' := [(9, .int p2), (8, .int v23), (7, .int v24), (6, .int v25), (5, .ref (ld 34)), (4, .ref (ld 33)), (0, .ref a0), (1, .int 3), (2, .int p2), (3, .int p3)]) hx hb dX5_worthOf_118 hl (by decide) rfl (fun ls hl => ?_)
                refine lv_aload_n hx hb dX5_worthOf_120 rfl (lv_at hl 6 rfl) ?_
                refine tk_get (ci := 5) (C := RX5) (T := TX5) (N := 11) (sp := (6, 9, 0, 0)) hx hb htl inX5 hown hK hG ht_a0 (by decide) tk_no rfl 1 (by decide) (htl _ mw_156) (fun _ h9 => h9) rfl dX5_worthOf_121 (fun v9 hf2123 hV9 => ?_)
                obtain ⟨b2124, rfl, ht_b2124⟩ := hV9
                have ht_b2124 : t b2124 = (9, 0, 0) := ht_b2124
                refine lv_aload hx hb dX5_worthOf_124 (lv_at hl 4 rfl) ?_
                refine lv_iload hx hb dX5_worthOf_126 (lv_at hl 1 rfl) ?_
                refine tk_Vi (As := [.ref (ld 34), .int v23]) (rest := []) (ci := 8) ⟨hx, hb, hml, hown, hts⟩ hK hG hZ hS (k_X8_singOn l D cy ld t 14 b2124 (ld 34) v23 v8 ht_b2124 ht_ld34 (by omega) (by omega) (by omega) (by omega)) hf2122 ⟨callB_of 2 hts (wl_in mw_946) rfl rfl rfl (htl _ mw_21) (htl _ mw_1301) hd_yX8_singOn ⟨(Nat.le_of_ble_eq_true rfl), (Nat.le_of_ble_eq_true rfl)⟩, htl _ mw_944, htl _ mw_945⟩ ht_b2124 (by decide) tk_no rfl (tk_w.pick [0, 1, 2, 3, 4] rfl) rfl hl.1 rfl (Nat.le_of_ble_eq_true rfl) dX5_worthOf_128 ⟨(Nat.le_of_ble_eq_true rfl), (Nat.le_of_ble_eq_true rfl)⟩ (fun v2125 H locs hpo hG hS hq9 => ?_)
                have hf7 := hf7.call hq9 (tk_w.no ht_ld33 (by decide))
                have hf1929 := hf1929.call hq9 (tk_w.no ht_ld20 (by decide))
                have hj2139 : ∀ (v2137 : Int32) (H : Heap) (locs : List Loc), v2137.toInt ≤ 97 → 0 ≤ v2137.toInt + (-1) * v25.toInt + (-1) → tk_G D cy ld t [] H → va_S (tk_w t [(20, 0, 0), (12, 0, 0), (9, 0, 0), (20, 14, 14), (10, 14, 14)]) s.heap H locs → tk_f D H (ld 33) 9 5 (.int v8) → tk_f D H (ld 20) 2 4 (.int v1930) → ∀ ls : Array Slot, lv_has ls 11 [(8, .int v23), (7, .int v24), (6, .int v25), (5, .ref (ld 34)), (4, .ref (ld 33)), (0, .ref a0), (1, .int 3), (2, .int p2), (3, .int p3)] → W p l e ({ frames := 7, cells := 0, slots := 0, locals := 420 }) s m args below meth c H locs 0 0 (MQ below (ti D cy ld t [] (fun r H => 0 ≤ r.toInt ∧ r.toInt ≤ 100) (tk_w t [(20, 0, 0), (12, 0, 0), (9, 0, 0), (20, 14, 14), (10, 14, 14)])) args s 0 0 (tk_w t [(20, 0, 0), (12, 0, 0), (9, 0, 0), (20, 14, 14), (10, 14, 14)])) (F0 m 154 ls [.int v2137]) := by
                  intro v2137 H locs hq0_j2139 hq1_j2139 hG hS hf7 hf1929 ls hl
                  refine lv_istore (lv' := [(10, .int v2137), (8, .int v23), (7, .int v24), (6, .int v25), (5, .ref (ld 34)), (4, .ref (ld 33)), (0, .ref a0), (1, .int 3), (2, .int p2), (3, .int p3)]) hx hb dX5_worthOf_154 hl (by decide) rfl (fun ls hl => ?_)
                  refine lv_iload hx hb dX5_worthOf_156 (lv_at hl 3 rfl) ?_
                  refine lv_iconst (v := (-1)) hx hb dX5_worthOf_158 (by decide) ?_
                  refine lv_icmp_eq (tgt := 169) hx hb dX5_worthOf_159 (by decide) (fun _ => ?_) (fun c9 => absurd ((fi_eq rfl (show ((-1) : Int32).toInt = (-1) by decide)).mpr (show v25.toInt = (-1) by omega)) c9)
                  refine lv_iload hx hb dX5_worthOf_169 (lv_at hl 1 rfl) ?_
                  refine lv_istore (lv' := [(6, .int v23), (10, .int v2137), (8, .int v23), (7, .int v24), (5, .ref (ld 34)), (4, .ref (ld 33)), (0, .ref a0), (1, .int 3), (2, .int p2), (3, .int p3)]) hx hb dX5_worthOf_171 hl (by decide) rfl (fun ls hl => ?_)
                  refine lv_iload hx hb dX5_worthOf_173 (lv_at hl 1 rfl) ?_
                  refine lv_istore (lv' := [(7, .int v2137), (6, .int v23), (10, .int v2137), (8, .int v23), (5, .ref (ld 34)), (4, .ref (ld 33)), (0, .ref a0), (1, .int 3), (2, .int p2), (3, .int p3)]) hx hb dX5_worthOf_175 hl (by decide) rfl (fun ls hl => ?_)
                  exact hj2119 v2137 v23 _ _ (by omega) (by omega) (by omega) (by omega) hG hS hf7 hf1929 _ (lv_sub hl [0, 1, 3, 4, 5, 6, 7, 8, 9] rfl)
                refine lv_if_ne (tgt := 141) hx hb dX5_worthOf_131 (by decide) (fun c9 => ?_) (fun c9 => ?_)
                · have hc2127 : ¬ (v2125.toInt = 0) := fun h9 => c9 ((fi_eq rfl (show (0 : Int32).toInt = 0 by decide)).mpr h9)
                  refine lv_aload_n hx hb dX5_worthOf_141 rfl (lv_at hl 6 rfl) ?_
                  refine lv_iload_n hx hb dX5_worthOf_142 rfl (lv_at hl 7 rfl) ?_
                  refine lv_iconst (v := 1) hx hb dX5_worthOf_143 (by decide) ?_
                  refine lv_iadd hx hb dX5_worthOf_144 ?_
                  refine fx_ti (v := 4) (by decide) ?_
                  refine lv_iload_n hx hb dX5_worthOf_145 rfl (lv_at hl 9 rfl) ?_
                  refine lv_ineg hx hb dX5_worthOf_146 ?_
                  refine tk_any (fun v2140 => ?_)
                  refine lv_iload hx hb dX5_worthOf_147 (lv_at hl 0 rfl) ?_
                  refine lv_ineg hx hb dX5_worthOf_149 ?_
                  refine tk_any (fun v2141 => ?_)
                  have hk_4 : (4 : Int32).toInt = 4 := by decide
                  refine tk_Vi (As := [.int 4, .int v2140, .int v2141]) (rest := []) (ci := 5) ⟨hx, hb, hml, hown, hts⟩ hK hG hZ hS (k_X5_worthOf_4 l D cy ld t a0 v2140 v2141 ht_a0) trivial ⟨callB_of 3 hts (wl_in mw_1296) rfl rfl rfl (htl _ mw_40) (htl _ mw_1293) hd_yX5_worthOf ⟨(Nat.le_of_ble_eq_true rfl), (Nat.le_of_ble_eq_true rfl)⟩, htl _ mw_1294, htl _ mw_1295⟩ ht_a0 (by decide) tk_no rfl (tk_w.pick [] rfl) rfl hl.1 rfl (Nat.le_of_ble_eq_true rfl) dX5_worthOf_150 ⟨(Nat.le_of_ble_eq_true rfl), (Nat.le_of_ble_eq_true rfl)⟩ (fun v2142 H locs hpo hG hS hq9 => ?_)
                  have hf7 := hf7.call hq9 tk_w.nil
                  have hf1929 := hf1929.call hq9 tk_w.nil
                  obtain ⟨hpo2144, hpo2145⟩ := hpo
                  refine lv_ineg hx hb dX5_worthOf_153 ?_
                  refine tk_neg rfl (by omega) (by omega) (fun v2146 h_v2146 => ?_)
                  exact hj2139 v2146 _ _ (by omega) (by omega) hG hS hf7 hf1929 _ (lv_sub hl [1, 2, 3, 4, 5, 6, 7, 8, 9] rfl)
                · have hc2127 : v2125.toInt = 0 := (fi_eq rfl (show (0 : Int32).toInt = 0 by decide)).mp c9
                  refine lv_bipush (v := 100) hx hb dX5_worthOf_134 (by decide) ?_
                  refine lv_iload_n hx hb dX5_worthOf_136 rfl (lv_at hl 7 rfl) ?_
                  refine lv_isub hx hb dX5_worthOf_137 ?_
                  refine fx_ti (v := 97) (by decide) ?_
                  refine lv_goto (tgt := 154) hx hb dX5_worthOf_138 (by decide) ?_
                  have hk_97 : (97 : Int32).toInt = 97 := by decide
                  exact hj2139 97 _ _ (by omega) (by omega) hG hS hf7 hf1929 _ (lv_sub hl [1, 2, 3, 4, 5, 6, 7, 8, 9] rfl)
              · have hc2086 : ¬ (v2080.toInt = 0) := fun h9 => c9 ((fi_eq rfl (show (0 : Int32).toInt = 0 by decide)).mpr h9)
                refine lv_goto (tgt := 177) hx hb dX5_worthOf_92 (by decide) ?_
                exact hj2119 v24 v25 _ _ (by omega) (by omega) (by omega) (by omega) hG hS hf7 hf1929 _ (lv_sub hl [1, 2, 0, 3, 4, 5, 6, 7, 8] rfl)
            · have hc2077 : ¬ (v25.toInt = (-1)) := fun h9 => c9 ((fi_eq rfl (show ((-1) : Int32).toInt = (-1) by decide)).mpr h9)
              refine lv_iload hx hb dX5_worthOf_72 (lv_at hl 1 rfl) ?_
              refine lv_iload_n hx hb dX5_worthOf_74 rfl (lv_at hl 8 rfl) ?_
              refine lv_icmp_ge (tgt := 183) hx hb dX5_worthOf_75 (by decide) (fun c9 => ?_) (fun c9 => ?_)
              · have hc2147 : p3.toInt ≤ v24.toInt := (fi_le rfl rfl).mp c9
                exact hj2076 () _ (lv_sub hl [1, 2, 5, 6] rfl)
              · have hc2147 : ¬ (p3.toInt ≤ v24.toInt) := fun h9 => c9 ((fi_le rfl rfl).mpr h9)
                refine lv_aload_n hx hb dX5_worthOf_78 rfl (lv_at hl 5 rfl) ?_
                refine tk_get (ci := 5) (C := RX5) (T := TX5) (N := 11) (sp := (6, 9, 0, 0)) hx hb htl inX5 hown hK hG ht_a0 (by decide) tk_no rfl 1 (by decide) (htl _ mw_156) (fun _ h9 => h9) rfl dX5_worthOf_79 (fun v9 hf2148 hV9 => ?_)
                obtain ⟨b2149, rfl, ht_b2149⟩ := hV9
                have ht_b2149 : t b2149 = (9, 0, 0) := ht_b2149
                refine lv_aload hx hb dX5_worthOf_82 (lv_at hl 4 rfl) ?_
                refine lv_iload hx hb dX5_worthOf_84 (lv_at hl 0 rfl) ?_
                refine tk_Vi (As := [.ref (ld 33), .int v23]) (rest := []) (ci := 8) ⟨hx, hb, hml, hown, hts⟩ hK hG hZ hS (k_X8_isBarred l D cy ld t 13 b2149 (ld 33) v23 v8 ht_b2149 ht_ld33 (by omega) (by omega) (by omega) (by omega)) hf7 ⟨callB_of 2 hts (wl_in mw_901) rfl rfl rfl (htl _ mw_21) (htl _ mw_1300) hd_yX8_isBarred ⟨(Nat.le_of_ble_eq_true rfl), (Nat.le_of_ble_eq_true rfl)⟩, htl _ mw_899, htl _ mw_900⟩ ht_b2149 (by decide) tk_no rfl (tk_w.pick [0, 1, 2] rfl) rfl hl.1 rfl (Nat.le_of_ble_eq_true rfl) dX5_worthOf_86 ⟨(Nat.le_of_ble_eq_true rfl), (Nat.le_of_ble_eq_true rfl)⟩ (fun v2150 H locs hpo hG hS hq9 => ?_)
                have hf7 := hf7.call hq9 (tk_w.no ht_ld33 (by decide))
                have hf1929 := hf1929.call hq9 (tk_w.no ht_ld20 (by decide))
                obtain ⟨hpo2152, hpo2153, hpo2154, hpo2155⟩ := hpo
                have hj2191 : ∀ (v2188 : Int32) (v2189 : Int32) (H : Heap) (locs : List Loc), v2188.toInt ≤ 100 → 0 ≤ v2188.toInt + (-1) * v24.toInt → 0 ≤ (-1) * v2189.toInt + v23.toInt → 0 ≤ v2189.toInt + (-1) * v25.toInt → tk_G D cy ld t [] H → va_S (tk_w t [(20, 0, 0), (12, 0, 0), (9, 0, 0), (20, 14, 14), (10, 14, 14)]) s.heap H locs → tk_f D H (ld 33) 9 5 (.int v8) → tk_f D H (ld 20) 2 4 (.int v1930) → ∀ ls : Array Slot, lv_has ls 11 [(8, .int v23), (7, .int v2188), (6, .int v2189), (5, .ref (ld 34)), (4, .ref (ld 33)), (0, .ref a0), (1, .int 3), (2, .int p2), (3, .int p3)] → W p l e ({ frames := 7, cells := 0, slots := 0, locals := 420 }) s m args below meth c H locs 0 0 (MQ below (ti D cy ld t [] (fun r H => 0 ≤ r.toInt ∧ r.toInt ≤ 100) (tk_w t [(20, 0, 0), (12, 0, 0), (9, 0, 0), (20, 14, 14), (10, 14, 14)])) args s 0 0 (tk_w t [(20, 0, 0), (12, 0, 0), (9, 0, 0), (20, 14, 14), (10, 14, 14)])) (F0 m 177 ls []) := by
                  intro v2188 v2189 H locs hq0_j2191 hq1_j2191 hq2_j2191 hq3_j2191 hG hS hf7 hf1929 ls hl
                  obtain ⟨v2192, h_v2192, e_v2192⟩ := tk_inc v23 1 (by decide) (by omega) (by omega)
                  refine lv_iinc (v := v2192) (lv' := [(8, .int v2192), (7, .int v2188), (6, .int v2189), (5, .ref (ld 34)), (4, .ref (ld 33)), (0, .ref a0), (1, .int 3), (2, .int p2), (3, .int p3)]) hx hb dX5_worthOf_177 hl (k := 0) rfl e_v2192 (by decide) rfl (fun ls hl => ?_)
                  refine lv_goto (tgt := 54) hx hb dX5_worthOf_180 (by decide) ?_
                  exact ih_l1927 v2192 v2188 v2189 _ _ (by omega) (by omega) (by omega) (by omega) (by omega) (by omega) hG hS hf7 _ (lv_sub hl [0, 1, 2, 3, 4, 5, 6, 7, 8] rfl)
                refine lv_if_eq (tgt := 95) hx hb dX5_worthOf_89 (by decide) (fun c9 => ?_) (fun c9 => ?_)
                · have hc2156 : v2150.toInt = 0 := (fi_eq rfl (show (0 : Int32).toInt = 0 by decide)).mp c9
                  refine lv_aload hx hb dX5_worthOf_95 (lv_at hl 3 rfl) ?_
                  refine lv_aload hx hb dX5_worthOf_97 (lv_at hl 4 rfl) ?_
                  refine tk_Vv (As := [.ref (ld 33)]) (rest := []) (ci := 9) ⟨hx, hb, hml, hown, hts⟩ hK hG hZ hS (k_X9_copyFrom l D cy ld t 14 13 (ld 34) (ld 33) v8 ht_ld34 ht_ld33 (by omega) (by omega) (by omega)) hf7 ⟨callB_of 1 hts (wl_in mw_821) rfl rfl rfl (htl _ mw_76) (htl _ mw_1292) hd_yX9_copyFrom ⟨(Nat.le_of_ble_eq_true rfl), (Nat.le_of_ble_eq_true rfl)⟩, htl _ mw_819, htl _ mw_820⟩ ht_ld34 (by decide) tk_no rfl (tk_w.pick [3, 4] rfl) rfl hl.1 rfl (Nat.le_of_ble_eq_true rfl) dX5_worthOf_99 ⟨(Nat.le_of_ble_eq_true rfl), (Nat.le_of_ble_eq_true rfl)⟩ (fun H locs hpo hG hS hq9 => ?_)
                  have hf7 := hf7.call hq9 (tk_w.no ht_ld33 (by decide))
                  have hf1929 := hf1929.call hq9 (tk_w.no ht_ld20 (by decide))
                  have hf2194 := hpo
                  refine lv_iload hx hb dX5_worthOf_102 (lv_at hl 2 rfl) ?_
                  refine lv_iconst (v := (-1)) hx hb dX5_worthOf_104 (by decide) ?_
                  refine lv_icmp_ne (tgt := 112) hx hb dX5_worthOf_105 (by decide) (fun _ => ?_) (fun c9 => absurd (show v25.toInt = (-1) from (fi_eq rfl (show ((-1) : Int32).toInt = (-1) by decide)).mp c9) (by omega))
                  refine lv_iload_n hx hb dX5_worthOf_112 rfl (lv_at hl 7 rfl) ?_
                  refine lv_iload hx hb dX5_worthOf_113 (lv_at hl 1 rfl) ?_
                  refine va_mmax hx hb (by rw [hml]; exact hl.1.symm) hown (htl _ mw_1298) (htl _ mw_948) (htl _ mw_474) (htl _ mw_949) (Nat.le_of_ble_eq_true rfl) (Nat.le_of_ble_eq_true rfl) (Nat.le_of_ble_eq_true rfl) (Nat.le_of_ble_eq_true rfl) dX5_worthOf_115 ?_
                  refine tk_say (P := fun z => p2.toInt ≤ z.toInt ∧ v24.toInt ≤ z.toInt ∧ (z.toInt = p2.toInt ∨ z.toInt = v24.toInt)) (tk_max rfl rfl) (fun v2195 h_v2195 => ?_)
                  refine lv_istore (lv' := [(9, .int v2195), (8, .int v23), (7, .int v24), (6, .int v25), (5, .ref (ld 34)), (4, .ref (ld 33)), (0, .ref a0), (1, .int 3), (2, .int p2), (3, .int p3)]) hx hb dX5_worthOf_118 hl (by decide) rfl (fun ls hl => ?_)
                  refine lv_aload_n hx hb dX5_worthOf_120 rfl (lv_at hl 6 rfl) ?_
                  refine tk_get (ci := 5) (C := RX5) (T := TX5) (N := 11) (sp := (6, 9, 0, 0)) hx hb htl inX5 hown hK hG ht_a0 (by decide) tk_no rfl 1 (by decide) (htl _ mw_156) (fun _ h9 => h9) rfl dX5_worthOf_121 (fun v9 hf2196 hV9 => ?_)
                  obtain ⟨b2197, rfl, ht_b2197⟩ := hV9
                  have ht_b2197 : t b2197 = (9, 0, 0) := ht_b2197
                  refine lv_aload hx hb dX5_worthOf_124 (lv_at hl 4 rfl) ?_
                  refine lv_iload hx hb dX5_worthOf_126 (lv_at hl 1 rfl) ?_
                  refine tk_Vi (As := [.ref (ld 34), .int v23]) (rest := []) (ci := 8) ⟨hx, hb, hml, hown, hts⟩ hK hG hZ hS (k_X8_singOn l D cy ld t 14 b2197 (ld 34) v23 v8 ht_b2197 ht_ld34 (by omega) (by omega) (by omega) (by omega)) hf2194 ⟨callB_of 2 hts (wl_in mw_946) rfl rfl rfl (htl _ mw_21) (htl _ mw_1301) hd_yX8_singOn ⟨(Nat.le_of_ble_eq_true rfl), (Nat.le_of_ble_eq_true rfl)⟩, htl _ mw_944, htl _ mw_945⟩ ht_b2197 (by decide) tk_no rfl (tk_w.pick [0, 1, 2, 3, 4] rfl) rfl hl.1 rfl (Nat.le_of_ble_eq_true rfl) dX5_worthOf_128 ⟨(Nat.le_of_ble_eq_true rfl), (Nat.le_of_ble_eq_true rfl)⟩ (fun v2198 H locs hpo hG hS hq9 => ?_)
                  have hf7 := hf7.call hq9 (tk_w.no ht_ld33 (by decide))
                  have hf1929 := hf1929.call hq9 (tk_w.no ht_ld20 (by decide))
                  have hj2212 : ∀ (v2210 : Int32) (H : Heap) (locs : List Loc), 0 ≤ v2210.toInt → v2210.toInt ≤ 97 → tk_G D cy ld t [] H → va_S (tk_w t [(20, 0, 0), (12, 0, 0), (9, 0, 0), (20, 14, 14), (10, 14, 14)]) s.heap H locs → tk_f D H (ld 33) 9 5 (.int v8) → tk_f D H (ld 20) 2 4 (.int v1930) → ∀ ls : Array Slot, lv_has ls 11 [(8, .int v23), (7, .int v24), (6, .int v25), (5, .ref (ld 34)), (4, .ref (ld 33)), (0, .ref a0), (1, .int 3), (2, .int p2), (3, .int p3)] → W p l e ({ frames := 7, cells := 0, slots := 0, locals := 420 }) s m args below meth c H locs 0 0 (MQ below (ti D cy ld t [] (fun r H => 0 ≤ r.toInt ∧ r.toInt ≤ 100) (tk_w t [(20, 0, 0), (12, 0, 0), (9, 0, 0), (20, 14, 14), (10, 14, 14)])) args s 0 0 (tk_w t [(20, 0, 0), (12, 0, 0), (9, 0, 0), (20, 14, 14), (10, 14, 14)])) (F0 m 154 ls [.int v2210]) := by
                    intro v2210 H locs hq0_j2212 hq1_j2212 hG hS hf7 hf1929 ls hl
                    refine lv_istore (lv' := [(10, .int v2210), (8, .int v23), (7, .int v24), (6, .int v25), (5, .ref (ld 34)), (4, .ref (ld 33)), (0, .ref a0), (1, .int 3), (2, .int p2), (3, .int p3)]) hx hb dX5_worthOf_154 hl (by decide) rfl (fun ls hl => ?_)
                    refine lv_iload hx hb dX5_worthOf_156 (lv_at hl 3 rfl) ?_
                    refine lv_iconst (v := (-1)) hx hb dX5_worthOf_158 (by decide) ?_
                    refine lv_icmp_eq (tgt := 169) hx hb dX5_worthOf_159 (by decide) (fun c9 => absurd (show v25.toInt = (-1) from (fi_eq rfl (show ((-1) : Int32).toInt = (-1) by decide)).mp c9) (by omega)) (fun _ => ?_)
                    refine lv_iload hx hb dX5_worthOf_162 (lv_at hl 0 rfl) ?_
                    refine lv_iload hx hb dX5_worthOf_164 (lv_at hl 2 rfl) ?_
                    refine lv_icmp_le (tgt := 177) hx hb dX5_worthOf_166 (by decide) (fun c9 => ?_) (fun c9 => ?_)
                    · have hc2213 : v2210.toInt ≤ v24.toInt := (fi_le rfl rfl).mp c9
                      exact hj2191 v24 v25 _ _ (by omega) (by omega) (by omega) (by omega) hG hS hf7 hf1929 _ (lv_sub hl [1, 2, 3, 4, 5, 6, 7, 8, 9] rfl)
                    · have hc2213 : ¬ (v2210.toInt ≤ v24.toInt) := fun h9 => c9 ((fi_le rfl rfl).mpr h9)
                      refine lv_iload hx hb dX5_worthOf_169 (lv_at hl 1 rfl) ?_
                      refine lv_istore (lv' := [(6, .int v23), (10, .int v2210), (8, .int v23), (7, .int v24), (5, .ref (ld 34)), (4, .ref (ld 33)), (0, .ref a0), (1, .int 3), (2, .int p2), (3, .int p3)]) hx hb dX5_worthOf_171 hl (by decide) rfl (fun ls hl => ?_)
                      refine lv_iload hx hb dX5_worthOf_173 (lv_at hl 1 rfl) ?_
                      refine lv_istore (lv' := [(7, .int v2210), (6, .int v23), (10, .int v2210), (8, .int v23), (5, .ref (ld 34)), (4, .ref (ld 33)), (0, .ref a0), (1, .int 3), (2, .int p2), (3, .int p3)]) hx hb dX5_worthOf_175 hl (by decide) rfl (fun ls hl => ?_)
                      exact hj2191 v2210 v23 _ _ (by omega) (by omega) (by omega) (by omega) hG hS hf7 hf1929 _ (lv_sub hl [3, 0, 1, 4, 5, 6, 7, 8, 9] rfl)
                  refine lv_if_ne (tgt := 141) hx hb dX5_worthOf_131 (by decide) (fun c9 => ?_) (fun c9 => ?_)
                  · have hc2200 : ¬ (v2198.toInt = 0) := fun h9 => c9 ((fi_eq rfl (show (0 : Int32).toInt = 0 by decide)).mpr h9)
                    refine lv_aload_n hx hb dX5_worthOf_141 rfl (lv_at hl 6 rfl) ?_
                    refine lv_iload_n hx hb dX5_worthOf_142 rfl (lv_at hl 7 rfl) ?_
                    refine lv_iconst (v := 1) hx hb dX5_worthOf_143 (by decide) ?_
                    refine lv_iadd hx hb dX5_worthOf_144 ?_
                    refine fx_ti (v := 4) (by decide) ?_
                    refine lv_iload_n hx hb dX5_worthOf_145 rfl (lv_at hl 9 rfl) ?_
                    refine lv_ineg hx hb dX5_worthOf_146 ?_
                    refine tk_neg rfl (by omega) (by omega) (fun v2214 h_v2214 => ?_)
                    refine lv_iload hx hb dX5_worthOf_147 (lv_at hl 0 rfl) ?_
                    refine lv_ineg hx hb dX5_worthOf_149 ?_
                    refine tk_neg rfl (by omega) (by omega) (fun v2215 h_v2215 => ?_)
                    have hk_4 : (4 : Int32).toInt = 4 := by decide
                    refine tk_Vi (As := [.int 4, .int v2214, .int v2215]) (rest := []) (ci := 5) ⟨hx, hb, hml, hown, hts⟩ hK hG hZ hS (k_X5_worthOf_4 l D cy ld t a0 v2214 v2215 ht_a0) trivial ⟨callB_of 3 hts (wl_in mw_1296) rfl rfl rfl (htl _ mw_40) (htl _ mw_1293) hd_yX5_worthOf ⟨(Nat.le_of_ble_eq_true rfl), (Nat.le_of_ble_eq_true rfl)⟩, htl _ mw_1294, htl _ mw_1295⟩ ht_a0 (by decide) tk_no rfl (tk_w.pick [] rfl) rfl hl.1 rfl (Nat.le_of_ble_eq_true rfl) dX5_worthOf_150 ⟨(Nat.le_of_ble_eq_true rfl), (Nat.le_of_ble_eq_true rfl)⟩ (fun v2216 H locs hpo hG hS hq9 => ?_)
                    have hf7 := hf7.call hq9 tk_w.nil
                    have hf1929 := hf1929.call hq9 tk_w.nil
                    obtain ⟨hpo2218, hpo2219⟩ := hpo
                    refine lv_ineg hx hb dX5_worthOf_153 ?_
                    refine tk_neg rfl (by omega) (by omega) (fun v2220 h_v2220 => ?_)
                    exact hj2212 v2220 _ _ (by omega) (by omega) hG hS hf7 hf1929 _ (lv_sub hl [1, 2, 3, 4, 5, 6, 7, 8, 9] rfl)
                  · have hc2200 : v2198.toInt = 0 := (fi_eq rfl (show (0 : Int32).toInt = 0 by decide)).mp c9
                    refine lv_bipush (v := 100) hx hb dX5_worthOf_134 (by decide) ?_
                    refine lv_iload_n hx hb dX5_worthOf_136 rfl (lv_at hl 7 rfl) ?_
                    refine lv_isub hx hb dX5_worthOf_137 ?_
                    refine fx_ti (v := 97) (by decide) ?_
                    refine lv_goto (tgt := 154) hx hb dX5_worthOf_138 (by decide) ?_
                    have hk_97 : (97 : Int32).toInt = 97 := by decide
                    exact hj2212 97 _ _ (by omega) (by omega) hG hS hf7 hf1929 _ (lv_sub hl [1, 2, 3, 4, 5, 6, 7, 8, 9] rfl)
                · have hc2156 : ¬ (v2150.toInt = 0) := fun h9 => c9 ((fi_eq rfl (show (0 : Int32).toInt = 0 by decide)).mpr h9)
                  refine lv_goto (tgt := 177) hx hb dX5_worthOf_92 (by decide) ?_
                  exact hj2191 v24 v25 _ _ (by omega) (by omega) (by omega) (by omega) hG hS hf7 hf1929 _ (lv_sub hl [0, 1, 2, 3, 4, 5, 6, 7, 8] rfl)
      have hk_0 : (0 : Int32).toInt = 0 := by decide
      have hk_0 : (0 : Int32).toInt = 0 := by decide
      have hk_m1 : ((-1) : Int32).toInt = (-1) := by decide
      exact hl1927 11 0 0 (-1) _ _ (by omega) (by omega) (by omega) (by omega) (by omega) (by omega) hG hS hf7 _ (lv_sub hl [0, 1, 2, 3, 4, 5, 6, 7, 8] rfl)
    · have hc16 : v9.toInt = 0 := (fi_eq rfl (show (0 : Int32).toInt = 0 by decide)).mp c9
      refine lv_iconst (v := 0) hx hb dX5_worthOf_25 (by decide) ?_
      have hk_0 : (0 : Int32).toInt = 0 := by decide
      exact tk_iret (v := 0) hx hb hr rfl hlocks (show 0 ≤ (0 : Int32).toInt ∧ (0 : Int32).toInt ≤ 100 from ⟨(by omega), (by omega)⟩) hG hS dX5_worthOf_26
set_option maxHeartbeats 4000000 in
set_option maxRecDepth 100000 in
theorem k_X5_worthOf_2 (l : Launch) (D : va_G) (cy : Nat → ClassId) (ld : Nat → Nat) (t : tk_T) (a0 : Nat) (p2 : Int32) (p3 : Int32) (ht_a0 : t a0 = (6, 0, 0)) : Met l yX5_worthOf (wl yX5_worthOf cX5_worthOf 11 (some .int)) ({ frames := 8, cells := 0, slots := 0, locals := 490 }) (tp D cy ld t [] [.ref a0, .int 2, .int p2, .int p3] (fun H => True)) (ti D cy ld t [] (fun r H => (-1000000000) ≤ r.toInt ∧ r.toInt ≤ 100) (tk_w t [(20, 0, 0), (12, 0, 0), (9, 0, 0), (20, 13, 13), (10, 13, 13), (20, 14, 14), (10, 14, 14)])) 0 0 (tk_w t [(20, 0, 0), (12, 0, 0), (9, 0, 0), (20, 13, 13), (10, 13, 13), (20, 14, 14), (10, 14, 14)]) := by
  refine tk_met (y := yX5_worthOf) (cc := cX5_worthOf) (maxL := 11) (ret := (some .int)) (av := [.ref a0, .int 2, .int p2, .int p3]) _ _ (by decide) (Nat.le_of_ble_eq_true rfl) ?_
  intro p e s m args below meth c hx hb hr hml hts htl hown hlocks hK H locs hH hG hS hB hZ ls hl
  have hown : s.vm.findClass RX5 = some m.cls := hown
  have hl : lv_has ls 11 [(0, .ref a0), (1, .int 2), (2, .int p2), (3, .int p3)] := hl
  have hr_p2 := tk_rng p2
  have hr_p3 := tk_rng p3
  refine lv_iload_n hx hb dX5_worthOf_0 rfl (lv_at hl 1 rfl) ?_
  refine lv_aload_n hx hb dX5_worthOf_1 rfl (lv_at hl 0 rfl) ?_
  refine tk_get (ci := 5) (C := RX5) (T := TX5) (N := 11) (sp := (0, (-2147483648), 2147483647, 0)) hx hb htl inX5 hown hK hG ht_a0 (by decide) tk_no rfl 3 (by decide) (htl _ mw_1286) (fun _ h9 => h9) rfl dX5_worthOf_2 (fun v9 hf1 hV9 => ?_)
  obtain ⟨v2, rfl, (ha_v2 : (-2147483648) ≤ v2.toInt), (hb_v2 : v2.toInt ≤ 2147483647)⟩ := hV9
  refine lv_icmp_ge (tgt := 25) hx hb dX5_worthOf_5 (by decide) (fun c9 => ?_) (fun c9 => ?_)
  · have hc3 : v2.toInt ≤ 2 := (fi_le rfl (show (2 : Int32).toInt = 2 by decide)).mp c9
    refine lv_iconst (v := 0) hx hb dX5_worthOf_25 (by decide) ?_
    have hk_0 : (0 : Int32).toInt = 0 := by decide
    exact tk_iret (v := 0) hx hb hr rfl hlocks (show (-1000000000) ≤ (0 : Int32).toInt ∧ (0 : Int32).toInt ≤ 100 from ⟨(by omega), (by omega)⟩) hG hS dX5_worthOf_26
  · have hc3 : ¬ (v2.toInt ≤ 2) := fun h9 => c9 ((fi_le rfl (show (2 : Int32).toInt = 2 by decide)).mpr h9)
    refine lv_iload_n hx hb dX5_worthOf_8 rfl (lv_at hl 1 rfl) ?_
    refine lv_iconst (v := 4) hx hb dX5_worthOf_9 (by decide) ?_
    refine lv_icmp_ge (tgt := 25) hx hb dX5_worthOf_10 (by decide) (fun c9 => absurd c9 (by decide)) (fun _ => ?_)
    refine lv_aload_n hx hb dX5_worthOf_13 rfl (lv_at hl 0 rfl) ?_
    refine tk_get (ci := 5) (C := RX5) (T := TX5) (N := 11) (sp := (6, 26, 5, 0)) hx hb htl inX5 hown hK hG ht_a0 (by decide) tk_no rfl 2 (by decide) (htl _ mw_149) (fun _ h9 => h9) rfl dX5_worthOf_14 (fun v9 hf4 hV9 => ?_)
    obtain ⟨b5, rfl, ht_b5⟩ := hV9
    have ht_b5 : t b5 = (26, 5, 0) := ht_b5
    refine lv_iload_n hx hb dX5_worthOf_17 rfl (lv_at hl 1 rfl) ?_
    refine tk_aald hx hb hK hG 3 rfl rfl ht_b5 (by decide) (fun _ h => h) tk_no (I := 2) (by decide) (by decide) (by decide) dX5_worthOf_18 (fun o6 ht_o6 => ?_)
    obtain ⟨rfl, ht_ld32⟩ := ht_o6
    have ht_ld32 : t (ld 32) = (10, 0, 12) := ht_ld32
    refine fx_top (v := .ref (ld 32)) rfl ?_
    obtain ⟨v9, hf7, hV9⟩ := tk_peek (ci := 9) (C := RX9) (T := TX9) (N := 11) (sp := (0, (-1), 7, 0)) hG ht_ld32 (by decide) tk_no rfl 5 (by decide) rfl
    obtain ⟨v8, rfl, (ha_v8 : (-1) ≤ v8.toInt), (hb_v8 : v8.toInt ≤ 7)⟩ := hV9
    refine tk_Vi (As := []) (rest := []) (ci := 9) ⟨hx, hb, hml, hown, hts⟩ hK hG hZ hS (k_X9_isDuel l D cy ld t 12 (ld 32) v8 ht_ld32 (by omega) (by omega)) hf7 ⟨callB_of 0 hts (wl_in mw_840) rfl rfl rfl (htl _ mw_76) (htl _ mw_1299) hd_yX9_isDuel ⟨(Nat.le_of_ble_eq_true rfl), (Nat.le_of_ble_eq_true rfl)⟩, htl _ mw_838, htl _ mw_839⟩ ht_ld32 (by decide) tk_no rfl (tk_w.pick [] rfl) rfl hl.1 rfl (Nat.le_of_ble_eq_true rfl) dX5_worthOf_19 ⟨(Nat.le_of_ble_eq_true rfl), (Nat.le_of_ble_eq_true rfl)⟩ (fun v9 H locs hpo hG hS hq9 => ?_)
    have hf7 := hf7.call hq9 tk_w.nil
    obtain ⟨hpo11, hpo12, hpo13, hpo14, hpo15⟩ := hpo
    refine lv_if_ne (tgt := 27) hx hb dX5_worthOf_22 (by decide) (fun c9 => ?_) (fun c9 => ?_)
    · have hc16 : ¬ (v9.toInt = 0) := fun h9 => c9 ((fi_eq rfl (show (0 : Int32).toInt = 0 by decide)).mpr h9)
      refine lv_aload_n hx hb dX5_worthOf_27 rfl (lv_at hl 0 rfl) ?_
      refine tk_get (ci := 5) (C := RX5) (T := TX5) (N := 11) (sp := (6, 26, 5, 0)) hx hb htl inX5 hown hK hG ht_a0 (by decide) tk_no rfl 2 (by decide) (htl _ mw_149) (fun _ h9 => h9) rfl dX5_worthOf_28 (fun v9 hf17 hV9 => ?_)
      obtain ⟨b18, rfl, ht_b18⟩ := hV9
      have ht_b18 : t b18 = (26, 5, 0) := ht_b18
      refine lv_iload_n hx hb dX5_worthOf_31 rfl (lv_at hl 1 rfl) ?_
      refine tk_aald hx hb hK hG 3 rfl rfl ht_b18 (by decide) (fun _ h => h) tk_no (I := 2) (by decide) (by decide) (by decide) dX5_worthOf_32 (fun o19 ht_o19 => ?_)
      obtain ⟨rfl, ht_ld32⟩ := ht_o19
      have ht_ld32 : t (ld 32) = (10, 0, 12) := ht_ld32
      refine fx_top (v := .ref (ld 32)) rfl ?_
      refine lv_astore (lv' := [(4, .ref (ld 32)), (0, .ref a0), (1, .int 2), (2, .int p2), (3, .int p3)]) hx hb dX5_worthOf_33 hl (by decide) rfl (fun ls hl => ?_)
      refine lv_aload_n hx hb dX5_worthOf_35 rfl (lv_at hl 1 rfl) ?_
      refine tk_get (ci := 5) (C := RX5) (T := TX5) (N := 11) (sp := (6, 26, 5, 0)) hx hb htl inX5 hown hK hG ht_a0 (by decide) tk_no rfl 2 (by decide) (htl _ mw_149) (fun _ h9 => h9) rfl dX5_worthOf_36 (fun v9 hf20 hV9 => ?_)
      obtain ⟨b21, rfl, ht_b21⟩ := hV9
      have ht_b21 : t b21 = (26, 5, 0) := ht_b21
      refine lv_iload_n hx hb dX5_worthOf_39 rfl (lv_at hl 2 rfl) ?_
      refine lv_iconst (v := 1) hx hb dX5_worthOf_40 (by decide) ?_
      refine lv_iadd hx hb dX5_worthOf_41 ?_
      refine fx_ti (v := 3) (by decide) ?_
      refine tk_aald hx hb hK hG 3 rfl rfl ht_b21 (by decide) (fun _ h => h) tk_no (I := 3) (by decide) (by decide) (by decide) dX5_worthOf_42 (fun o22 ht_o22 => ?_)
      obtain ⟨rfl, ht_ld33⟩ := ht_o22
      have ht_ld33 : t (ld 33) = (10, 0, 13) := ht_ld33
      refine fx_top (v := .ref (ld 33)) rfl ?_
      refine lv_astore (lv' := [(5, .ref (ld 33)), (4, .ref (ld 32)), (0, .ref a0), (1, .int 2), (2, .int p2), (3, .int p3)]) hx hb dX5_worthOf_43 hl (by decide) rfl (fun ls hl => ?_)
      refine lv_iconst (v := (-1)) hx hb dX5_worthOf_45 (by decide) ?_
      refine lv_istore (lv' := [(6, .int (-1)), (5, .ref (ld 33)), (4, .ref (ld 32)), (0, .ref a0), (1, .int 2), (2, .int p2), (3, .int p3)]) hx hb dX5_worthOf_46 hl (by decide) rfl (fun ls hl => ?_)
      refine lv_iconst (v := 0) hx hb dX5_worthOf_48 (by decide) ?_
      refine lv_istore (lv' := [(7, .int 0), (6, .int (-1)), (5, .ref (ld 33)), (4, .ref (ld 32)), (0, .ref a0), (1, .int 2), (2, .int p2), (3, .int p3)]) hx hb dX5_worthOf_49 hl (by decide) rfl (fun ls hl => ?_)
      refine lv_iconst (v := 0) hx hb dX5_worthOf_51 (by decide) ?_
      refine lv_istore (lv' := [(8, .int 0), (7, .int 0), (6, .int (-1)), (5, .ref (ld 33)), (4, .ref (ld 32)), (0, .ref a0), (1, .int 2), (2, .int p2), (3, .int p3)]) hx hb dX5_worthOf_52 hl (by decide) rfl (fun ls hl => ?_)
      have hl1927 : ∀ (N_l1927 : Nat) (v23 : Int32) (v24 : Int32) (v25 : Int32) (H : Heap) (locs : List Loc), v23.toInt ≤ 10 → (-1) ≤ v25.toInt → 0 ≤ v23.toInt + (-1) * v25.toInt + (-1) → v24.toInt ≤ 100 → (-1000000000) ≤ v24.toInt → (-1) * v23.toInt + 10 < (N_l1927 : Int) → tk_G D cy ld t [] H → va_S (tk_w t [(20, 0, 0), (12, 0, 0), (9, 0, 0), (20, 13, 13), (10, 13, 13), (20, 14, 14), (10, 14, 14)]) s.heap H locs → tk_f D H (ld 32) 9 5 (.int v8) → ∀ ls : Array Slot, lv_has ls 11 [(8, .int v23), (7, .int v24), (6, .int v25), (5, .ref (ld 33)), (4, .ref (ld 32)), (0, .ref a0), (1, .int 2), (2, .int p2), (3, .int p3)] → W p l e ({ frames := 8, cells := 0, slots := 0, locals := 490 }) s m args below meth c H locs 0 0 (MQ below (ti D cy ld t [] (fun r H => (-1000000000) ≤ r.toInt ∧ r.toInt ≤ 100) (tk_w t [(20, 0, 0), (12, 0, 0), (9, 0, 0), (20, 13, 13), (10, 13, 13), (20, 14, 14), (10, 14, 14)])) args s 0 0 (tk_w t [(20, 0, 0), (12, 0, 0), (9, 0, 0), (20, 13, 13), (10, 13, 13), (20, 14, 14), (10, 14, 14)])) (F0 m 54 ls []) := by
        intro N_l1927
        induction N_l1927 with
        | zero => intro v23 v24 v25 H locs hq0_l1927 hq1_l1927 hq2_l1927 hq3_l1927 hq4_l1927 hm_l1927 hG hS hf7 ls hl; exfalso; omega
        | succ N_l1927 ih_l1927 =>
          intro v23 v24 v25 H locs hq0_l1927 hq1_l1927 hq2_l1927 hq3_l1927 hq4_l1927 hm_l1927 hG hS hf7 ls hl
          refine lv_iload hx hb dX5_worthOf_54 (lv_at hl 0 rfl) ?_
          refine lv_aload_n hx hb dX5_worthOf_56 rfl (lv_at hl 5 rfl) ?_
          refine tk_get (ci := 5) (C := RX5) (T := TX5) (N := 11) (sp := (8, 20, 3, 0)) hx hb htl inX5 hown hK hG ht_a0 (by decide) tk_no rfl 0 (by decide) (htl _ mw_155) (fun _ h9 => h9) rfl dX5_worthOf_57 (fun v9 hf1928 hV9 => ?_)
          obtain ⟨rfl, ht_ld20⟩ := hV9
          have ht_ld20 : t (ld 20) = (3, 0, 0) := ht_ld20
          refine fx_top (v := .ref (ld 20)) rfl ?_
          refine tk_get (ci := 2) (C := RX2) (T := TX2) (N := 20) (sp := (0, 0, 10, 0)) hx hb htl inX2 hown hK hG ht_ld20 (by decide) tk_no rfl 4 (by decide) (htl _ mw_1297) (fun _ h9 => h9) rfl dX5_worthOf_60 (fun v9 hf1929 hV9 => ?_)
          obtain ⟨v1930, rfl, (ha_v1930 : 0 ≤ v1930.toInt), (hb_v1930 : v1930.toInt ≤ 10)⟩ := hV9
          have hj2076 : ∀ (_ : Unit), ∀ ls : Array Slot, lv_has ls 11 [(7, .int v24), (6, .int v25), (0, .ref a0), (1, .int 2)] → W p l e ({ frames := 8, cells := 0, slots := 0, locals := 490 }) s m args below meth c H locs 0 0 (MQ below (ti D cy ld t [] (fun r H => (-1000000000) ≤ r.toInt ∧ r.toInt ≤ 100) (tk_w t [(20, 0, 0), (12, 0, 0), (9, 0, 0), (20, 13, 13), (10, 13, 13), (20, 14, 14), (10, 14, 14)])) args s 0 0 (tk_w t [(20, 0, 0), (12, 0, 0), (9, 0, 0), (20, 13, 13), (10, 13, 13), (20, 14, 14), (10, 14, 14)])) (F0 m 183 ls []) := by
            intro _  ls hl
            refine lv_iload_n hx hb dX5_worthOf_183 rfl (lv_at hl 3 rfl) ?_
            refine lv_if_ne (tgt := 193) hx hb dX5_worthOf_184 (by decide) (fun _ => ?_) (fun c9 => absurd c9 (by decide))
            refine lv_iload hx hb dX5_worthOf_193 (lv_at hl 0 rfl) ?_
            exact tk_iret (v := v24) hx hb hr rfl hlocks (show (-1000000000) ≤ v24.toInt ∧ v24.toInt ≤ 100 from ⟨(by omega), (by omega)⟩) hG hS dX5_worthOf_195
          refine lv_icmp_ge (tgt := 183) hx hb dX5_worthOf_63 (by decide) (fun c9 => ?_) (fun c9 => ?_)
          · have hc1931 : v1930.toInt ≤ v23.toInt := (fi_le rfl rfl).mp c9
            exact hj2076 () _ (lv_sub hl [1, 2, 5, 6] rfl)
          · have hc1931 : ¬ (v1930.toInt ≤ v23.toInt) := fun h9 => c9 ((fi_le rfl rfl).mpr h9)
            refine lv_iload hx hb dX5_worthOf_66 (lv_at hl 2 rfl) ?_
            refine lv_iconst (v := (-1)) hx hb dX5_worthOf_68 (by decide) ?_
            refine lv_icmp_eq (tgt := 78) hx hb dX5_worthOf_69 (by decide) (fun c9 => ?_) (fun c9 => ?_)
            · have hc2077 : v25.toInt = (-1) := (fi_eq rfl (show ((-1) : Int32).toInt = (-1) by decide)).mp c9
              refine lv_aload_n hx hb dX5_worthOf_78 rfl (lv_at hl 5 rfl) ?_
              refine tk_get (ci := 5) (C := RX5) (T := TX5) (N := 11) (sp := (6, 9, 0, 0)) hx hb htl inX5 hown hK hG ht_a0 (by decide) tk_no rfl 1 (by decide) (htl _ mw_156) (fun _ h9 => h9) rfl dX5_worthOf_79 (fun v9 hf2078 hV9 => ?_)
              obtain ⟨b2079, rfl, ht_b2079⟩ := hV9
              have ht_b2079 : t b2079 = (9, 0, 0) := ht_b2079
              refine lv_aload hx hb dX5_worthOf_82 (lv_at hl 4 rfl) ?_
              refine lv_iload hx hb dX5_worthOf_84 (lv_at hl 0 rfl) ?_
              refine tk_Vi (As := [.ref (ld 32), .int v23]) (rest := []) (ci := 8) ⟨hx, hb, hml, hown, hts⟩ hK hG hZ hS (k_X8_isBarred l D cy ld t 12 b2079 (ld 32) v23 v8 ht_b2079 ht_ld32 (by omega) (by omega) (by omega) (by omega)) hf7 ⟨callB_of 2 hts (wl_in mw_901) rfl rfl rfl (htl _ mw_21) (htl _ mw_1300) hd_yX8_isBarred ⟨(Nat.le_of_ble_eq_true rfl), (Nat.le_of_ble_eq_true rfl)⟩, htl _ mw_899, htl _ mw_900⟩ ht_b2079 (by decide) tk_no rfl (tk_w.pick [0, 1, 2] rfl) rfl hl.1 rfl (Nat.le_of_ble_eq_true rfl) dX5_worthOf_86 ⟨(Nat.le_of_ble_eq_true rfl), (Nat.le_of_ble_eq_true rfl)⟩ (fun v2080 H locs hpo hG hS hq9 => ?_)
              have hf7 := hf7.call hq9 (tk_w.no ht_ld32 (by decide))
              have hf1929 := hf1929.call hq9 (tk_w.no ht_ld20 (by decide))
              obtain ⟨hpo2082, hpo2083, hpo2084, hpo2085⟩ := hpo
              have hj2119 : ∀ (v2116 : Int32) (v2117 : Int32) (H : Heap) (locs : List Loc), (-1000000000) ≤ v2116.toInt → v2116.toInt ≤ 100 → 0 ≤ (-1) * v2117.toInt + v23.toInt → 0 ≤ v2117.toInt + (-1) * v25.toInt → tk_G D cy ld t [] H → va_S (tk_w t [(20, 0, 0), (12, 0, 0), (9, 0, 0), (20, 13, 13), (10, 13, 13), (20, 14, 14), (10, 14, 14)]) s.heap H locs → tk_f D H (ld 32) 9 5 (.int v8) → tk_f D H (ld 20) 2 4 (.int v1930) → ∀ ls : Array Slot, lv_has ls 11 [(7, .int v2116), (6, .int v2117), (8, .int v23), (5, .ref (ld 33)), (4, .ref (ld 32)), (0, .ref a0), (1, .int 2), (2, .int p2), (3, .int p3)] → W p l e ({ frames := 8, cells := 0, slots := 0, locals := 490 }) s m args below meth c H locs 0 0 (MQ below (ti D cy ld t [] (fun r H => (-1000000000) ≤ r.toInt ∧ r.toInt ≤ 100) (tk_w t [(20, 0, 0), (12, 0, 0), (9, 0, 0), (20, 13, 13), (10, 13, 13), (20, 14, 14), (10, 14, 14)])) args s 0 0 (tk_w t [(20, 0, 0), (12, 0, 0), (9, 0, 0), (20, 13, 13), (10, 13, 13), (20, 14, 14), (10, 14, 14)])) (F0 m 177 ls []) := by
                intro v2116 v2117 H locs hq0_j2119 hq1_j2119 hq2_j2119 hq3_j2119 hG hS hf7 hf1929 ls hl
                obtain ⟨v2120, h_v2120, e_v2120⟩ := tk_inc v23 1 (by decide) (by omega) (by omega)
                refine lv_iinc (v := v2120) (lv' := [(8, .int v2120), (7, .int v2116), (6, .int v2117), (5, .ref (ld 33)), (4, .ref (ld 32)), (0, .ref a0), (1, .int 2), (2, .int p2), (3, .int p3)]) hx hb dX5_worthOf_177 hl (k := 2) rfl e_v2120 (by decide) rfl (fun ls hl => ?_)
                refine lv_goto (tgt := 54) hx hb dX5_worthOf_180 (by decide) ?_
                exact ih_l1927 v2120 v2116 v2117 _ _ (by omega) (by omega) (by omega) (by omega) (by omega) (by omega) hG hS hf7 _ (lv_sub hl [0, 1, 2, 3, 4, 5, 6, 7, 8] rfl)
              refine lv_if_eq (tgt := 95) hx hb dX5_worthOf_89 (by decide) (fun c9 => ?_) (fun c9 => ?_)
              · have hc2086 : v2080.toInt = 0 := (fi_eq rfl (show (0 : Int32).toInt = 0 by decide)).mp c9
                refine lv_aload hx hb dX5_worthOf_95 (lv_at hl 3 rfl) ?_
                refine lv_aload hx hb dX5_worthOf_97 (lv_at hl 4 rfl) ?_
                refine tk_Vv (As := [.ref (ld 32)]) (rest := []) (ci := 9) ⟨hx, hb, hml, hown, hts⟩ hK hG hZ hS (k_X9_copyFrom l D cy ld t 13 12 (ld 33) (ld 32) v8 ht_ld33 ht_ld32 (by omega) (by omega) (by omega)) hf7 ⟨callB_of 1 hts (wl_in mw_821) rfl rfl rfl (htl _ mw_76) (htl _ mw_1292) hd_yX9_copyFrom ⟨(Nat.le_of_ble_eq_true rfl), (Nat.le_of_ble_eq_true rfl)⟩, htl _ mw_819, htl _ mw_820⟩ ht_ld33 (by decide) tk_no rfl (tk_w.pick [3, 4] rfl) rfl hl.1 rfl (Nat.le_of_ble_eq_true rfl) dX5_worthOf_99 ⟨(Nat.le_of_ble_eq_true rfl), (Nat.le_of_ble_eq_true rfl)⟩ (fun H locs hpo hG hS hq9 => ?_)
                have hf7 := hf7.call hq9 (tk_w.no ht_ld32 (by decide))
                have hf1929 := hf1929.call hq9 (tk_w.no ht_ld20 (by decide))
                have hf2122 := hpo
                refine lv_iload hx hb dX5_worthOf_102 (lv_at hl 2 rfl) ?_
                refine lv_iconst (v := (-1)) hx hb dX5_worthOf_104 (by decide) ?_
                refine lv_icmp_ne (tgt := 112) hx hb dX5_worthOf_105 (by decide) (fun c9 => absurd ((fi_eq rfl (show ((-1) : Int32).toInt = (-1) by decide)).mpr (show v25.toInt = (-1) by omega)) c9) (fun _ => ?_)
                refine lv_iload_n hx hb dX5_worthOf_108 rfl (lv_at hl 7 rfl) ?_
                refine lv_goto (tgt := 118) hx hb dX5_worthOf_109 (by decide) ?_
                refine lv_istore (lv' := [(9, .int p2), (8, .int v23), (7, .int v24), (6, .int v25), (5, .ref (ld 33)), (4, .ref (ld 32)), (0, .ref a0), (1, .int 2), (2, .int p2), (3, .int p3)]) hx hb dX5_worthOf_118 hl (by decide) rfl (fun ls hl => ?_)
                refine lv_aload_n hx hb dX5_worthOf_120 rfl (lv_at hl 6 rfl) ?_
                refine tk_get (ci := 5) (C := RX5) (T := TX5) (N := 11) (sp := (6, 9, 0, 0)) hx hb htl inX5 hown hK hG ht_a0 (by decide) tk_no rfl 1 (by decide) (htl _ mw_156) (fun _ h9 => h9) rfl dX5_worthOf_121 (fun v9 hf2123 hV9 => ?_)
                obtain ⟨b2124, rfl, ht_b2124⟩ := hV9
                have ht_b2124 : t b2124 = (9, 0, 0) := ht_b2124
                refine lv_aload hx hb dX5_worthOf_124 (lv_at hl 4 rfl) ?_
                refine lv_iload hx hb dX5_worthOf_126 (lv_at hl 1 rfl) ?_
                refine tk_Vi (As := [.ref (ld 33), .int v23]) (rest := []) (ci := 8) ⟨hx, hb, hml, hown, hts⟩ hK hG hZ hS (k_X8_singOn l D cy ld t 13 b2124 (ld 33) v23 v8 ht_b2124 ht_ld33 (by omega) (by omega) (by omega) (by omega)) hf2122 ⟨callB_of 2 hts (wl_in mw_946) rfl rfl rfl (htl _ mw_21) (htl _ mw_1301) hd_yX8_singOn ⟨(Nat.le_of_ble_eq_true rfl), (Nat.le_of_ble_eq_true rfl)⟩, htl _ mw_944, htl _ mw_945⟩ ht_b2124 (by decide) tk_no rfl (tk_w.pick [0, 1, 2, 3, 4] rfl) rfl hl.1 rfl (Nat.le_of_ble_eq_true rfl) dX5_worthOf_128 ⟨(Nat.le_of_ble_eq_true rfl), (Nat.le_of_ble_eq_true rfl)⟩ (fun v2125 H locs hpo hG hS hq9 => ?_)
                have hf7 := hf7.call hq9 (tk_w.no ht_ld32 (by decide))
                have hf1929 := hf1929.call hq9 (tk_w.no ht_ld20 (by decide))
                have hj2139 : ∀ (v2137 : Int32) (H : Heap) (locs : List Loc), (-100) ≤ v2137.toInt → v2137.toInt ≤ 98 → tk_G D cy ld t [] H → va_S (tk_w t [(20, 0, 0), (12, 0, 0), (9, 0, 0), (20, 13, 13), (10, 13, 13), (20, 14, 14), (10, 14, 14)]) s.heap H locs → tk_f D H (ld 32) 9 5 (.int v8) → tk_f D H (ld 20) 2 4 (.int v1930) → ∀ ls : Array Slot, lv_has ls 11 [(8, .int v23), (7, .int v24), (6, .int v25), (5, .ref (ld 33)), (4, .ref (ld 32)), (0, .ref a0), (1, .int 2), (2, .int p2), (3, .int p3)] → W p l e ({ frames := 8, cells := 0, slots := 0, locals := 490 }) s m args below meth c H locs 0 0 (MQ below (ti D cy ld t [] (fun r H => (-1000000000) ≤ r.toInt ∧ r.toInt ≤ 100) (tk_w t [(20, 0, 0), (12, 0, 0), (9, 0, 0), (20, 13, 13), (10, 13, 13), (20, 14, 14), (10, 14, 14)])) args s 0 0 (tk_w t [(20, 0, 0), (12, 0, 0), (9, 0, 0), (20, 13, 13), (10, 13, 13), (20, 14, 14), (10, 14, 14)])) (F0 m 154 ls [.int v2137]) := by
                  intro v2137 H locs hq0_j2139 hq1_j2139 hG hS hf7 hf1929 ls hl
                  refine lv_istore (lv' := [(10, .int v2137), (8, .int v23), (7, .int v24), (6, .int v25), (5, .ref (ld 33)), (4, .ref (ld 32)), (0, .ref a0), (1, .int 2), (2, .int p2), (3, .int p3)]) hx hb dX5_worthOf_154 hl (by decide) rfl (fun ls hl => ?_)
                  refine lv_iload hx hb dX5_worthOf_156 (lv_at hl 3 rfl) ?_
                  refine lv_iconst (v := (-1)) hx hb dX5_worthOf_158 (by decide) ?_
                  refine lv_icmp_eq (tgt := 169) hx hb dX5_worthOf_159 (by decide) (fun _ => ?_) (fun c9 => absurd ((fi_eq rfl (show ((-1) : Int32).toInt = (-1) by decide)).mpr (show v25.toInt = (-1) by omega)) c9)
                  refine lv_iload hx hb dX5_worthOf_169 (lv_at hl 1 rfl) ?_
                  refine lv_istore (lv' := [(6, .int v23), (10, .int v2137), (8, .int v23), (7, .int v24), (5, .ref (ld 33)), (4, .ref (ld 32)), (0, .ref a0), (1, .int 2), (2, .int p2), (3, .int p3)]) hx hb dX5_worthOf_171 hl (by decide) rfl (fun ls hl => ?_)
                  refine lv_iload hx hb dX5_worthOf_173 (lv_at hl 1 rfl) ?_
                  refine lv_istore (lv' := [(7, .int v2137), (6, .int v23), (10, .int v2137), (8, .int v23), (5, .ref (ld 33)), (4, .ref (ld 32)), (0, .ref a0), (1, .int 2), (2, .int p2), (3, .int p3)]) hx hb dX5_worthOf_175 hl (by decide) rfl (fun ls hl => ?_)
                  exact hj2119 v2137 v23 _ _ (by omega) (by omega) (by omega) (by omega) hG hS hf7 hf1929 _ (lv_sub hl [0, 1, 3, 4, 5, 6, 7, 8, 9] rfl)
                refine lv_if_ne (tgt := 141) hx hb dX5_worthOf_131 (by decide) (fun c9 => ?_) (fun c9 => ?_)
                · have hc2127 : ¬ (v2125.toInt = 0) := fun h9 => c9 ((fi_eq rfl (show (0 : Int32).toInt = 0 by decide)).mpr h9)
                  refine lv_aload_n hx hb dX5_worthOf_141 rfl (lv_at hl 6 rfl) ?_
                  refine lv_iload_n hx hb dX5_worthOf_142 rfl (lv_at hl 7 rfl) ?_
                  refine lv_iconst (v := 1) hx hb dX5_worthOf_143 (by decide) ?_
                  refine lv_iadd hx hb dX5_worthOf_144 ?_
                  refine fx_ti (v := 3) (by decide) ?_
                  refine lv_iload_n hx hb dX5_worthOf_145 rfl (lv_at hl 9 rfl) ?_
                  refine lv_ineg hx hb dX5_worthOf_146 ?_
                  refine tk_any (fun v2140 => ?_)
                  refine lv_iload hx hb dX5_worthOf_147 (lv_at hl 0 rfl) ?_
                  refine lv_ineg hx hb dX5_worthOf_149 ?_
                  refine tk_any (fun v2141 => ?_)
                  have hk_3 : (3 : Int32).toInt = 3 := by decide
                  refine tk_Vi (As := [.int 3, .int v2140, .int v2141]) (rest := []) (ci := 5) ⟨hx, hb, hml, hown, hts⟩ hK hG hZ hS (k_X5_worthOf_3 l D cy ld t a0 v2140 v2141 ht_a0) trivial ⟨callB_of 3 hts (wl_in mw_1296) rfl rfl rfl (htl _ mw_40) (htl _ mw_1293) hd_yX5_worthOf ⟨(Nat.le_of_ble_eq_true rfl), (Nat.le_of_ble_eq_true rfl)⟩, htl _ mw_1294, htl _ mw_1295⟩ ht_a0 (by decide) tk_no rfl (tk_w.pick [0, 1, 2, 5, 6] rfl) rfl hl.1 rfl (Nat.le_of_ble_eq_true rfl) dX5_worthOf_150 ⟨(Nat.le_of_ble_eq_true rfl), (Nat.le_of_ble_eq_true rfl)⟩ (fun v2142 H locs hpo hG hS hq9 => ?_)
                  have hf7 := hf7.call hq9 (tk_w.no ht_ld32 (by decide))
                  have hf1929 := hf1929.call hq9 (tk_w.no ht_ld20 (by decide))
                  obtain ⟨hpo2144, hpo2145⟩ := hpo
                  refine lv_ineg hx hb dX5_worthOf_153 ?_
                  refine tk_neg rfl (by omega) (by omega) (fun v2146 h_v2146 => ?_)
                  exact hj2139 v2146 _ _ (by omega) (by omega) hG hS hf7 hf1929 _ (lv_sub hl [1, 2, 3, 4, 5, 6, 7, 8, 9] rfl)
                · have hc2127 : v2125.toInt = 0 := (fi_eq rfl (show (0 : Int32).toInt = 0 by decide)).mp c9
                  refine lv_bipush (v := 100) hx hb dX5_worthOf_134 (by decide) ?_
                  refine lv_iload_n hx hb dX5_worthOf_136 rfl (lv_at hl 7 rfl) ?_
                  refine lv_isub hx hb dX5_worthOf_137 ?_
                  refine fx_ti (v := 98) (by decide) ?_
                  refine lv_goto (tgt := 154) hx hb dX5_worthOf_138 (by decide) ?_
                  have hk_98 : (98 : Int32).toInt = 98 := by decide
                  exact hj2139 98 _ _ (by omega) (by omega) hG hS hf7 hf1929 _ (lv_sub hl [1, 2, 3, 4, 5, 6, 7, 8, 9] rfl)
              · have hc2086 : ¬ (v2080.toInt = 0) := fun h9 => c9 ((fi_eq rfl (show (0 : Int32).toInt = 0 by decide)).mpr h9)
                refine lv_goto (tgt := 177) hx hb dX5_worthOf_92 (by decide) ?_
                exact hj2119 v24 v25 _ _ (by omega) (by omega) (by omega) (by omega) hG hS hf7 hf1929 _ (lv_sub hl [1, 2, 0, 3, 4, 5, 6, 7, 8] rfl)
            · have hc2077 : ¬ (v25.toInt = (-1)) := fun h9 => c9 ((fi_eq rfl (show ((-1) : Int32).toInt = (-1) by decide)).mpr h9)
              refine lv_iload hx hb dX5_worthOf_72 (lv_at hl 1 rfl) ?_
              refine lv_iload_n hx hb dX5_worthOf_74 rfl (lv_at hl 8 rfl) ?_
              refine lv_icmp_ge (tgt := 183) hx hb dX5_worthOf_75 (by decide) (fun c9 => ?_) (fun c9 => ?_)
              · have hc2147 : p3.toInt ≤ v24.toInt := (fi_le rfl rfl).mp c9
                exact hj2076 () _ (lv_sub hl [1, 2, 5, 6] rfl)
              · have hc2147 : ¬ (p3.toInt ≤ v24.toInt) := fun h9 => c9 ((fi_le rfl rfl).mpr h9)
                refine lv_aload_n hx hb dX5_worthOf_78 rfl (lv_at hl 5 rfl) ?_
                refine tk_get (ci := 5) (C := RX5) (T := TX5) (N := 11) (sp := (6, 9, 0, 0)) hx hb htl inX5 hown hK hG ht_a0 (by decide) tk_no rfl 1 (by decide) (htl _ mw_156) (fun _ h9 => h9) rfl dX5_worthOf_79 (fun v9 hf2148 hV9 => ?_)
                obtain ⟨b2149, rfl, ht_b2149⟩ := hV9
                have ht_b2149 : t b2149 = (9, 0, 0) := ht_b2149
                refine lv_aload hx hb dX5_worthOf_82 (lv_at hl 4 rfl) ?_
                refine lv_iload hx hb dX5_worthOf_84 (lv_at hl 0 rfl) ?_
                refine tk_Vi (As := [.ref (ld 32), .int v23]) (rest := []) (ci := 8) ⟨hx, hb, hml, hown, hts⟩ hK hG hZ hS (k_X8_isBarred l D cy ld t 12 b2149 (ld 32) v23 v8 ht_b2149 ht_ld32 (by omega) (by omega) (by omega) (by omega)) hf7 ⟨callB_of 2 hts (wl_in mw_901) rfl rfl rfl (htl _ mw_21) (htl _ mw_1300) hd_yX8_isBarred ⟨(Nat.le_of_ble_eq_true rfl), (Nat.le_of_ble_eq_true rfl)⟩, htl _ mw_899, htl _ mw_900⟩ ht_b2149 (by decide) tk_no rfl (tk_w.pick [0, 1, 2] rfl) rfl hl.1 rfl (Nat.le_of_ble_eq_true rfl) dX5_worthOf_86 ⟨(Nat.le_of_ble_eq_true rfl), (Nat.le_of_ble_eq_true rfl)⟩ (fun v2150 H locs hpo hG hS hq9 => ?_)
                have hf7 := hf7.call hq9 (tk_w.no ht_ld32 (by decide))
                have hf1929 := hf1929.call hq9 (tk_w.no ht_ld20 (by decide))
                obtain ⟨hpo2152, hpo2153, hpo2154, hpo2155⟩ := hpo
                have hj2191 : ∀ (v2188 : Int32) (v2189 : Int32) (H : Heap) (locs : List Loc), v2188.toInt ≤ 100 → 0 ≤ v2188.toInt + (-1) * v24.toInt → 0 ≤ (-1) * v2189.toInt + v23.toInt → 0 ≤ v2189.toInt + (-1) * v25.toInt → tk_G D cy ld t [] H → va_S (tk_w t [(20, 0, 0), (12, 0, 0), (9, 0, 0), (20, 13, 13), (10, 13, 13), (20, 14, 14), (10, 14, 14)]) s.heap H locs → tk_f D H (ld 32) 9 5 (.int v8) → tk_f D H (ld 20) 2 4 (.int v1930) → ∀ ls : Array Slot, lv_has ls 11 [(8, .int v23), (7, .int v2188), (6, .int v2189), (5, .ref (ld 33)), (4, .ref (ld 32)), (0, .ref a0), (1, .int 2), (2, .int p2), (3, .int p3)] → W p l e ({ frames := 8, cells := 0, slots := 0, locals := 490 }) s m args below meth c H locs 0 0 (MQ below (ti D cy ld t [] (fun r H => (-1000000000) ≤ r.toInt ∧ r.toInt ≤ 100) (tk_w t [(20, 0, 0), (12, 0, 0), (9, 0, 0), (20, 13, 13), (10, 13, 13), (20, 14, 14), (10, 14, 14)])) args s 0 0 (tk_w t [(20, 0, 0), (12, 0, 0), (9, 0, 0), (20, 13, 13), (10, 13, 13), (20, 14, 14), (10, 14, 14)])) (F0 m 177 ls []) := by
                  intro v2188 v2189 H locs hq0_j2191 hq1_j2191 hq2_j2191 hq3_j2191 hG hS hf7 hf1929 ls hl
                  obtain ⟨v2192, h_v2192, e_v2192⟩ := tk_inc v23 1 (by decide) (by omega) (by omega)
                  refine lv_iinc (v := v2192) (lv' := [(8, .int v2192), (7, .int v2188), (6, .int v2189), (5, .ref (ld 33)), (4, .ref (ld 32)), (0, .ref a0), (1, .int 2), (2, .int p2), (3, .int p3)]) hx hb dX5_worthOf_177 hl (k := 0) rfl e_v2192 (by decide) rfl (fun ls hl => ?_)
                  refine lv_goto (tgt := 54) hx hb dX5_worthOf_180 (by decide) ?_
                  exact ih_l1927 v2192 v2188 v2189 _ _ (by omega) (by omega) (by omega) (by omega) (by omega) (by omega) hG hS hf7 _ (lv_sub hl [0, 1, 2, 3, 4, 5, 6, 7, 8] rfl)
                refine lv_if_eq (tgt := 95) hx hb dX5_worthOf_89 (by decide) (fun c9 => ?_) (fun c9 => ?_)
                · have hc2156 : v2150.toInt = 0 := (fi_eq rfl (show (0 : Int32).toInt = 0 by decide)).mp c9
                  refine lv_aload hx hb dX5_worthOf_95 (lv_at hl 3 rfl) ?_
                  refine lv_aload hx hb dX5_worthOf_97 (lv_at hl 4 rfl) ?_
                  refine tk_Vv (As := [.ref (ld 32)]) (rest := []) (ci := 9) ⟨hx, hb, hml, hown, hts⟩ hK hG hZ hS (k_X9_copyFrom l D cy ld t 13 12 (ld 33) (ld 32) v8 ht_ld33 ht_ld32 (by omega) (by omega) (by omega)) hf7 ⟨callB_of 1 hts (wl_in mw_821) rfl rfl rfl (htl _ mw_76) (htl _ mw_1292) hd_yX9_copyFrom ⟨(Nat.le_of_ble_eq_true rfl), (Nat.le_of_ble_eq_true rfl)⟩, htl _ mw_819, htl _ mw_820⟩ ht_ld33 (by decide) tk_no rfl (tk_w.pick [3, 4] rfl) rfl hl.1 rfl (Nat.le_of_ble_eq_true rfl) dX5_worthOf_99 ⟨(Nat.le_of_ble_eq_true rfl), (Nat.le_of_ble_eq_true rfl)⟩ (fun H locs hpo hG hS hq9 => ?_)
                  have hf7 := hf7.call hq9 (tk_w.no ht_ld32 (by decide))
                  have hf1929 := hf1929.call hq9 (tk_w.no ht_ld20 (by decide))
                  have hf2194 := hpo
                  refine lv_iload hx hb dX5_worthOf_102 (lv_at hl 2 rfl) ?_
                  refine lv_iconst (v := (-1)) hx hb dX5_worthOf_104 (by decide) ?_
                  refine lv_icmp_ne (tgt := 112) hx hb dX5_worthOf_105 (by decide) (fun _ => ?_) (fun c9 => absurd (show v25.toInt = (-1) from (fi_eq rfl (show ((-1) : Int32).toInt = (-1) by decide)).mp c9) (by omega))
                  refine lv_iload_n hx hb dX5_worthOf_112 rfl (lv_at hl 7 rfl) ?_
                  refine lv_iload hx hb dX5_worthOf_113 (lv_at hl 1 rfl) ?_
                  refine va_mmax hx hb (by rw [hml]; exact hl.1.symm) hown (htl _ mw_1298) (htl _ mw_948) (htl _ mw_474) (htl _ mw_949) (Nat.le_of_ble_eq_true rfl) (Nat.le_of_ble_eq_true rfl) (Nat.le_of_ble_eq_true rfl) (Nat.le_of_ble_eq_true rfl) dX5_worthOf_115 ?_
                  refine tk_say (P := fun z => p2.toInt ≤ z.toInt ∧ v24.toInt ≤ z.toInt ∧ (z.toInt = p2.toInt ∨ z.toInt = v24.toInt)) (tk_max rfl rfl) (fun v2195 h_v2195 => ?_)
                  refine lv_istore (lv' := [(9, .int v2195), (8, .int v23), (7, .int v24), (6, .int v25), (5, .ref (ld 33)), (4, .ref (ld 32)), (0, .ref a0), (1, .int 2), (2, .int p2), (3, .int p3)]) hx hb dX5_worthOf_118 hl (by decide) rfl (fun ls hl => ?_)
                  refine lv_aload_n hx hb dX5_worthOf_120 rfl (lv_at hl 6 rfl) ?_
                  refine tk_get (ci := 5) (C := RX5) (T := TX5) (N := 11) (sp := (6, 9, 0, 0)) hx hb htl inX5 hown hK hG ht_a0 (by decide) tk_no rfl 1 (by decide) (htl _ mw_156) (fun _ h9 => h9) rfl dX5_worthOf_121 (fun v9 hf2196 hV9 => ?_)
                  obtain ⟨b2197, rfl, ht_b2197⟩ := hV9
                  have ht_b2197 : t b2197 = (9, 0, 0) := ht_b2197
                  refine lv_aload hx hb dX5_worthOf_124 (lv_at hl 4 rfl) ?_
                  refine lv_iload hx hb dX5_worthOf_126 (lv_at hl 1 rfl) ?_
                  refine tk_Vi (As := [.ref (ld 33), .int v23]) (rest := []) (ci := 8) ⟨hx, hb, hml, hown, hts⟩ hK hG hZ hS (k_X8_singOn l D cy ld t 13 b2197 (ld 33) v23 v8 ht_b2197 ht_ld33 (by omega) (by omega) (by omega) (by omega)) hf2194 ⟨callB_of 2 hts (wl_in mw_946) rfl rfl rfl (htl _ mw_21) (htl _ mw_1301) hd_yX8_singOn ⟨(Nat.le_of_ble_eq_true rfl), (Nat.le_of_ble_eq_true rfl)⟩, htl _ mw_944, htl _ mw_945⟩ ht_b2197 (by decide) tk_no rfl (tk_w.pick [0, 1, 2, 3, 4] rfl) rfl hl.1 rfl (Nat.le_of_ble_eq_true rfl) dX5_worthOf_128 ⟨(Nat.le_of_ble_eq_true rfl), (Nat.le_of_ble_eq_true rfl)⟩ (fun v2198 H locs hpo hG hS hq9 => ?_)
                  have hf7 := hf7.call hq9 (tk_w.no ht_ld32 (by decide))
                  have hf1929 := hf1929.call hq9 (tk_w.no ht_ld20 (by decide))
                  have hj2212 : ∀ (v2210 : Int32) (H : Heap) (locs : List Loc), (-100) ≤ v2210.toInt → v2210.toInt ≤ 98 → tk_G D cy ld t [] H → va_S (tk_w t [(20, 0, 0), (12, 0, 0), (9, 0, 0), (20, 13, 13), (10, 13, 13), (20, 14, 14), (10, 14, 14)]) s.heap H locs → tk_f D H (ld 32) 9 5 (.int v8) → tk_f D H (ld 20) 2 4 (.int v1930) → ∀ ls : Array Slot, lv_has ls 11 [(8, .int v23), (7, .int v24), (6, .int v25), (5, .ref (ld 33)), (4, .ref (ld 32)), (0, .ref a0), (1, .int 2), (2, .int p2), (3, .int p3)] → W p l e ({ frames := 8, cells := 0, slots := 0, locals := 490 }) s m args below meth c H locs 0 0 (MQ below (ti D cy ld t [] (fun r H => (-1000000000) ≤ r.toInt ∧ r.toInt ≤ 100) (tk_w t [(20, 0, 0), (12, 0, 0), (9, 0, 0), (20, 13, 13), (10, 13, 13), (20, 14, 14), (10, 14, 14)])) args s 0 0 (tk_w t [(20, 0, 0), (12, 0, 0), (9, 0, 0), (20, 13, 13), (10, 13, 13), (20, 14, 14), (10, 14, 14)])) (F0 m 154 ls [.int v2210]) := by
                    intro v2210 H locs hq0_j2212 hq1_j2212 hG hS hf7 hf1929 ls hl
                    refine lv_istore (lv' := [(10, .int v2210), (8, .int v23), (7, .int v24), (6, .int v25), (5, .ref (ld 33)), (4, .ref (ld 32)), (0, .ref a0), (1, .int 2), (2, .int p2), (3, .int p3)]) hx hb dX5_worthOf_154 hl (by decide) rfl (fun ls hl => ?_)
                    refine lv_iload hx hb dX5_worthOf_156 (lv_at hl 3 rfl) ?_
                    refine lv_iconst (v := (-1)) hx hb dX5_worthOf_158 (by decide) ?_
                    refine lv_icmp_eq (tgt := 169) hx hb dX5_worthOf_159 (by decide) (fun c9 => absurd (show v25.toInt = (-1) from (fi_eq rfl (show ((-1) : Int32).toInt = (-1) by decide)).mp c9) (by omega)) (fun _ => ?_)
                    refine lv_iload hx hb dX5_worthOf_162 (lv_at hl 0 rfl) ?_
                    refine lv_iload hx hb dX5_worthOf_164 (lv_at hl 2 rfl) ?_
                    refine lv_icmp_le (tgt := 177) hx hb dX5_worthOf_166 (by decide) (fun c9 => ?_) (fun c9 => ?_)
                    · have hc2213 : v2210.toInt ≤ v24.toInt := (fi_le rfl rfl).mp c9
                      exact hj2191 v24 v25 _ _ (by omega) (by omega) (by omega) (by omega) hG hS hf7 hf1929 _ (lv_sub hl [1, 2, 3, 4, 5, 6, 7, 8, 9] rfl)
                    · have hc2213 : ¬ (v2210.toInt ≤ v24.toInt) := fun h9 => c9 ((fi_le rfl rfl).mpr h9)
                      refine lv_iload hx hb dX5_worthOf_169 (lv_at hl 1 rfl) ?_
                      refine lv_istore (lv' := [(6, .int v23), (10, .int v2210), (8, .int v23), (7, .int v24), (5, .ref (ld 33)), (4, .ref (ld 32)), (0, .ref a0), (1, .int 2), (2, .int p2), (3, .int p3)]) hx hb dX5_worthOf_171 hl (by decide) rfl (fun ls hl => ?_)
                      refine lv_iload hx hb dX5_worthOf_173 (lv_at hl 1 rfl) ?_
                      refine lv_istore (lv' := [(7, .int v2210), (6, .int v23), (10, .int v2210), (8, .int v23), (5, .ref (ld 33)), (4, .ref (ld 32)), (0, .ref a0), (1, .int 2), (2, .int p2), (3, .int p3)]) hx hb dX5_worthOf_175 hl (by decide) rfl (fun ls hl => ?_)
                      exact hj2191 v2210 v23 _ _ (by omega) (by omega) (by omega) (by omega) hG hS hf7 hf1929 _ (lv_sub hl [3, 0, 1, 4, 5, 6, 7, 8, 9] rfl)
                  refine lv_if_ne (tgt := 141) hx hb dX5_worthOf_131 (by decide) (fun c9 => ?_) (fun c9 => ?_)
                  · have hc2200 : ¬ (v2198.toInt = 0) := fun h9 => c9 ((fi_eq rfl (show (0 : Int32).toInt = 0 by decide)).mpr h9)
                    refine lv_aload_n hx hb dX5_worthOf_141 rfl (lv_at hl 6 rfl) ?_
                    refine lv_iload_n hx hb dX5_worthOf_142 rfl (lv_at hl 7 rfl) ?_
                    refine lv_iconst (v := 1) hx hb dX5_worthOf_143 (by decide) ?_
                    refine lv_iadd hx hb dX5_worthOf_144 ?_
                    refine fx_ti (v := 3) (by decide) ?_
                    refine lv_iload_n hx hb dX5_worthOf_145 rfl (lv_at hl 9 rfl) ?_
                    refine lv_ineg hx hb dX5_worthOf_146 ?_
                    refine tk_neg rfl (by omega) (by omega) (fun v2214 h_v2214 => ?_)
                    refine lv_iload hx hb dX5_worthOf_147 (lv_at hl 0 rfl) ?_
                    refine lv_ineg hx hb dX5_worthOf_149 ?_
                    refine tk_neg rfl (by omega) (by omega) (fun v2215 h_v2215 => ?_)
                    have hk_3 : (3 : Int32).toInt = 3 := by decide
                    refine tk_Vi (As := [.int 3, .int v2214, .int v2215]) (rest := []) (ci := 5) ⟨hx, hb, hml, hown, hts⟩ hK hG hZ hS (k_X5_worthOf_3 l D cy ld t a0 v2214 v2215 ht_a0) trivial ⟨callB_of 3 hts (wl_in mw_1296) rfl rfl rfl (htl _ mw_40) (htl _ mw_1293) hd_yX5_worthOf ⟨(Nat.le_of_ble_eq_true rfl), (Nat.le_of_ble_eq_true rfl)⟩, htl _ mw_1294, htl _ mw_1295⟩ ht_a0 (by decide) tk_no rfl (tk_w.pick [0, 1, 2, 5, 6] rfl) rfl hl.1 rfl (Nat.le_of_ble_eq_true rfl) dX5_worthOf_150 ⟨(Nat.le_of_ble_eq_true rfl), (Nat.le_of_ble_eq_true rfl)⟩ (fun v2216 H locs hpo hG hS hq9 => ?_)
                    have hf7 := hf7.call hq9 (tk_w.no ht_ld32 (by decide))
                    have hf1929 := hf1929.call hq9 (tk_w.no ht_ld20 (by decide))
                    obtain ⟨hpo2218, hpo2219⟩ := hpo
                    refine lv_ineg hx hb dX5_worthOf_153 ?_
                    refine tk_neg rfl (by omega) (by omega) (fun v2220 h_v2220 => ?_)
                    exact hj2212 v2220 _ _ (by omega) (by omega) hG hS hf7 hf1929 _ (lv_sub hl [1, 2, 3, 4, 5, 6, 7, 8, 9] rfl)
                  · have hc2200 : v2198.toInt = 0 := (fi_eq rfl (show (0 : Int32).toInt = 0 by decide)).mp c9
                    refine lv_bipush (v := 100) hx hb dX5_worthOf_134 (by decide) ?_
                    refine lv_iload_n hx hb dX5_worthOf_136 rfl (lv_at hl 7 rfl) ?_
                    refine lv_isub hx hb dX5_worthOf_137 ?_
                    refine fx_ti (v := 98) (by decide) ?_
                    refine lv_goto (tgt := 154) hx hb dX5_worthOf_138 (by decide) ?_
                    have hk_98 : (98 : Int32).toInt = 98 := by decide
                    exact hj2212 98 _ _ (by omega) (by omega) hG hS hf7 hf1929 _ (lv_sub hl [1, 2, 3, 4, 5, 6, 7, 8, 9] rfl)
                · have hc2156 : ¬ (v2150.toInt = 0) := fun h9 => c9 ((fi_eq rfl (show (0 : Int32).toInt = 0 by decide)).mpr h9)
                  refine lv_goto (tgt := 177) hx hb dX5_worthOf_92 (by decide) ?_
                  exact hj2191 v24 v25 _ _ (by omega) (by omega) (by omega) (by omega) hG hS hf7 hf1929 _ (lv_sub hl [0, 1, 2, 3, 4, 5, 6, 7, 8] rfl)
      have hk_0 : (0 : Int32).toInt = 0 := by decide
      have hk_0 : (0 : Int32).toInt = 0 := by decide
      have hk_m1 : ((-1) : Int32).toInt = (-1) := by decide
      exact hl1927 11 0 0 (-1) _ _ (by omega) (by omega) (by omega) (by omega) (by omega) (by omega) hG hS hf7 _ (lv_sub hl [0, 1, 2, 3, 4, 5, 6, 7, 8] rfl)
    · have hc16 : v9.toInt = 0 := (fi_eq rfl (show (0 : Int32).toInt = 0 by decide)).mp c9
      refine lv_iconst (v := 0) hx hb dX5_worthOf_25 (by decide) ?_
      have hk_0 : (0 : Int32).toInt = 0 := by decide
      exact tk_iret (v := 0) hx hb hr rfl hlocks (show (-1000000000) ≤ (0 : Int32).toInt ∧ (0 : Int32).toInt ≤ 100 from ⟨(by omega), (by omega)⟩) hG hS dX5_worthOf_26
