set_option maxHeartbeats 4000000 in
set_option maxRecDepth 100000 in
theorem k_X5_chooseFrom_2 (l : Launch) (D : va_G) (cy : Nat → ClassId) (ld : Nat → Nat) (t : tk_T) (a0 : Nat) (p2 : Int32) (p3 : Int32) (p4 : Int32) (ht_a0 : t a0 = (6, 0, 0)) : Met l yX5_chooseFrom (wl yX5_chooseFrom cX5_chooseFrom 7 none) ({ frames := 10, cells := 0, slots := 0, locals := 630 }) (tp D cy ld t [] [.ref a0, .int 2, .int p2, .int p3, .int p4] (fun H => True)) (tv D cy ld t [] (fun H => True) (tk_w t [(20, 0, 0), (6, 0, 0)])) 0 0 (tk_w t [(20, 0, 0), (6, 0, 0)]) := by
  refine tk_met (y := yX5_chooseFrom) (cc := cX5_chooseFrom) (maxL := 7) (ret := none) (av := [.ref a0, .int 2, .int p2, .int p3, .int p4]) _ _ (by decide) (Nat.le_of_ble_eq_true rfl) ?_
  intro p e s m args below meth c hx hb hr hml hts htl hown hlocks hK H locs hH hG hS hB hZ ls hl
  have hown : s.vm.findClass RX5 = some m.cls := hown
  have hl : lv_has ls 7 [(0, .ref a0), (1, .int 2), (2, .int p2), (3, .int p3), (4, .int p4)] := hl
  have hr_p2 := tk_rng p2
  have hr_p3 := tk_rng p3
  have hr_p4 := tk_rng p4
  refine lv_iload_n hx hb dX5_chooseFrom_0 rfl (lv_at hl 1 rfl) ?_
  refine lv_aload_n hx hb dX5_chooseFrom_1 rfl (lv_at hl 0 rfl) ?_
  refine tk_get (ci := 5) (C := RX5) (T := TX5) (N := 11) (sp := (8, 20, 3, 0)) hx hb htl inX5 hown hK hG ht_a0 (by decide) tk_no rfl 0 (by decide) (htl _ mw_155) (fun _ h9 => h9) rfl dX5_chooseFrom_2 (fun v9 hf1 hV9 => ?_)
  obtain ⟨rfl, ht_ld20⟩ := hV9
  have ht_ld20 : t (ld 20) = (3, 0, 0) := ht_ld20
  refine fx_top (v := .ref (ld 20)) rfl ?_
  refine tk_get (ci := 2) (C := RX2) (T := TX2) (N := 20) (sp := (0, 0, 8, 0)) hx hb htl inX2 hown hK hG ht_ld20 (by decide) tk_no rfl 0 (by decide) (htl _ mw_1419) (fun _ h9 => h9) rfl dX5_chooseFrom_5 (fun v9 hf2 hV9 => ?_)
  obtain ⟨v3, rfl, (ha_v3 : 0 ≤ v3.toInt), (hb_v3 : v3.toInt ≤ 8)⟩ := hV9
  refine lv_icmp_lt (tgt := 63) hx hb dX5_chooseFrom_8 (by decide) (fun c9 => ?_) (fun c9 => ?_)
  · have hc4 : 2 < v3.toInt := (fi_lt (show (2 : Int32).toInt = 2 by decide) rfl).mp c9
    refine lv_aload_n hx hb dX5_chooseFrom_63 rfl (lv_at hl 0 rfl) ?_
    refine tk_get (ci := 5) (C := RX5) (T := TX5) (N := 11) (sp := (8, 20, 3, 0)) hx hb htl inX5 hown hK hG ht_a0 (by decide) tk_no rfl 0 (by decide) (htl _ mw_155) (fun _ h9 => h9) rfl dX5_chooseFrom_64 (fun v9 hf5 hV9 => ?_)
    obtain ⟨rfl, ht_ld20⟩ := hV9
    have ht_ld20 : t (ld 20) = (3, 0, 0) := ht_ld20
    refine fx_top (v := .ref (ld 20)) rfl ?_
    refine tk_get (ci := 2) (C := RX2) (T := TX2) (N := 20) (sp := (1, 21, 8, 0)) hx hb htl inX2 hown hK hG ht_ld20 (by decide) tk_no rfl 2 (by decide) (htl _ mw_1420) (fun _ h9 => h9) rfl dX5_chooseFrom_67 (fun v9 hf6 hV9 => ?_)
    obtain ⟨b7, rfl, ht_b7⟩ := hV9
    have ht_b7 : t b7 = (21, 8, 0) := ht_b7
    refine lv_iload_n hx hb dX5_chooseFrom_70 rfl (lv_at hl 1 rfl) ?_
    refine tk_iald hx hb hK hG ht_b7 (by decide) (fun _ h => h) tk_no (I := 2) (by decide) (by decide) (by decide) dX5_chooseFrom_71 (fun v8 hE9 _ => ?_)
    have he_v8 : 0 ≤ v8.toInt ∧ v8.toInt ≤ 1 := hE9
    have hj486 : ∀ (H : Heap) (locs : List Loc), tk_G D cy ld t [] H → va_S (tk_w t [(20, 0, 0), (6, 0, 0)]) s.heap H locs → tk_f D H (ld 20) 2 0 (.int v3) → ∀ ls : Array Slot, lv_has ls 7 [(0, .ref a0), (1, .int 2), (2, .int p2), (3, .int p3), (4, .int p4)] → W p l e ({ frames := 10, cells := 0, slots := 0, locals := 630 }) s m args below meth c H locs 0 0 (MQ below (tv D cy ld t [] (fun H => True) (tk_w t [(20, 0, 0), (6, 0, 0)])) args s 0 0 (tk_w t [(20, 0, 0), (6, 0, 0)])) (F0 m 176 ls []) := by
      intro H locs hG hS hf2 ls hl
      refine lv_aload_n hx hb dX5_chooseFrom_176 rfl (lv_at hl 0 rfl) ?_
      refine tk_get (ci := 5) (C := RX5) (T := TX5) (N := 11) (sp := (6, 20, 8, 0)) hx hb htl inX5 hown hK hG ht_a0 (by decide) tk_no rfl 7 (by decide) (htl _ mw_153) (fun _ h9 => h9) rfl dX5_chooseFrom_177 (fun v9 hf487 hV9 => ?_)
      obtain ⟨b488, rfl, ht_b488⟩ := hV9
      have ht_b488 : t b488 = (20, 8, 0) := ht_b488
      refine lv_iload_n hx hb dX5_chooseFrom_180 rfl (lv_at hl 1 rfl) ?_
      refine lv_bipush (v := 100) hx hb dX5_chooseFrom_181 (by decide) ?_
      refine tk_iast hx hb hK hG hS ht_b488 (by decide) (fun _ => Iff.rfl) tk_no (I := 2) (by decide) (by decide) (by decide) trivial (tk_w.of ht_b488 (by decide) (List.mem_of_getElem? (i := 0) rfl) (Nat.le_refl _) (Nat.le_refl _)) dX5_chooseFrom_183 (fun H locs hG hS hq9 => ?_)
      have hf2 := hf2.kept (hq9 _ (tk_ne ht_ld20 ht_b488 (Or.inl (by decide))))
      refine lv_aload_n hx hb dX5_chooseFrom_184 rfl (lv_at hl 0 rfl) ?_
      refine lv_iload_n hx hb dX5_chooseFrom_185 rfl (lv_at hl 1 rfl) ?_
      refine lv_iconst (v := 1) hx hb dX5_chooseFrom_186 (by decide) ?_
      refine lv_iadd hx hb dX5_chooseFrom_187 ?_
      refine fx_ti (v := 3) (by decide) ?_
      refine lv_iload_n hx hb dX5_chooseFrom_188 rfl (lv_at hl 2 rfl) ?_
      refine lv_iload_n hx hb dX5_chooseFrom_189 rfl (lv_at hl 3 rfl) ?_
      refine lv_iload hx hb dX5_chooseFrom_190 (lv_at hl 4 rfl) ?_
      have hk_3 : (3 : Int32).toInt = 3 := by decide
      refine tk_Vv (As := [.int 3, .int p2, .int p3, .int p4]) (rest := []) (ci := 5) ⟨hx, hb, hml, hown, hts⟩ hK hG hZ hS (k_X5_chooseFrom_3 l D cy ld t a0 p2 p3 p4 ht_a0) trivial ⟨callB_of 4 hts (wl_in mw_1427) rfl rfl rfl (htl _ mw_40) (htl _ mw_1424) hd_yX5_chooseFrom ⟨(Nat.le_of_ble_eq_true rfl), (Nat.le_of_ble_eq_true rfl)⟩, htl _ mw_1425, htl _ mw_1426⟩ ht_a0 (by decide) tk_no rfl (tk_w.pick [0, 1] rfl) rfl hl.1 rfl (Nat.le_of_ble_eq_true rfl) dX5_chooseFrom_192 ⟨(Nat.le_of_ble_eq_true rfl), (Nat.le_of_ble_eq_true rfl)⟩ (fun H locs hpo hG hS hq9 => ?_)
      have hf2 := hf2.call hq9 (tk_w.no ht_ld20 (by decide))
      exact tk_vret hx hb hr hlocks trivial hG hS dX5_chooseFrom_195
    refine lv_if_ne (tgt := 176) hx hb dX5_chooseFrom_72 (by decide) (fun c9 => ?_) (fun c9 => ?_)
    · have hc9 : ¬ (v8.toInt = 0) := fun h9 => c9 ((fi_eq rfl (show (0 : Int32).toInt = 0 by decide)).mpr h9)
      exact hj486 _ _ hG hS hf2 _ (lv_sub hl [0, 1, 2, 3, 4] rfl)
    · have hc9 : v8.toInt = 0 := (fi_eq rfl (show (0 : Int32).toInt = 0 by decide)).mp c9
      refine lv_iconst (v := 0) hx hb dX5_chooseFrom_75 (by decide) ?_
      refine lv_istore (lv' := [(5, .int 0), (0, .ref a0), (1, .int 2), (2, .int p2), (3, .int p3), (4, .int p4)]) hx hb dX5_chooseFrom_76 hl (by decide) rfl (fun ls hl => ?_)
      have hl905 : ∀ (N_l905 : Nat) (v491 : Int32) (H : Heap) (locs : List Loc), v491.toInt ≤ 8 → 0 ≤ v491.toInt → (-1) * v491.toInt + 8 < (N_l905 : Int) → tk_G D cy ld t [] H → va_S (tk_w t [(20, 0, 0), (6, 0, 0)]) s.heap H locs → tk_f D H (ld 20) 2 0 (.int v3) → ∀ ls : Array Slot, lv_has ls 7 [(5, .int v491), (0, .ref a0), (1, .int 2), (2, .int p2), (3, .int p3), (4, .int p4)] → W p l e ({ frames := 10, cells := 0, slots := 0, locals := 630 }) s m args below meth c H locs 0 0 (MQ below (tv D cy ld t [] (fun H => True) (tk_w t [(20, 0, 0), (6, 0, 0)])) args s 0 0 (tk_w t [(20, 0, 0), (6, 0, 0)])) (F0 m 78 ls []) := by
        intro N_l905
        induction N_l905 with
        | zero => intro v491 H locs hq0_l905 hq1_l905 hm_l905 hG hS hf2 ls hl; exfalso; omega
        | succ N_l905 ih_l905 =>
          intro v491 H locs hq0_l905 hq1_l905 hm_l905 hG hS hf2 ls hl
          refine lv_iload hx hb dX5_chooseFrom_78 (lv_at hl 0 rfl) ?_
          refine lv_aload_n hx hb dX5_chooseFrom_80 rfl (lv_at hl 1 rfl) ?_
          refine tk_get (ci := 5) (C := RX5) (T := TX5) (N := 11) (sp := (8, 20, 3, 0)) hx hb htl inX5 hown hK hG ht_a0 (by decide) tk_no rfl 0 (by decide) (htl _ mw_155) (fun _ h9 => h9) rfl dX5_chooseFrom_81 (fun v9 hf906 hV9 => ?_)
          obtain ⟨rfl, ht_ld20⟩ := hV9
          have ht_ld20 : t (ld 20) = (3, 0, 0) := ht_ld20
          refine fx_top (v := .ref (ld 20)) rfl ?_
          refine tk_getk (ci := 2) (C := RX2) (T := TX2) (N := 20) (sp := (0, 0, 8, 0)) hx hb htl inX2 hown hK hG ht_ld20 (by decide) tk_no rfl 0 (by decide) (htl _ mw_1419) (fun _ h9 => h9) rfl hf2 dX5_chooseFrom_84 ?_
          refine lv_icmp_ge (tgt := 176) hx hb dX5_chooseFrom_87 (by decide) (fun c9 => ?_) (fun c9 => ?_)
          · have hc907 : v3.toInt ≤ v491.toInt := (fi_le rfl rfl).mp c9
            exact hj486 _ _ hG hS hf2 _ (lv_sub hl [1, 2, 3, 4, 5] rfl)
          · have hc907 : ¬ (v3.toInt ≤ v491.toInt) := fun h9 => c9 ((fi_le rfl rfl).mpr h9)
            refine lv_aload_n hx hb dX5_chooseFrom_90 rfl (lv_at hl 1 rfl) ?_
            refine tk_get (ci := 5) (C := RX5) (T := TX5) (N := 11) (sp := (8, 20, 3, 0)) hx hb htl inX5 hown hK hG ht_a0 (by decide) tk_no rfl 0 (by decide) (htl _ mw_155) (fun _ h9 => h9) rfl dX5_chooseFrom_91 (fun v9 hf908 hV9 => ?_)
            obtain ⟨rfl, ht_ld20⟩ := hV9
            have ht_ld20 : t (ld 20) = (3, 0, 0) := ht_ld20
            refine fx_top (v := .ref (ld 20)) rfl ?_
            refine tk_get (ci := 2) (C := RX2) (T := TX2) (N := 20) (sp := (1, 21, 8, 0)) hx hb htl inX2 hown hK hG ht_ld20 (by decide) tk_no rfl 2 (by decide) (htl _ mw_1420) (fun _ h9 => h9) rfl dX5_chooseFrom_94 (fun v9 hf909 hV9 => ?_)
            obtain ⟨b910, rfl, ht_b910⟩ := hV9
            have ht_b910 : t b910 = (21, 8, 0) := ht_b910
            refine lv_iload hx hb dX5_chooseFrom_97 (lv_at hl 0 rfl) ?_
            refine tk_iald hx hb hK hG ht_b910 (by decide) (fun _ h => h) tk_no rfl (by omega) (by omega) dX5_chooseFrom_99 (fun v911 hE9 _ => ?_)
            have he_v911 : 0 ≤ v911.toInt ∧ v911.toInt ≤ 1 := hE9
            refine lv_iconst (v := 1) hx hb dX5_chooseFrom_100 (by decide) ?_
            have hj939 : ∀ (H : Heap) (locs : List Loc), tk_G D cy ld t [] H → va_S (tk_w t [(20, 0, 0), (6, 0, 0)]) s.heap H locs → tk_f D H (ld 20) 2 0 (.int v3) → ∀ ls : Array Slot, lv_has ls 7 [(5, .int v491), (0, .ref a0), (1, .int 2), (2, .int p2), (3, .int p3), (4, .int p4)] → W p l e ({ frames := 10, cells := 0, slots := 0, locals := 630 }) s m args below meth c H locs 0 0 (MQ below (tv D cy ld t [] (fun H => True) (tk_w t [(20, 0, 0), (6, 0, 0)])) args s 0 0 (tk_w t [(20, 0, 0), (6, 0, 0)])) (F0 m 170 ls []) := by
              intro H locs hG hS hf2 ls hl
              obtain ⟨v940, h_v940, e_v940⟩ := tk_inc v491 1 (by decide) (by omega) (by omega)
              refine lv_iinc (v := v940) (lv' := [(5, .int v940), (0, .ref a0), (1, .int 2), (2, .int p2), (3, .int p3), (4, .int p4)]) hx hb dX5_chooseFrom_170 hl (k := 0) rfl e_v940 (by decide) rfl (fun ls hl => ?_)
              refine lv_goto (tgt := 78) hx hb dX5_chooseFrom_173 (by decide) ?_
              exact ih_l905 v940 _ _ (by omega) (by omega) (by omega) hG hS hf2 _ (lv_sub hl [0, 1, 2, 3, 4, 5] rfl)
            refine lv_icmp_ne (tgt := 170) hx hb dX5_chooseFrom_101 (by decide) (fun c9 => ?_) (fun c9 => ?_)
            · have hc912 : ¬ (v911.toInt = 1) := fun h9 => c9 ((fi_eq rfl (show (1 : Int32).toInt = 1 by decide)).mpr h9)
              exact hj939 _ _ hG hS hf2 _ (lv_sub hl [0, 1, 2, 3, 4, 5] rfl)
            · have hc912 : v911.toInt = 1 := (fi_eq rfl (show (1 : Int32).toInt = 1 by decide)).mp c9
              refine lv_iload_n hx hb dX5_chooseFrom_104 rfl (lv_at hl 3 rfl) ?_
              refine lv_iload hx hb dX5_chooseFrom_105 (lv_at hl 0 rfl) ?_
              refine lv_ishr hx hb dX5_chooseFrom_107 ?_
              refine tk_any (fun v941 => ?_)
              refine lv_iconst (v := 1) hx hb dX5_chooseFrom_108 (by decide) ?_
              refine lv_iand hx hb dX5_chooseFrom_109 ?_
              refine tk_say (P := fun z => 0 ≤ z.toInt ∧ z.toInt ≤ 1) (tk_and v941 1 (by decide) (by decide)) (fun v942 h_v942 => ?_)
              refine lv_if_ne (tgt := 170) hx hb dX5_chooseFrom_110 (by decide) (fun c9 => ?_) (fun c9 => ?_)
              · have hc943 : ¬ (v942.toInt = 0) := fun h9 => c9 ((fi_eq rfl (show (0 : Int32).toInt = 0 by decide)).mpr h9)
                exact hj939 _ _ hG hS hf2 _ (lv_sub hl [0, 1, 2, 3, 4, 5] rfl)
              · have hc943 : v942.toInt = 0 := (fi_eq rfl (show (0 : Int32).toInt = 0 by decide)).mp c9
                refine lv_aload_n hx hb dX5_chooseFrom_113 rfl (lv_at hl 1 rfl) ?_
                refine tk_get (ci := 5) (C := RX5) (T := TX5) (N := 11) (sp := (6, 30, 8, 0)) hx hb htl inX5 hown hK hG ht_a0 (by decide) tk_no rfl 6 (by decide) (htl _ mw_152) (fun _ h9 => h9) rfl dX5_chooseFrom_114 (fun v9 hf944 hV9 => ?_)
                obtain ⟨b945, rfl, ht_b945⟩ := hV9
                have ht_b945 : t b945 = (30, 8, 0) := ht_b945
                refine lv_iload_n hx hb dX5_chooseFrom_117 rfl (lv_at hl 2 rfl) ?_
                refine tk_aald hx hb hK hG 6 rfl rfl ht_b945 (by decide) (fun _ h => h) tk_no (I := 2) (by decide) (by decide) (by decide) dX5_chooseFrom_118 (fun o946 ht_o946 => ?_)
                obtain ⟨b947, rfl, ht_b947⟩ := ht_o946
                have ht_b947 : t b947 = (20, 8, 0) := ht_b947
                refine fx_top (v := .ref b947) rfl ?_
                refine lv_iload hx hb dX5_chooseFrom_119 (lv_at hl 0 rfl) ?_
                refine tk_iald hx hb hK hG ht_b947 (by decide) (fun _ h => h) tk_no rfl (by omega) (by omega) dX5_chooseFrom_121 (fun v948 _ _ => ?_)
                have hr_v948 := tk_rng v948
                refine lv_istore (lv' := [(6, .int v948), (5, .int v491), (0, .ref a0), (1, .int 2), (2, .int p2), (3, .int p3), (4, .int p4)]) hx hb dX5_chooseFrom_122 hl (by decide) rfl (fun ls hl => ?_)
                refine lv_aload_n hx hb dX5_chooseFrom_124 rfl (lv_at hl 2 rfl) ?_
                refine tk_get (ci := 5) (C := RX5) (T := TX5) (N := 11) (sp := (6, 20, 8, 0)) hx hb htl inX5 hown hK hG ht_a0 (by decide) tk_no rfl 7 (by decide) (htl _ mw_153) (fun _ h9 => h9) rfl dX5_chooseFrom_125 (fun v9 hf949 hV9 => ?_)
                obtain ⟨b950, rfl, ht_b950⟩ := hV9
                have ht_b950 : t b950 = (20, 8, 0) := ht_b950
                refine lv_iload_n hx hb dX5_chooseFrom_128 rfl (lv_at hl 3 rfl) ?_
                refine lv_iload hx hb dX5_chooseFrom_129 (lv_at hl 1 rfl) ?_
                refine tk_iast hx hb hK hG hS ht_b950 (by decide) (fun _ => Iff.rfl) tk_no (I := 2) (by decide) (by decide) (by decide) trivial (tk_w.of ht_b950 (by decide) (List.mem_of_getElem? (i := 0) rfl) (Nat.le_refl _) (Nat.le_refl _)) dX5_chooseFrom_131 (fun H locs hG hS hq9 => ?_)
                have hf2 := hf2.kept (hq9 _ (tk_ne ht_ld20 ht_b950 (Or.inl (by decide))))
                refine lv_aload_n hx hb dX5_chooseFrom_132 rfl (lv_at hl 2 rfl) ?_
                refine lv_iload_n hx hb dX5_chooseFrom_133 rfl (lv_at hl 3 rfl) ?_
                refine lv_iconst (v := 1) hx hb dX5_chooseFrom_134 (by decide) ?_
                refine lv_iadd hx hb dX5_chooseFrom_135 ?_
                refine fx_ti (v := 3) (by decide) ?_
                refine lv_iload_n hx hb dX5_chooseFrom_136 rfl (lv_at hl 4 rfl) ?_
                refine lv_iconst (v := 1) hx hb dX5_chooseFrom_137 (by decide) ?_
                refine lv_iload hx hb dX5_chooseFrom_138 (lv_at hl 1 rfl) ?_
                refine lv_ishl hx hb dX5_chooseFrom_140 ?_
                refine tk_say (P := fun z => 1 ≤ z.toInt ∧ z.toInt ≤ 1024) (tk_shl1 v491 (by omega) (by omega)) (fun v952 h_v952 => ?_)
                refine lv_ior hx hb dX5_chooseFrom_141 ?_
                refine tk_any (fun v953 => ?_)
                refine lv_iload_n hx hb dX5_chooseFrom_142 rfl (lv_at hl 5 rfl) ?_
                refine lv_iload hx hb dX5_chooseFrom_143 (lv_at hl 0 rfl) ?_
                have hj957 : ∀ (v956 : Int32), 0 ≤ v956.toInt → v956.toInt ≤ 1 → ∀ ls : Array Slot, lv_has ls 7 [(6, .int v948), (5, .int v491), (0, .ref a0), (1, .int 2), (2, .int p2), (3, .int p3), (4, .int p4)] → W p l e ({ frames := 10, cells := 0, slots := 0, locals := 630 }) s m args below meth c H locs 0 0 (MQ below (tv D cy ld t [] (fun H => True) (tk_w t [(20, 0, 0), (6, 0, 0)])) args s 0 0 (tk_w t [(20, 0, 0), (6, 0, 0)])) (F0 m 153 ls [.int v956, .int p3, .int v953, .int 3, .ref a0]) := by
                  intro v956 hq0_j957 hq1_j957 ls hl
                  refine lv_iadd hx hb dX5_chooseFrom_153 ?_
                  obtain ⟨v958, hm_v958⟩ : ∃ z : Int32, p3 + v956 = z := ⟨_, rfl⟩
                  refine fx_ti hm_v958 ?_
                  refine lv_iload hx hb dX5_chooseFrom_154 (lv_at hl 6 rfl) ?_
                  refine lv_iload hx hb dX5_chooseFrom_156 (lv_at hl 0 rfl) ?_
                  have hj962 : ∀ (v961 : Int32), 0 ≤ v961.toInt → v961.toInt ≤ 1 → ∀ ls : Array Slot, lv_has ls 7 [(5, .int v491), (0, .ref a0), (1, .int 2), (2, .int p2), (3, .int p3), (4, .int p4)] → W p l e ({ frames := 10, cells := 0, slots := 0, locals := 630 }) s m args below meth c H locs 0 0 (MQ below (tv D cy ld t [] (fun H => True) (tk_w t [(20, 0, 0), (6, 0, 0)])) args s 0 0 (tk_w t [(20, 0, 0), (6, 0, 0)])) (F0 m 166 ls [.int v961, .int p4, .int v958, .int v953, .int 3, .ref a0]) := by
                    intro v961 hq0_j962 hq1_j962 ls hl
                    refine lv_iadd hx hb dX5_chooseFrom_166 ?_
                    obtain ⟨v963, hm_v963⟩ : ∃ z : Int32, p4 + v961 = z := ⟨_, rfl⟩
                    refine fx_ti hm_v963 ?_
                    have hk_3 : (3 : Int32).toInt = 3 := by decide
                    refine tk_Vv (As := [.int 3, .int v953, .int v958, .int v963]) (rest := []) (ci := 5) ⟨hx, hb, hml, hown, hts⟩ hK hG hZ hS (k_X5_chooseFrom_3 l D cy ld t a0 v953 v958 v963 ht_a0) trivial ⟨callB_of 4 hts (wl_in mw_1427) rfl rfl rfl (htl _ mw_40) (htl _ mw_1424) hd_yX5_chooseFrom ⟨(Nat.le_of_ble_eq_true rfl), (Nat.le_of_ble_eq_true rfl)⟩, htl _ mw_1425, htl _ mw_1426⟩ ht_a0 (by decide) tk_no rfl (tk_w.pick [0, 1] rfl) rfl hl.1 rfl (Nat.le_of_ble_eq_true rfl) dX5_chooseFrom_167 ⟨(Nat.le_of_ble_eq_true rfl), (Nat.le_of_ble_eq_true rfl)⟩ (fun H locs hpo hG hS hq9 => ?_)
                    have hf2 := hf2.call hq9 (tk_w.no ht_ld20 (by decide))
                    exact hj939 _ _ hG hS hf2 _ (lv_sub hl [0, 1, 2, 3, 4, 5] rfl)
                  refine lv_if_ge (tgt := 165) hx hb dX5_chooseFrom_158 (by decide) (fun c9 => ?_) (fun c9 => ?_)
                  · have hc959 : 0 ≤ v948.toInt := (fi_le (show (0 : Int32).toInt = 0 by decide) rfl).mp c9
                    refine lv_iconst (v := 0) hx hb dX5_chooseFrom_165 (by decide) ?_
                    have hk_0 : (0 : Int32).toInt = 0 := by decide
                    exact hj962 0 (by omega) (by omega) _ (lv_sub hl [1, 2, 3, 4, 5, 6] rfl)
                  · have hc959 : ¬ (0 ≤ v948.toInt) := fun h9 => c9 ((fi_le (show (0 : Int32).toInt = 0 by decide) rfl).mpr h9)
                    refine lv_iconst (v := 1) hx hb dX5_chooseFrom_161 (by decide) ?_
                    refine lv_goto (tgt := 166) hx hb dX5_chooseFrom_162 (by decide) ?_
                    have hk_1 : (1 : Int32).toInt = 1 := by decide
                    exact hj962 1 (by omega) (by omega) _ (lv_sub hl [1, 2, 3, 4, 5, 6] rfl)
                refine lv_if_le (tgt := 152) hx hb dX5_chooseFrom_145 (by decide) (fun c9 => ?_) (fun c9 => ?_)
                · have hc954 : v948.toInt ≤ 0 := (fi_le rfl (show (0 : Int32).toInt = 0 by decide)).mp c9
                  refine lv_iconst (v := 0) hx hb dX5_chooseFrom_152 (by decide) ?_
                  have hk_0 : (0 : Int32).toInt = 0 := by decide
                  exact hj957 0 (by omega) (by omega) _ (lv_sub hl [0, 1, 2, 3, 4, 5, 6] rfl)
                · have hc954 : ¬ (v948.toInt ≤ 0) := fun h9 => c9 ((fi_le rfl (show (0 : Int32).toInt = 0 by decide)).mpr h9)
                  refine lv_iconst (v := 1) hx hb dX5_chooseFrom_148 (by decide) ?_
                  refine lv_goto (tgt := 153) hx hb dX5_chooseFrom_149 (by decide) ?_
                  have hk_1 : (1 : Int32).toInt = 1 := by decide
                  exact hj957 1 (by omega) (by omega) _ (lv_sub hl [0, 1, 2, 3, 4, 5, 6] rfl)
      have hk_0 : (0 : Int32).toInt = 0 := by decide
      exact hl905 9 0 _ _ (by omega) (by omega) (by omega) hG hS hf2 _ (lv_sub hl [0, 1, 2, 3, 4, 5] rfl)
  · have hc4 : ¬ (2 < v3.toInt) := fun h9 => c9 ((fi_lt (show (2 : Int32).toInt = 2 by decide) rfl).mpr h9)
    refine lv_iload_n hx hb dX5_chooseFrom_11 rfl (lv_at hl 3 rfl) ?_
    refine lv_aload_n hx hb dX5_chooseFrom_12 rfl (lv_at hl 0 rfl) ?_
    refine tk_get (ci := 5) (C := RX5) (T := TX5) (N := 11) (sp := (0, (-2147483648), 2147483647, 0)) hx hb htl inX5 hown hK hG ht_a0 (by decide) tk_no rfl 9 (by decide) (htl _ mw_1421) (fun _ h9 => h9) rfl dX5_chooseFrom_13 (fun v9 hf965 hV9 => ?_)
    obtain ⟨v966, rfl, (ha_v966 : (-2147483648) ≤ v966.toInt), (hb_v966 : v966.toInt ≤ 2147483647)⟩ := hV9
    refine lv_icmp_gt (tgt := 36) hx hb dX5_chooseFrom_16 (by decide) (fun c9 => ?_) (fun c9 => ?_)
    · have hc967 : v966.toInt < p3.toInt := (fi_lt rfl rfl).mp c9
      refine lv_aload_n hx hb dX5_chooseFrom_36 rfl (lv_at hl 0 rfl) ?_
      refine lv_iload_n hx hb dX5_chooseFrom_37 rfl (lv_at hl 3 rfl) ?_
      refine tk_put (ci := 5) (v := .int p3) (ty := .int) (C := RX5) (T := TX5) (N := 11) (sp := (0, (-2147483648), 2147483647, 0)) hx hb htl inX5 tyX5 tyX5_ok nmX5 hown hK hG hS ht_a0 (by decide) tk_no rfl 9 (by decide) (htl _ mw_1421) (fun _ h9 => h9) rfl (tyX5_ok 9 (by decide)) rfl rfl rfl (tk_V0 (tk_rng _).1 (tk_rng _).2) (fun _ h => h) (tk_w.of ht_a0 (by decide) (List.mem_of_getElem? (i := 1) rfl) (Nat.le_refl _) (Nat.le_refl _)) dX5_chooseFrom_38 (fun H locs hG hS hf968 hq9 hj9 => ?_)
      have hf2 := hf2.kept (hq9 _ (tk_ne ht_ld20 ht_a0 (Or.inl (by decide))))
      refine lv_aload_n hx hb dX5_chooseFrom_41 rfl (lv_at hl 0 rfl) ?_
      refine lv_iload hx hb dX5_chooseFrom_42 (lv_at hl 4 rfl) ?_
      refine tk_put (ci := 5) (v := .int p4) (ty := .int) (C := RX5) (T := TX5) (N := 11) (sp := (0, (-2147483648), 2147483647, 0)) hx hb htl inX5 tyX5 tyX5_ok nmX5 hown hK hG hS ht_a0 (by decide) tk_no rfl 10 (by decide) (htl _ mw_1422) (fun _ h9 => h9) rfl (tyX5_ok 10 (by decide)) rfl rfl rfl (tk_V0 (tk_rng _).1 (tk_rng _).2) (fun _ h => h) (tk_w.of ht_a0 (by decide) (List.mem_of_getElem? (i := 1) rfl) (Nat.le_refl _) (Nat.le_refl _)) dX5_chooseFrom_44 (fun H locs hG hS hf970 hq9 hj9 => ?_)
      have hf2 := hf2.kept (hq9 _ (tk_ne ht_ld20 ht_a0 (Or.inl (by decide))))
      refine lv_aload_n hx hb dX5_chooseFrom_47 rfl (lv_at hl 0 rfl) ?_
      refine tk_get (ci := 5) (C := RX5) (T := TX5) (N := 11) (sp := (6, 20, 8, 0)) hx hb htl inX5 hown hK hG ht_a0 (by decide) tk_no rfl 7 (by decide) (htl _ mw_153) (fun _ h9 => h9) rfl dX5_chooseFrom_48 (fun v9 hf972 hV9 => ?_)
      obtain ⟨b973, rfl, ht_b973⟩ := hV9
      have ht_b973 : t b973 = (20, 8, 0) := ht_b973
      refine lv_iconst (v := 0) hx hb dX5_chooseFrom_51 (by decide) ?_
      refine lv_aload_n hx hb dX5_chooseFrom_52 rfl (lv_at hl 0 rfl) ?_
      refine tk_get (ci := 5) (C := RX5) (T := TX5) (N := 11) (sp := (6, 20, 8, 0)) hx hb htl inX5 hown hK hG ht_a0 (by decide) tk_no rfl 8 (by decide) (htl _ mw_154) (fun _ h9 => h9) rfl dX5_chooseFrom_53 (fun v9 hf974 hV9 => ?_)
      obtain ⟨b975, rfl, ht_b975⟩ := hV9
      have ht_b975 : t b975 = (20, 8, 0) := ht_b975
      refine lv_iconst (v := 0) hx hb dX5_chooseFrom_56 (by decide) ?_
      refine lv_bipush (v := 8) hx hb dX5_chooseFrom_57 (by decide) ?_
      refine tk_copy (SP := 0) (DP := 0) (NC := 8) hx hb (by rw [hml]; exact hl.1.symm) hown (htl _ mw_1428) (htl _ mw_655) (htl _ mw_656) (htl _ mw_657) hK hG hS ht_b973 ht_b975 (by decide) (by decide) (fun _ h => h) (fun _ => Iff.rfl) tk_no tk_no (show (0 : Int32).toInt = 0 by decide) (show (0 : Int32).toInt = 0 by decide) (show (8 : Int32).toInt = 8 by decide) (by decide) (by decide) (by decide) (by decide) (by decide) (fun _ _ _ _ _ => trivial) (tk_w.of ht_b975 (by decide) (List.mem_of_getElem? (i := 0) rfl) (Nat.le_refl _) (Nat.le_refl _)) (Nat.le_of_ble_eq_true rfl) (Nat.le_of_ble_eq_true rfl) dX5_chooseFrom_59 (fun H locs hG hS hq9 => ?_)
      have hf2 := hf2.kept (hq9 _ (tk_ne ht_ld20 ht_b975 (Or.inl (by decide))))
      exact tk_vret hx hb hr hlocks trivial hG hS dX5_chooseFrom_62
    · have hc967 : ¬ (v966.toInt < p3.toInt) := fun h9 => c9 ((fi_lt rfl rfl).mpr h9)
      refine lv_iload_n hx hb dX5_chooseFrom_19 rfl (lv_at hl 3 rfl) ?_
      refine lv_aload_n hx hb dX5_chooseFrom_20 rfl (lv_at hl 0 rfl) ?_
      refine tk_get (ci := 5) (C := RX5) (T := TX5) (N := 11) (sp := (0, (-2147483648), 2147483647, 0)) hx hb htl inX5 hown hK hG ht_a0 (by decide) tk_no rfl 9 (by decide) (htl _ mw_1421) (fun _ h9 => h9) rfl dX5_chooseFrom_21 (fun v9 hf977 hV9 => ?_)
      obtain ⟨v978, rfl, (ha_v978 : (-2147483648) ≤ v978.toInt), (hb_v978 : v978.toInt ≤ 2147483647)⟩ := hV9
      refine lv_icmp_ne (tgt := 62) hx hb dX5_chooseFrom_24 (by decide) (fun c9 => ?_) (fun c9 => ?_)
      · have hc979 : ¬ (p3.toInt = v978.toInt) := fun h9 => c9 ((fi_eq rfl rfl).mpr h9)
        exact tk_vret hx hb hr hlocks trivial hG hS dX5_chooseFrom_62
      · have hc979 : p3.toInt = v978.toInt := (fi_eq rfl rfl).mp c9
        refine lv_iload hx hb dX5_chooseFrom_27 (lv_at hl 4 rfl) ?_
        refine lv_aload_n hx hb dX5_chooseFrom_29 rfl (lv_at hl 0 rfl) ?_
        refine tk_get (ci := 5) (C := RX5) (T := TX5) (N := 11) (sp := (0, (-2147483648), 2147483647, 0)) hx hb htl inX5 hown hK hG ht_a0 (by decide) tk_no rfl 10 (by decide) (htl _ mw_1422) (fun _ h9 => h9) rfl dX5_chooseFrom_30 (fun v9 hf980 hV9 => ?_)
        obtain ⟨v981, rfl, (ha_v981 : (-2147483648) ≤ v981.toInt), (hb_v981 : v981.toInt ≤ 2147483647)⟩ := hV9
        refine lv_icmp_ge (tgt := 62) hx hb dX5_chooseFrom_33 (by decide) (fun c9 => ?_) (fun c9 => ?_)
        · have hc982 : v981.toInt ≤ p4.toInt := (fi_le rfl rfl).mp c9
          exact tk_vret hx hb hr hlocks trivial hG hS dX5_chooseFrom_62
        · have hc982 : ¬ (v981.toInt ≤ p4.toInt) := fun h9 => c9 ((fi_le rfl rfl).mpr h9)
          refine lv_aload_n hx hb dX5_chooseFrom_36 rfl (lv_at hl 0 rfl) ?_
          refine lv_iload_n hx hb dX5_chooseFrom_37 rfl (lv_at hl 3 rfl) ?_
          refine tk_put (ci := 5) (v := .int p3) (ty := .int) (C := RX5) (T := TX5) (N := 11) (sp := (0, (-2147483648), 2147483647, 0)) hx hb htl inX5 tyX5 tyX5_ok nmX5 hown hK hG hS ht_a0 (by decide) tk_no rfl 9 (by decide) (htl _ mw_1421) (fun _ h9 => h9) rfl (tyX5_ok 9 (by decide)) rfl rfl rfl (tk_V0 (tk_rng _).1 (tk_rng _).2) (fun _ h => h) (tk_w.of ht_a0 (by decide) (List.mem_of_getElem? (i := 1) rfl) (Nat.le_refl _) (Nat.le_refl _)) dX5_chooseFrom_38 (fun H locs hG hS hf983 hq9 hj9 => ?_)
          have hf2 := hf2.kept (hq9 _ (tk_ne ht_ld20 ht_a0 (Or.inl (by decide))))
          refine lv_aload_n hx hb dX5_chooseFrom_41 rfl (lv_at hl 0 rfl) ?_
          refine lv_iload hx hb dX5_chooseFrom_42 (lv_at hl 4 rfl) ?_
          refine tk_put (ci := 5) (v := .int p4) (ty := .int) (C := RX5) (T := TX5) (N := 11) (sp := (0, (-2147483648), 2147483647, 0)) hx hb htl inX5 tyX5 tyX5_ok nmX5 hown hK hG hS ht_a0 (by decide) tk_no rfl 10 (by decide) (htl _ mw_1422) (fun _ h9 => h9) rfl (tyX5_ok 10 (by decide)) rfl rfl rfl (tk_V0 (tk_rng _).1 (tk_rng _).2) (fun _ h => h) (tk_w.of ht_a0 (by decide) (List.mem_of_getElem? (i := 1) rfl) (Nat.le_refl _) (Nat.le_refl _)) dX5_chooseFrom_44 (fun H locs hG hS hf985 hq9 hj9 => ?_)
          have hf2 := hf2.kept (hq9 _ (tk_ne ht_ld20 ht_a0 (Or.inl (by decide))))
          refine lv_aload_n hx hb dX5_chooseFrom_47 rfl (lv_at hl 0 rfl) ?_
          refine tk_get (ci := 5) (C := RX5) (T := TX5) (N := 11) (sp := (6, 20, 8, 0)) hx hb htl inX5 hown hK hG ht_a0 (by decide) tk_no rfl 7 (by decide) (htl _ mw_153) (fun _ h9 => h9) rfl dX5_chooseFrom_48 (fun v9 hf987 hV9 => ?_)
          obtain ⟨b988, rfl, ht_b988⟩ := hV9
          have ht_b988 : t b988 = (20, 8, 0) := ht_b988
          refine lv_iconst (v := 0) hx hb dX5_chooseFrom_51 (by decide) ?_
          refine lv_aload_n hx hb dX5_chooseFrom_52 rfl (lv_at hl 0 rfl) ?_
          refine tk_get (ci := 5) (C := RX5) (T := TX5) (N := 11) (sp := (6, 20, 8, 0)) hx hb htl inX5 hown hK hG ht_a0 (by decide) tk_no rfl 8 (by decide) (htl _ mw_154) (fun _ h9 => h9) rfl dX5_chooseFrom_53 (fun v9 hf989 hV9 => ?_)
          obtain ⟨b990, rfl, ht_b990⟩ := hV9
          have ht_b990 : t b990 = (20, 8, 0) := ht_b990
          refine lv_iconst (v := 0) hx hb dX5_chooseFrom_56 (by decide) ?_
          refine lv_bipush (v := 8) hx hb dX5_chooseFrom_57 (by decide) ?_
          refine tk_copy (SP := 0) (DP := 0) (NC := 8) hx hb (by rw [hml]; exact hl.1.symm) hown (htl _ mw_1428) (htl _ mw_655) (htl _ mw_656) (htl _ mw_657) hK hG hS ht_b988 ht_b990 (by decide) (by decide) (fun _ h => h) (fun _ => Iff.rfl) tk_no tk_no (show (0 : Int32).toInt = 0 by decide) (show (0 : Int32).toInt = 0 by decide) (show (8 : Int32).toInt = 8 by decide) (by decide) (by decide) (by decide) (by decide) (by decide) (fun _ _ _ _ _ => trivial) (tk_w.of ht_b990 (by decide) (List.mem_of_getElem? (i := 0) rfl) (Nat.le_refl _) (Nat.le_refl _)) (Nat.le_of_ble_eq_true rfl) (Nat.le_of_ble_eq_true rfl) dX5_chooseFrom_59 (fun H locs hG hS hq9 => ?_)
          have hf2 := hf2.kept (hq9 _ (tk_ne ht_ld20 ht_b990 (Or.inl (by decide))))
          exact tk_vret hx hb hr hlocks trivial hG hS dX5_chooseFrom_62
set_option maxHeartbeats 4000000 in
set_option maxRecDepth 100000 in
theorem k_X5_chooseFrom_1 (l : Launch) (D : va_G) (cy : Nat → ClassId) (ld : Nat → Nat) (t : tk_T) (a0 : Nat) (p2 : Int32) (p3 : Int32) (p4 : Int32) (ht_a0 : t a0 = (6, 0, 0)) : Met l yX5_chooseFrom (wl yX5_chooseFrom cX5_chooseFrom 7 none) ({ frames := 11, cells := 0, slots := 0, locals := 700 }) (tp D cy ld t [] [.ref a0, .int 1, .int p2, .int p3, .int p4] (fun H => True)) (tv D cy ld t [] (fun H => True) (tk_w t [(20, 0, 0), (6, 0, 0)])) 0 0 (tk_w t [(20, 0, 0), (6, 0, 0)]) := by
  refine tk_met (y := yX5_chooseFrom) (cc := cX5_chooseFrom) (maxL := 7) (ret := none) (av := [.ref a0, .int 1, .int p2, .int p3, .int p4]) _ _ (by decide) (Nat.le_of_ble_eq_true rfl) ?_
  intro p e s m args below meth c hx hb hr hml hts htl hown hlocks hK H locs hH hG hS hB hZ ls hl
  have hown : s.vm.findClass RX5 = some m.cls := hown
  have hl : lv_has ls 7 [(0, .ref a0), (1, .int 1), (2, .int p2), (3, .int p3), (4, .int p4)] := hl
  have hr_p2 := tk_rng p2
  have hr_p3 := tk_rng p3
  have hr_p4 := tk_rng p4
  refine lv_iload_n hx hb dX5_chooseFrom_0 rfl (lv_at hl 1 rfl) ?_
  refine lv_aload_n hx hb dX5_chooseFrom_1 rfl (lv_at hl 0 rfl) ?_
  refine tk_get (ci := 5) (C := RX5) (T := TX5) (N := 11) (sp := (8, 20, 3, 0)) hx hb htl inX5 hown hK hG ht_a0 (by decide) tk_no rfl 0 (by decide) (htl _ mw_155) (fun _ h9 => h9) rfl dX5_chooseFrom_2 (fun v9 hf1 hV9 => ?_)
  obtain ⟨rfl, ht_ld20⟩ := hV9
  have ht_ld20 : t (ld 20) = (3, 0, 0) := ht_ld20
  refine fx_top (v := .ref (ld 20)) rfl ?_
  refine tk_get (ci := 2) (C := RX2) (T := TX2) (N := 20) (sp := (0, 0, 8, 0)) hx hb htl inX2 hown hK hG ht_ld20 (by decide) tk_no rfl 0 (by decide) (htl _ mw_1419) (fun _ h9 => h9) rfl dX5_chooseFrom_5 (fun v9 hf2 hV9 => ?_)
  obtain ⟨v3, rfl, (ha_v3 : 0 ≤ v3.toInt), (hb_v3 : v3.toInt ≤ 8)⟩ := hV9
  refine lv_icmp_lt (tgt := 63) hx hb dX5_chooseFrom_8 (by decide) (fun c9 => ?_) (fun c9 => ?_)
  · have hc4 : 1 < v3.toInt := (fi_lt (show (1 : Int32).toInt = 1 by decide) rfl).mp c9
    refine lv_aload_n hx hb dX5_chooseFrom_63 rfl (lv_at hl 0 rfl) ?_
    refine tk_get (ci := 5) (C := RX5) (T := TX5) (N := 11) (sp := (8, 20, 3, 0)) hx hb htl inX5 hown hK hG ht_a0 (by decide) tk_no rfl 0 (by decide) (htl _ mw_155) (fun _ h9 => h9) rfl dX5_chooseFrom_64 (fun v9 hf5 hV9 => ?_)
    obtain ⟨rfl, ht_ld20⟩ := hV9
    have ht_ld20 : t (ld 20) = (3, 0, 0) := ht_ld20
    refine fx_top (v := .ref (ld 20)) rfl ?_
    refine tk_get (ci := 2) (C := RX2) (T := TX2) (N := 20) (sp := (1, 21, 8, 0)) hx hb htl inX2 hown hK hG ht_ld20 (by decide) tk_no rfl 2 (by decide) (htl _ mw_1420) (fun _ h9 => h9) rfl dX5_chooseFrom_67 (fun v9 hf6 hV9 => ?_)
    obtain ⟨b7, rfl, ht_b7⟩ := hV9
    have ht_b7 : t b7 = (21, 8, 0) := ht_b7
    refine lv_iload_n hx hb dX5_chooseFrom_70 rfl (lv_at hl 1 rfl) ?_
    refine tk_iald hx hb hK hG ht_b7 (by decide) (fun _ h => h) tk_no (I := 1) (by decide) (by decide) (by decide) dX5_chooseFrom_71 (fun v8 hE9 _ => ?_)
    have he_v8 : 0 ≤ v8.toInt ∧ v8.toInt ≤ 1 := hE9
    have hj486 : ∀ (H : Heap) (locs : List Loc), tk_G D cy ld t [] H → va_S (tk_w t [(20, 0, 0), (6, 0, 0)]) s.heap H locs → tk_f D H (ld 20) 2 0 (.int v3) → ∀ ls : Array Slot, lv_has ls 7 [(0, .ref a0), (1, .int 1), (2, .int p2), (3, .int p3), (4, .int p4)] → W p l e ({ frames := 11, cells := 0, slots := 0, locals := 700 }) s m args below meth c H locs 0 0 (MQ below (tv D cy ld t [] (fun H => True) (tk_w t [(20, 0, 0), (6, 0, 0)])) args s 0 0 (tk_w t [(20, 0, 0), (6, 0, 0)])) (F0 m 176 ls []) := by
      intro H locs hG hS hf2 ls hl
      refine lv_aload_n hx hb dX5_chooseFrom_176 rfl (lv_at hl 0 rfl) ?_
      refine tk_get (ci := 5) (C := RX5) (T := TX5) (N := 11) (sp := (6, 20, 8, 0)) hx hb htl inX5 hown hK hG ht_a0 (by decide) tk_no rfl 7 (by decide) (htl _ mw_153) (fun _ h9 => h9) rfl dX5_chooseFrom_177 (fun v9 hf487 hV9 => ?_)
      obtain ⟨b488, rfl, ht_b488⟩ := hV9
      have ht_b488 : t b488 = (20, 8, 0) := ht_b488
      refine lv_iload_n hx hb dX5_chooseFrom_180 rfl (lv_at hl 1 rfl) ?_
      refine lv_bipush (v := 100) hx hb dX5_chooseFrom_181 (by decide) ?_
      refine tk_iast hx hb hK hG hS ht_b488 (by decide) (fun _ => Iff.rfl) tk_no (I := 1) (by decide) (by decide) (by decide) trivial (tk_w.of ht_b488 (by decide) (List.mem_of_getElem? (i := 0) rfl) (Nat.le_refl _) (Nat.le_refl _)) dX5_chooseFrom_183 (fun H locs hG hS hq9 => ?_)
      have hf2 := hf2.kept (hq9 _ (tk_ne ht_ld20 ht_b488 (Or.inl (by decide))))
      refine lv_aload_n hx hb dX5_chooseFrom_184 rfl (lv_at hl 0 rfl) ?_
      refine lv_iload_n hx hb dX5_chooseFrom_185 rfl (lv_at hl 1 rfl) ?_
      refine lv_iconst (v := 1) hx hb dX5_chooseFrom_186 (by decide) ?_
      refine lv_iadd hx hb dX5_chooseFrom_187 ?_
      refine fx_ti (v := 2) (by decide) ?_
      refine lv_iload_n hx hb dX5_chooseFrom_188 rfl (lv_at hl 2 rfl) ?_
      refine lv_iload_n hx hb dX5_chooseFrom_189 rfl (lv_at hl 3 rfl) ?_
      refine lv_iload hx hb dX5_chooseFrom_190 (lv_at hl 4 rfl) ?_
      have hk_2 : (2 : Int32).toInt = 2 := by decide
      refine tk_Vv (As := [.int 2, .int p2, .int p3, .int p4]) (rest := []) (ci := 5) ⟨hx, hb, hml, hown, hts⟩ hK hG hZ hS (k_X5_chooseFrom_2 l D cy ld t a0 p2 p3 p4 ht_a0) trivial ⟨callB_of 4 hts (wl_in mw_1427) rfl rfl rfl (htl _ mw_40) (htl _ mw_1424) hd_yX5_chooseFrom ⟨(Nat.le_of_ble_eq_true rfl), (Nat.le_of_ble_eq_true rfl)⟩, htl _ mw_1425, htl _ mw_1426⟩ ht_a0 (by decide) tk_no rfl (tk_w.pick [0, 1] rfl) rfl hl.1 rfl (Nat.le_of_ble_eq_true rfl) dX5_chooseFrom_192 ⟨(Nat.le_of_ble_eq_true rfl), (Nat.le_of_ble_eq_true rfl)⟩ (fun H locs hpo hG hS hq9 => ?_)
      have hf2 := hf2.call hq9 (tk_w.no ht_ld20 (by decide))
      exact tk_vret hx hb hr hlocks trivial hG hS dX5_chooseFrom_195
    refine lv_if_ne (tgt := 176) hx hb dX5_chooseFrom_72 (by decide) (fun c9 => ?_) (fun c9 => ?_)
    · have hc9 : ¬ (v8.toInt = 0) := fun h9 => c9 ((fi_eq rfl (show (0 : Int32).toInt = 0 by decide)).mpr h9)
      exact hj486 _ _ hG hS hf2 _ (lv_sub hl [0, 1, 2, 3, 4] rfl)
    · have hc9 : v8.toInt = 0 := (fi_eq rfl (show (0 : Int32).toInt = 0 by decide)).mp c9
      refine lv_iconst (v := 0) hx hb dX5_chooseFrom_75 (by decide) ?_
      refine lv_istore (lv' := [(5, .int 0), (0, .ref a0), (1, .int 1), (2, .int p2), (3, .int p3), (4, .int p4)]) hx hb dX5_chooseFrom_76 hl (by decide) rfl (fun ls hl => ?_)
      have hl905 : ∀ (N_l905 : Nat) (v491 : Int32) (H : Heap) (locs : List Loc), v491.toInt ≤ 8 → 0 ≤ v491.toInt → (-1) * v491.toInt + 8 < (N_l905 : Int) → tk_G D cy ld t [] H → va_S (tk_w t [(20, 0, 0), (6, 0, 0)]) s.heap H locs → tk_f D H (ld 20) 2 0 (.int v3) → ∀ ls : Array Slot, lv_has ls 7 [(5, .int v491), (0, .ref a0), (1, .int 1), (2, .int p2), (3, .int p3), (4, .int p4)] → W p l e ({ frames := 11, cells := 0, slots := 0, locals := 700 }) s m args below meth c H locs 0 0 (MQ below (tv D cy ld t [] (fun H => True) (tk_w t [(20, 0, 0), (6, 0, 0)])) args s 0 0 (tk_w t [(20, 0, 0), (6, 0, 0)])) (F0 m 78 ls []) := by
        intro N_l905
        induction N_l905 with
        | zero => intro v491 H locs hq0_l905 hq1_l905 hm_l905 hG hS hf2 ls hl; exfalso; omega
        | succ N_l905 ih_l905 =>
          intro v491 H locs hq0_l905 hq1_l905 hm_l905 hG hS hf2 ls hl
          refine lv_iload hx hb dX5_chooseFrom_78 (lv_at hl 0 rfl) ?_
          refine lv_aload_n hx hb dX5_chooseFrom_80 rfl (lv_at hl 1 rfl) ?_
          refine tk_get (ci := 5) (C := RX5) (T := TX5) (N := 11) (sp := (8, 20, 3, 0)) hx hb htl inX5 hown hK hG ht_a0 (by decide) tk_no rfl 0 (by decide) (htl _ mw_155) (fun _ h9 => h9) rfl dX5_chooseFrom_81 (fun v9 hf906 hV9 => ?_)
          obtain ⟨rfl, ht_ld20⟩ := hV9
          have ht_ld20 : t (ld 20) = (3, 0, 0) := ht_ld20
          refine fx_top (v := .ref (ld 20)) rfl ?_
          refine tk_getk (ci := 2) (C := RX2) (T := TX2) (N := 20) (sp := (0, 0, 8, 0)) hx hb htl inX2 hown hK hG ht_ld20 (by decide) tk_no rfl 0 (by decide) (htl _ mw_1419) (fun _ h9 => h9) rfl hf2 dX5_chooseFrom_84 ?_
          refine lv_icmp_ge (tgt := 176) hx hb dX5_chooseFrom_87 (by decide) (fun c9 => ?_) (fun c9 => ?_)
          · have hc907 : v3.toInt ≤ v491.toInt := (fi_le rfl rfl).mp c9
            exact hj486 _ _ hG hS hf2 _ (lv_sub hl [1, 2, 3, 4, 5] rfl)
          · have hc907 : ¬ (v3.toInt ≤ v491.toInt) := fun h9 => c9 ((fi_le rfl rfl).mpr h9)
            refine lv_aload_n hx hb dX5_chooseFrom_90 rfl (lv_at hl 1 rfl) ?_
            refine tk_get (ci := 5) (C := RX5) (T := TX5) (N := 11) (sp := (8, 20, 3, 0)) hx hb htl inX5 hown hK hG ht_a0 (by decide) tk_no rfl 0 (by decide) (htl _ mw_155) (fun _ h9 => h9) rfl dX5_chooseFrom_91 (fun v9 hf908 hV9 => ?_)
            obtain ⟨rfl, ht_ld20⟩ := hV9
            have ht_ld20 : t (ld 20) = (3, 0, 0) := ht_ld20
            refine fx_top (v := .ref (ld 20)) rfl ?_
            refine tk_get (ci := 2) (C := RX2) (T := TX2) (N := 20) (sp := (1, 21, 8, 0)) hx hb htl inX2 hown hK hG ht_ld20 (by decide) tk_no rfl 2 (by decide) (htl _ mw_1420) (fun _ h9 => h9) rfl dX5_chooseFrom_94 (fun v9 hf909 hV9 => ?_)
            obtain ⟨b910, rfl, ht_b910⟩ := hV9
            have ht_b910 : t b910 = (21, 8, 0) := ht_b910
            refine lv_iload hx hb dX5_chooseFrom_97 (lv_at hl 0 rfl) ?_
            refine tk_iald hx hb hK hG ht_b910 (by decide) (fun _ h => h) tk_no rfl (by omega) (by omega) dX5_chooseFrom_99 (fun v911 hE9 _ => ?_)
            have he_v911 : 0 ≤ v911.toInt ∧ v911.toInt ≤ 1 := hE9
            refine lv_iconst (v := 1) hx hb dX5_chooseFrom_100 (by decide) ?_
            have hj939 : ∀ (H : Heap) (locs : List Loc), tk_G D cy ld t [] H → va_S (tk_w t [(20, 0, 0), (6, 0, 0)]) s.heap H locs → tk_f D H (ld 20) 2 0 (.int v3) → ∀ ls : Array Slot, lv_has ls 7 [(5, .int v491), (0, .ref a0), (1, .int 1), (2, .int p2), (3, .int p3), (4, .int p4)] → W p l e ({ frames := 11, cells := 0, slots := 0, locals := 700 }) s m args below meth c H locs 0 0 (MQ below (tv D cy ld t [] (fun H => True) (tk_w t [(20, 0, 0), (6, 0, 0)])) args s 0 0 (tk_w t [(20, 0, 0), (6, 0, 0)])) (F0 m 170 ls []) := by
              intro H locs hG hS hf2 ls hl
              obtain ⟨v940, h_v940, e_v940⟩ := tk_inc v491 1 (by decide) (by omega) (by omega)
              refine lv_iinc (v := v940) (lv' := [(5, .int v940), (0, .ref a0), (1, .int 1), (2, .int p2), (3, .int p3), (4, .int p4)]) hx hb dX5_chooseFrom_170 hl (k := 0) rfl e_v940 (by decide) rfl (fun ls hl => ?_)
              refine lv_goto (tgt := 78) hx hb dX5_chooseFrom_173 (by decide) ?_
              exact ih_l905 v940 _ _ (by omega) (by omega) (by omega) hG hS hf2 _ (lv_sub hl [0, 1, 2, 3, 4, 5] rfl)
            refine lv_icmp_ne (tgt := 170) hx hb dX5_chooseFrom_101 (by decide) (fun c9 => ?_) (fun c9 => ?_)
            · have hc912 : ¬ (v911.toInt = 1) := fun h9 => c9 ((fi_eq rfl (show (1 : Int32).toInt = 1 by decide)).mpr h9)
              exact hj939 _ _ hG hS hf2 _ (lv_sub hl [0, 1, 2, 3, 4, 5] rfl)
            · have hc912 : v911.toInt = 1 := (fi_eq rfl (show (1 : Int32).toInt = 1 by decide)).mp c9
              refine lv_iload_n hx hb dX5_chooseFrom_104 rfl (lv_at hl 3 rfl) ?_
              refine lv_iload hx hb dX5_chooseFrom_105 (lv_at hl 0 rfl) ?_
              refine lv_ishr hx hb dX5_chooseFrom_107 ?_
              refine tk_any (fun v941 => ?_)
              refine lv_iconst (v := 1) hx hb dX5_chooseFrom_108 (by decide) ?_
              refine lv_iand hx hb dX5_chooseFrom_109 ?_
              refine tk_say (P := fun z => 0 ≤ z.toInt ∧ z.toInt ≤ 1) (tk_and v941 1 (by decide) (by decide)) (fun v942 h_v942 => ?_)
              refine lv_if_ne (tgt := 170) hx hb dX5_chooseFrom_110 (by decide) (fun c9 => ?_) (fun c9 => ?_)
              · have hc943 : ¬ (v942.toInt = 0) := fun h9 => c9 ((fi_eq rfl (show (0 : Int32).toInt = 0 by decide)).mpr h9)
                exact hj939 _ _ hG hS hf2 _ (lv_sub hl [0, 1, 2, 3, 4, 5] rfl)
              · have hc943 : v942.toInt = 0 := (fi_eq rfl (show (0 : Int32).toInt = 0 by decide)).mp c9
                refine lv_aload_n hx hb dX5_chooseFrom_113 rfl (lv_at hl 1 rfl) ?_
                refine tk_get (ci := 5) (C := RX5) (T := TX5) (N := 11) (sp := (6, 30, 8, 0)) hx hb htl inX5 hown hK hG ht_a0 (by decide) tk_no rfl 6 (by decide) (htl _ mw_152) (fun _ h9 => h9) rfl dX5_chooseFrom_114 (fun v9 hf944 hV9 => ?_)
                obtain ⟨b945, rfl, ht_b945⟩ := hV9
                have ht_b945 : t b945 = (30, 8, 0) := ht_b945
                refine lv_iload_n hx hb dX5_chooseFrom_117 rfl (lv_at hl 2 rfl) ?_
                refine tk_aald hx hb hK hG 6 rfl rfl ht_b945 (by decide) (fun _ h => h) tk_no (I := 1) (by decide) (by decide) (by decide) dX5_chooseFrom_118 (fun o946 ht_o946 => ?_)
                obtain ⟨b947, rfl, ht_b947⟩ := ht_o946
                have ht_b947 : t b947 = (20, 8, 0) := ht_b947
                refine fx_top (v := .ref b947) rfl ?_
                refine lv_iload hx hb dX5_chooseFrom_119 (lv_at hl 0 rfl) ?_
                refine tk_iald hx hb hK hG ht_b947 (by decide) (fun _ h => h) tk_no rfl (by omega) (by omega) dX5_chooseFrom_121 (fun v948 _ _ => ?_)
                have hr_v948 := tk_rng v948
                refine lv_istore (lv' := [(6, .int v948), (5, .int v491), (0, .ref a0), (1, .int 1), (2, .int p2), (3, .int p3), (4, .int p4)]) hx hb dX5_chooseFrom_122 hl (by decide) rfl (fun ls hl => ?_)
                refine lv_aload_n hx hb dX5_chooseFrom_124 rfl (lv_at hl 2 rfl) ?_
                refine tk_get (ci := 5) (C := RX5) (T := TX5) (N := 11) (sp := (6, 20, 8, 0)) hx hb htl inX5 hown hK hG ht_a0 (by decide) tk_no rfl 7 (by decide) (htl _ mw_153) (fun _ h9 => h9) rfl dX5_chooseFrom_125 (fun v9 hf949 hV9 => ?_)
                obtain ⟨b950, rfl, ht_b950⟩ := hV9
                have ht_b950 : t b950 = (20, 8, 0) := ht_b950
                refine lv_iload_n hx hb dX5_chooseFrom_128 rfl (lv_at hl 3 rfl) ?_
                refine lv_iload hx hb dX5_chooseFrom_129 (lv_at hl 1 rfl) ?_
                refine tk_iast hx hb hK hG hS ht_b950 (by decide) (fun _ => Iff.rfl) tk_no (I := 1) (by decide) (by decide) (by decide) trivial (tk_w.of ht_b950 (by decide) (List.mem_of_getElem? (i := 0) rfl) (Nat.le_refl _) (Nat.le_refl _)) dX5_chooseFrom_131 (fun H locs hG hS hq9 => ?_)
                have hf2 := hf2.kept (hq9 _ (tk_ne ht_ld20 ht_b950 (Or.inl (by decide))))
                refine lv_aload_n hx hb dX5_chooseFrom_132 rfl (lv_at hl 2 rfl) ?_
                refine lv_iload_n hx hb dX5_chooseFrom_133 rfl (lv_at hl 3 rfl) ?_
                refine lv_iconst (v := 1) hx hb dX5_chooseFrom_134 (by decide) ?_
                refine lv_iadd hx hb dX5_chooseFrom_135 ?_
                refine fx_ti (v := 2) (by decide) ?_
                refine lv_iload_n hx hb dX5_chooseFrom_136 rfl (lv_at hl 4 rfl) ?_
                refine lv_iconst (v := 1) hx hb dX5_chooseFrom_137 (by decide) ?_
                refine lv_iload hx hb dX5_chooseFrom_138 (lv_at hl 1 rfl) ?_
                refine lv_ishl hx hb dX5_chooseFrom_140 ?_
                refine tk_say (P := fun z => 1 ≤ z.toInt ∧ z.toInt ≤ 1024) (tk_shl1 v491 (by omega) (by omega)) (fun v952 h_v952 => ?_)
                refine lv_ior hx hb dX5_chooseFrom_141 ?_
                refine tk_any (fun v953 => ?_)
                refine lv_iload_n hx hb dX5_chooseFrom_142 rfl (lv_at hl 5 rfl) ?_
                refine lv_iload hx hb dX5_chooseFrom_143 (lv_at hl 0 rfl) ?_
                have hj957 : ∀ (v956 : Int32), 0 ≤ v956.toInt → v956.toInt ≤ 1 → ∀ ls : Array Slot, lv_has ls 7 [(6, .int v948), (5, .int v491), (0, .ref a0), (1, .int 1), (2, .int p2), (3, .int p3), (4, .int p4)] → W p l e ({ frames := 11, cells := 0, slots := 0, locals := 700 }) s m args below meth c H locs 0 0 (MQ below (tv D cy ld t [] (fun H => True) (tk_w t [(20, 0, 0), (6, 0, 0)])) args s 0 0 (tk_w t [(20, 0, 0), (6, 0, 0)])) (F0 m 153 ls [.int v956, .int p3, .int v953, .int 2, .ref a0]) := by
                  intro v956 hq0_j957 hq1_j957 ls hl
                  refine lv_iadd hx hb dX5_chooseFrom_153 ?_
                  obtain ⟨v958, hm_v958⟩ : ∃ z : Int32, p3 + v956 = z := ⟨_, rfl⟩
                  refine fx_ti hm_v958 ?_
                  refine lv_iload hx hb dX5_chooseFrom_154 (lv_at hl 6 rfl) ?_
                  refine lv_iload hx hb dX5_chooseFrom_156 (lv_at hl 0 rfl) ?_
                  have hj962 : ∀ (v961 : Int32), 0 ≤ v961.toInt → v961.toInt ≤ 1 → ∀ ls : Array Slot, lv_has ls 7 [(5, .int v491), (0, .ref a0), (1, .int 1), (2, .int p2), (3, .int p3), (4, .int p4)] → W p l e ({ frames := 11, cells := 0, slots := 0, locals := 700 }) s m args below meth c H locs 0 0 (MQ below (tv D cy ld t [] (fun H => True) (tk_w t [(20, 0, 0), (6, 0, 0)])) args s 0 0 (tk_w t [(20, 0, 0), (6, 0, 0)])) (F0 m 166 ls [.int v961, .int p4, .int v958, .int v953, .int 2, .ref a0]) := by
                    intro v961 hq0_j962 hq1_j962 ls hl
                    refine lv_iadd hx hb dX5_chooseFrom_166 ?_
                    obtain ⟨v963, hm_v963⟩ : ∃ z : Int32, p4 + v961 = z := ⟨_, rfl⟩
                    refine fx_ti hm_v963 ?_
                    have hk_2 : (2 : Int32).toInt = 2 := by decide
                    refine tk_Vv (As := [.int 2, .int v953, .int v958, .int v963]) (rest := []) (ci := 5) ⟨hx, hb, hml, hown, hts⟩ hK hG hZ hS (k_X5_chooseFrom_2 l D cy ld t a0 v953 v958 v963 ht_a0) trivial ⟨callB_of 4 hts (wl_in mw_1427) rfl rfl rfl (htl _ mw_40) (htl _ mw_1424) hd_yX5_chooseFrom ⟨(Nat.le_of_ble_eq_true rfl), (Nat.le_of_ble_eq_true rfl)⟩, htl _ mw_1425, htl _ mw_1426⟩ ht_a0 (by decide) tk_no rfl (tk_w.pick [0, 1] rfl) rfl hl.1 rfl (Nat.le_of_ble_eq_true rfl) dX5_chooseFrom_167 ⟨(Nat.le_of_ble_eq_true rfl), (Nat.le_of_ble_eq_true rfl)⟩ (fun H locs hpo hG hS hq9 => ?_)
                    have hf2 := hf2.call hq9 (tk_w.no ht_ld20 (by decide))
                    exact hj939 _ _ hG hS hf2 _ (lv_sub hl [0, 1, 2, 3, 4, 5] rfl)
                  refine lv_if_ge (tgt := 165) hx hb dX5_chooseFrom_158 (by decide) (fun c9 => ?_) (fun c9 => ?_)
                  · have hc959 : 0 ≤ v948.toInt := (fi_le (show (0 : Int32).toInt = 0 by decide) rfl).mp c9
                    refine lv_iconst (v := 0) hx hb dX5_chooseFrom_165 (by decide) ?_
                    have hk_0 : (0 : Int32).toInt = 0 := by decide
                    exact hj962 0 (by omega) (by omega) _ (lv_sub hl [1, 2, 3, 4, 5, 6] rfl)
                  · have hc959 : ¬ (0 ≤ v948.toInt) := fun h9 => c9 ((fi_le (show (0 : Int32).toInt = 0 by decide) rfl).mpr h9)
                    refine lv_iconst (v := 1) hx hb dX5_chooseFrom_161 (by decide) ?_
                    refine lv_goto (tgt := 166) hx hb dX5_chooseFrom_162 (by decide) ?_
                    have hk_1 : (1 : Int32).toInt = 1 := by decide
                    exact hj962 1 (by omega) (by omega) _ (lv_sub hl [1, 2, 3, 4, 5, 6] rfl)
                refine lv_if_le (tgt := 152) hx hb dX5_chooseFrom_145 (by decide) (fun c9 => ?_) (fun c9 => ?_)
                · have hc954 : v948.toInt ≤ 0 := (fi_le rfl (show (0 : Int32).toInt = 0 by decide)).mp c9
                  refine lv_iconst (v := 0) hx hb dX5_chooseFrom_152 (by decide) ?_
                  have hk_0 : (0 : Int32).toInt = 0 := by decide
                  exact hj957 0 (by omega) (by omega) _ (lv_sub hl [0, 1, 2, 3, 4, 5, 6] rfl)
                · have hc954 : ¬ (v948.toInt ≤ 0) := fun h9 => c9 ((fi_le rfl (show (0 : Int32).toInt = 0 by decide)).mpr h9)
                  refine lv_iconst (v := 1) hx hb dX5_chooseFrom_148 (by decide) ?_
                  refine lv_goto (tgt := 153) hx hb dX5_chooseFrom_149 (by decide) ?_
                  have hk_1 : (1 : Int32).toInt = 1 := by decide
                  exact hj957 1 (by omega) (by omega) _ (lv_sub hl [0, 1, 2, 3, 4, 5, 6] rfl)
      have hk_0 : (0 : Int32).toInt = 0 := by decide
      exact hl905 9 0 _ _ (by omega) (by omega) (by omega) hG hS hf2 _ (lv_sub hl [0, 1, 2, 3, 4, 5] rfl)
  · have hc4 : ¬ (1 < v3.toInt) := fun h9 => c9 ((fi_lt (show (1 : Int32).toInt = 1 by decide) rfl).mpr h9)
    refine lv_iload_n hx hb dX5_chooseFrom_11 rfl (lv_at hl 3 rfl) ?_
    refine lv_aload_n hx hb dX5_chooseFrom_12 rfl (lv_at hl 0 rfl) ?_
    refine tk_get (ci := 5) (C := RX5) (T := TX5) (N := 11) (sp := (0, (-2147483648), 2147483647, 0)) hx hb htl inX5 hown hK hG ht_a0 (by decide) tk_no rfl 9 (by decide) (htl _ mw_1421) (fun _ h9 => h9) rfl dX5_chooseFrom_13 (fun v9 hf965 hV9 => ?_)
    obtain ⟨v966, rfl, (ha_v966 : (-2147483648) ≤ v966.toInt), (hb_v966 : v966.toInt ≤ 2147483647)⟩ := hV9
    refine lv_icmp_gt (tgt := 36) hx hb dX5_chooseFrom_16 (by decide) (fun c9 => ?_) (fun c9 => ?_)
    · have hc967 : v966.toInt < p3.toInt := (fi_lt rfl rfl).mp c9
      refine lv_aload_n hx hb dX5_chooseFrom_36 rfl (lv_at hl 0 rfl) ?_
      refine lv_iload_n hx hb dX5_chooseFrom_37 rfl (lv_at hl 3 rfl) ?_
      refine tk_put (ci := 5) (v := .int p3) (ty := .int) (C := RX5) (T := TX5) (N := 11) (sp := (0, (-2147483648), 2147483647, 0)) hx hb htl inX5 tyX5 tyX5_ok nmX5 hown hK hG hS ht_a0 (by decide) tk_no rfl 9 (by decide) (htl _ mw_1421) (fun _ h9 => h9) rfl (tyX5_ok 9 (by decide)) rfl rfl rfl (tk_V0 (tk_rng _).1 (tk_rng _).2) (fun _ h => h) (tk_w.of ht_a0 (by decide) (List.mem_of_getElem? (i := 1) rfl) (Nat.le_refl _) (Nat.le_refl _)) dX5_chooseFrom_38 (fun H locs hG hS hf968 hq9 hj9 => ?_)
      have hf2 := hf2.kept (hq9 _ (tk_ne ht_ld20 ht_a0 (Or.inl (by decide))))
      refine lv_aload_n hx hb dX5_chooseFrom_41 rfl (lv_at hl 0 rfl) ?_
      refine lv_iload hx hb dX5_chooseFrom_42 (lv_at hl 4 rfl) ?_
      refine tk_put (ci := 5) (v := .int p4) (ty := .int) (C := RX5) (T := TX5) (N := 11) (sp := (0, (-2147483648), 2147483647, 0)) hx hb htl inX5 tyX5 tyX5_ok nmX5 hown hK hG hS ht_a0 (by decide) tk_no rfl 10 (by decide) (htl _ mw_1422) (fun _ h9 => h9) rfl (tyX5_ok 10 (by decide)) rfl rfl rfl (tk_V0 (tk_rng _).1 (tk_rng _).2) (fun _ h => h) (tk_w.of ht_a0 (by decide) (List.mem_of_getElem? (i := 1) rfl) (Nat.le_refl _) (Nat.le_refl _)) dX5_chooseFrom_44 (fun H locs hG hS hf970 hq9 hj9 => ?_)
      have hf2 := hf2.kept (hq9 _ (tk_ne ht_ld20 ht_a0 (Or.inl (by decide))))
      refine lv_aload_n hx hb dX5_chooseFrom_47 rfl (lv_at hl 0 rfl) ?_
      refine tk_get (ci := 5) (C := RX5) (T := TX5) (N := 11) (sp := (6, 20, 8, 0)) hx hb htl inX5 hown hK hG ht_a0 (by decide) tk_no rfl 7 (by decide) (htl _ mw_153) (fun _ h9 => h9) rfl dX5_chooseFrom_48 (fun v9 hf972 hV9 => ?_)
      obtain ⟨b973, rfl, ht_b973⟩ := hV9
      have ht_b973 : t b973 = (20, 8, 0) := ht_b973
      refine lv_iconst (v := 0) hx hb dX5_chooseFrom_51 (by decide) ?_
      refine lv_aload_n hx hb dX5_chooseFrom_52 rfl (lv_at hl 0 rfl) ?_
      refine tk_get (ci := 5) (C := RX5) (T := TX5) (N := 11) (sp := (6, 20, 8, 0)) hx hb htl inX5 hown hK hG ht_a0 (by decide) tk_no rfl 8 (by decide) (htl _ mw_154) (fun _ h9 => h9) rfl dX5_chooseFrom_53 (fun v9 hf974 hV9 => ?_)
      obtain ⟨b975, rfl, ht_b975⟩ := hV9
      have ht_b975 : t b975 = (20, 8, 0) := ht_b975
      refine lv_iconst (v := 0) hx hb dX5_chooseFrom_56 (by decide) ?_
      refine lv_bipush (v := 8) hx hb dX5_chooseFrom_57 (by decide) ?_
      refine tk_copy (SP := 0) (DP := 0) (NC := 8) hx hb (by rw [hml]; exact hl.1.symm) hown (htl _ mw_1428) (htl _ mw_655) (htl _ mw_656) (htl _ mw_657) hK hG hS ht_b973 ht_b975 (by decide) (by decide) (fun _ h => h) (fun _ => Iff.rfl) tk_no tk_no (show (0 : Int32).toInt = 0 by decide) (show (0 : Int32).toInt = 0 by decide) (show (8 : Int32).toInt = 8 by decide) (by decide) (by decide) (by decide) (by decide) (by decide) (fun _ _ _ _ _ => trivial) (tk_w.of ht_b975 (by decide) (List.mem_of_getElem? (i := 0) rfl) (Nat.le_refl _) (Nat.le_refl _)) (Nat.le_of_ble_eq_true rfl) (Nat.le_of_ble_eq_true rfl) dX5_chooseFrom_59 (fun H locs hG hS hq9 => ?_)
      have hf2 := hf2.kept (hq9 _ (tk_ne ht_ld20 ht_b975 (Or.inl (by decide))))
      exact tk_vret hx hb hr hlocks trivial hG hS dX5_chooseFrom_62
    · have hc967 : ¬ (v966.toInt < p3.toInt) := fun h9 => c9 ((fi_lt rfl rfl).mpr h9)
      refine lv_iload_n hx hb dX5_chooseFrom_19 rfl (lv_at hl 3 rfl) ?_
      refine lv_aload_n hx hb dX5_chooseFrom_20 rfl (lv_at hl 0 rfl) ?_
      refine tk_get (ci := 5) (C := RX5) (T := TX5) (N := 11) (sp := (0, (-2147483648), 2147483647, 0)) hx hb htl inX5 hown hK hG ht_a0 (by decide) tk_no rfl 9 (by decide) (htl _ mw_1421) (fun _ h9 => h9) rfl dX5_chooseFrom_21 (fun v9 hf977 hV9 => ?_)
      obtain ⟨v978, rfl, (ha_v978 : (-2147483648) ≤ v978.toInt), (hb_v978 : v978.toInt ≤ 2147483647)⟩ := hV9
      refine lv_icmp_ne (tgt := 62) hx hb dX5_chooseFrom_24 (by decide) (fun c9 => ?_) (fun c9 => ?_)
      · have hc979 : ¬ (p3.toInt = v978.toInt) := fun h9 => c9 ((fi_eq rfl rfl).mpr h9)
        exact tk_vret hx hb hr hlocks trivial hG hS dX5_chooseFrom_62
      · have hc979 : p3.toInt = v978.toInt := (fi_eq rfl rfl).mp c9
        refine lv_iload hx hb dX5_chooseFrom_27 (lv_at hl 4 rfl) ?_
        refine lv_aload_n hx hb dX5_chooseFrom_29 rfl (lv_at hl 0 rfl) ?_
        refine tk_get (ci := 5) (C := RX5) (T := TX5) (N := 11) (sp := (0, (-2147483648), 2147483647, 0)) hx hb htl inX5 hown hK hG ht_a0 (by decide) tk_no rfl 10 (by decide) (htl _ mw_1422) (fun _ h9 => h9) rfl dX5_chooseFrom_30 (fun v9 hf980 hV9 => ?_)
        obtain ⟨v981, rfl, (ha_v981 : (-2147483648) ≤ v981.toInt), (hb_v981 : v981.toInt ≤ 2147483647)⟩ := hV9
        refine lv_icmp_ge (tgt := 62) hx hb dX5_chooseFrom_33 (by decide) (fun c9 => ?_) (fun c9 => ?_)
        · have hc982 : v981.toInt ≤ p4.toInt := (fi_le rfl rfl).mp c9
          exact tk_vret hx hb hr hlocks trivial hG hS dX5_chooseFrom_62
        · have hc982 : ¬ (v981.toInt ≤ p4.toInt) := fun h9 => c9 ((fi_le rfl rfl).mpr h9)
          refine lv_aload_n hx hb dX5_chooseFrom_36 rfl (lv_at hl 0 rfl) ?_
          refine lv_iload_n hx hb dX5_chooseFrom_37 rfl (lv_at hl 3 rfl) ?_
          refine tk_put (ci := 5) (v := .int p3) (ty := .int) (C := RX5) (T := TX5) (N := 11) (sp := (0, (-2147483648), 2147483647, 0)) hx hb htl inX5 tyX5 tyX5_ok nmX5 hown hK hG hS ht_a0 (by decide) tk_no rfl 9 (by decide) (htl _ mw_1421) (fun _ h9 => h9) rfl (tyX5_ok 9 (by decide)) rfl rfl rfl (tk_V0 (tk_rng _).1 (tk_rng _).2) (fun _ h => h) (tk_w.of ht_a0 (by decide) (List.mem_of_getElem? (i := 1) rfl) (Nat.le_refl _) (Nat.le_refl _)) dX5_chooseFrom_38 (fun H locs hG hS hf983 hq9 hj9 => ?_)
          have hf2 := hf2.kept (hq9 _ (tk_ne ht_ld20 ht_a0 (Or.inl (by decide))))
          refine lv_aload_n hx hb dX5_chooseFrom_41 rfl (lv_at hl 0 rfl) ?_
          refine lv_iload hx hb dX5_chooseFrom_42 (lv_at hl 4 rfl) ?_
          refine tk_put (ci := 5) (v := .int p4) (ty := .int) (C := RX5) (T := TX5) (N := 11) (sp := (0, (-2147483648), 2147483647, 0)) hx hb htl inX5 tyX5 tyX5_ok nmX5 hown hK hG hS ht_a0 (by decide) tk_no rfl 10 (by decide) (htl _ mw_1422) (fun _ h9 => h9) rfl (tyX5_ok 10 (by decide)) rfl rfl rfl (tk_V0 (tk_rng _).1 (tk_rng _).2) (fun _ h => h) (tk_w.of ht_a0 (by decide) (List.mem_of_getElem? (i := 1) rfl) (Nat.le_refl _) (Nat.le_refl _)) dX5_chooseFrom_44 (fun H locs hG hS hf985 hq9 hj9 => ?_)
          have hf2 := hf2.kept (hq9 _ (tk_ne ht_ld20 ht_a0 (Or.inl (by decide))))
          refine lv_aload_n hx hb dX5_chooseFrom_47 rfl (lv_at hl 0 rfl) ?_
          refine tk_get (ci := 5) (C := RX5) (T := TX5) (N := 11) (sp := (6, 20, 8, 0)) hx hb htl inX5 hown hK hG ht_a0 (by decide) tk_no rfl 7 (by decide) (htl _ mw_153) (fun _ h9 => h9) rfl dX5_chooseFrom_48 (fun v9 hf987 hV9 => ?_)
          obtain ⟨b988, rfl, ht_b988⟩ := hV9
          have ht_b988 : t b988 = (20, 8, 0) := ht_b988
          refine lv_iconst (v := 0) hx hb dX5_chooseFrom_51 (by decide) ?_
          refine lv_aload_n hx hb dX5_chooseFrom_52 rfl (lv_at hl 0 rfl) ?_
          refine tk_get (ci := 5) (C := RX5) (T := TX5) (N := 11) (sp := (6, 20, 8, 0)) hx hb htl inX5 hown hK hG ht_a0 (by decide) tk_no rfl 8 (by decide) (htl _ mw_154) (fun _ h9 => h9) rfl dX5_chooseFrom_53 (fun v9 hf989 hV9 => ?_)
          obtain ⟨b990, rfl, ht_b990⟩ := hV9
          have ht_b990 : t b990 = (20, 8, 0) := ht_b990
          refine lv_iconst (v := 0) hx hb dX5_chooseFrom_56 (by decide) ?_
          refine lv_bipush (v := 8) hx hb dX5_chooseFrom_57 (by decide) ?_
          refine tk_copy (SP := 0) (DP := 0) (NC := 8) hx hb (by rw [hml]; exact hl.1.symm) hown (htl _ mw_1428) (htl _ mw_655) (htl _ mw_656) (htl _ mw_657) hK hG hS ht_b988 ht_b990 (by decide) (by decide) (fun _ h => h) (fun _ => Iff.rfl) tk_no tk_no (show (0 : Int32).toInt = 0 by decide) (show (0 : Int32).toInt = 0 by decide) (show (8 : Int32).toInt = 8 by decide) (by decide) (by decide) (by decide) (by decide) (by decide) (fun _ _ _ _ _ => trivial) (tk_w.of ht_b990 (by decide) (List.mem_of_getElem? (i := 0) rfl) (Nat.le_refl _) (Nat.le_refl _)) (Nat.le_of_ble_eq_true rfl) (Nat.le_of_ble_eq_true rfl) dX5_chooseFrom_59 (fun H locs hG hS hq9 => ?_)
          have hf2 := hf2.kept (hq9 _ (tk_ne ht_ld20 ht_b990 (Or.inl (by decide))))
          exact tk_vret hx hb hr hlocks trivial hG hS dX5_chooseFrom_62
set_option maxHeartbeats 4000000 in
set_option maxRecDepth 100000 in
theorem k_X5_chooseFrom_0 (l : Launch) (D : va_G) (cy : Nat → ClassId) (ld : Nat → Nat) (t : tk_T) (a0 : Nat) (p2 : Int32) (p3 : Int32) (p4 : Int32) (ht_a0 : t a0 = (6, 0, 0)) : Met l yX5_chooseFrom (wl yX5_chooseFrom cX5_chooseFrom 7 none) ({ frames := 12, cells := 0, slots := 0, locals := 770 }) (tp D cy ld t [] [.ref a0, .int 0, .int p2, .int p3, .int p4] (fun H => True)) (tv D cy ld t [] (fun H => True) (tk_w t [(20, 0, 0), (6, 0, 0)])) 0 0 (tk_w t [(20, 0, 0), (6, 0, 0)]) := by
  refine tk_met (y := yX5_chooseFrom) (cc := cX5_chooseFrom) (maxL := 7) (ret := none) (av := [.ref a0, .int 0, .int p2, .int p3, .int p4]) _ _ (by decide) (Nat.le_of_ble_eq_true rfl) ?_
  intro p e s m args below meth c hx hb hr hml hts htl hown hlocks hK H locs hH hG hS hB hZ ls hl
  have hown : s.vm.findClass RX5 = some m.cls := hown
  have hl : lv_has ls 7 [(0, .ref a0), (1, .int 0), (2, .int p2), (3, .int p3), (4, .int p4)] := hl
  have hr_p2 := tk_rng p2
  have hr_p3 := tk_rng p3
  have hr_p4 := tk_rng p4
  refine lv_iload_n hx hb dX5_chooseFrom_0 rfl (lv_at hl 1 rfl) ?_
  refine lv_aload_n hx hb dX5_chooseFrom_1 rfl (lv_at hl 0 rfl) ?_
  refine tk_get (ci := 5) (C := RX5) (T := TX5) (N := 11) (sp := (8, 20, 3, 0)) hx hb htl inX5 hown hK hG ht_a0 (by decide) tk_no rfl 0 (by decide) (htl _ mw_155) (fun _ h9 => h9) rfl dX5_chooseFrom_2 (fun v9 hf1 hV9 => ?_)
  obtain ⟨rfl, ht_ld20⟩ := hV9
  have ht_ld20 : t (ld 20) = (3, 0, 0) := ht_ld20
  refine fx_top (v := .ref (ld 20)) rfl ?_
  refine tk_get (ci := 2) (C := RX2) (T := TX2) (N := 20) (sp := (0, 0, 8, 0)) hx hb htl inX2 hown hK hG ht_ld20 (by decide) tk_no rfl 0 (by decide) (htl _ mw_1419) (fun _ h9 => h9) rfl dX5_chooseFrom_5 (fun v9 hf2 hV9 => ?_)
  obtain ⟨v3, rfl, (ha_v3 : 0 ≤ v3.toInt), (hb_v3 : v3.toInt ≤ 8)⟩ := hV9
  refine lv_icmp_lt (tgt := 63) hx hb dX5_chooseFrom_8 (by decide) (fun c9 => ?_) (fun c9 => ?_)
  · have hc4 : 0 < v3.toInt := (fi_lt (show (0 : Int32).toInt = 0 by decide) rfl).mp c9
    refine lv_aload_n hx hb dX5_chooseFrom_63 rfl (lv_at hl 0 rfl) ?_
    refine tk_get (ci := 5) (C := RX5) (T := TX5) (N := 11) (sp := (8, 20, 3, 0)) hx hb htl inX5 hown hK hG ht_a0 (by decide) tk_no rfl 0 (by decide) (htl _ mw_155) (fun _ h9 => h9) rfl dX5_chooseFrom_64 (fun v9 hf5 hV9 => ?_)
    obtain ⟨rfl, ht_ld20⟩ := hV9
    have ht_ld20 : t (ld 20) = (3, 0, 0) := ht_ld20
    refine fx_top (v := .ref (ld 20)) rfl ?_
    refine tk_get (ci := 2) (C := RX2) (T := TX2) (N := 20) (sp := (1, 21, 8, 0)) hx hb htl inX2 hown hK hG ht_ld20 (by decide) tk_no rfl 2 (by decide) (htl _ mw_1420) (fun _ h9 => h9) rfl dX5_chooseFrom_67 (fun v9 hf6 hV9 => ?_)
    obtain ⟨b7, rfl, ht_b7⟩ := hV9
    have ht_b7 : t b7 = (21, 8, 0) := ht_b7
    refine lv_iload_n hx hb dX5_chooseFrom_70 rfl (lv_at hl 1 rfl) ?_
    refine tk_iald hx hb hK hG ht_b7 (by decide) (fun _ h => h) tk_no (I := 0) (by decide) (by decide) (by decide) dX5_chooseFrom_71 (fun v8 hE9 _ => ?_)
    have he_v8 : 0 ≤ v8.toInt ∧ v8.toInt ≤ 1 := hE9
    have hj486 : ∀ (H : Heap) (locs : List Loc), tk_G D cy ld t [] H → va_S (tk_w t [(20, 0, 0), (6, 0, 0)]) s.heap H locs → tk_f D H (ld 20) 2 0 (.int v3) → ∀ ls : Array Slot, lv_has ls 7 [(0, .ref a0), (1, .int 0), (2, .int p2), (3, .int p3), (4, .int p4)] → W p l e ({ frames := 12, cells := 0, slots := 0, locals := 770 }) s m args below meth c H locs 0 0 (MQ below (tv D cy ld t [] (fun H => True) (tk_w t [(20, 0, 0), (6, 0, 0)])) args s 0 0 (tk_w t [(20, 0, 0), (6, 0, 0)])) (F0 m 176 ls []) := by
      intro H locs hG hS hf2 ls hl
      refine lv_aload_n hx hb dX5_chooseFrom_176 rfl (lv_at hl 0 rfl) ?_
      refine tk_get (ci := 5) (C := RX5) (T := TX5) (N := 11) (sp := (6, 20, 8, 0)) hx hb htl inX5 hown hK hG ht_a0 (by decide) tk_no rfl 7 (by decide) (htl _ mw_153) (fun _ h9 => h9) rfl dX5_chooseFrom_177 (fun v9 hf487 hV9 => ?_)
      obtain ⟨b488, rfl, ht_b488⟩ := hV9
      have ht_b488 : t b488 = (20, 8, 0) := ht_b488
      refine lv_iload_n hx hb dX5_chooseFrom_180 rfl (lv_at hl 1 rfl) ?_
      refine lv_bipush (v := 100) hx hb dX5_chooseFrom_181 (by decide) ?_
      refine tk_iast hx hb hK hG hS ht_b488 (by decide) (fun _ => Iff.rfl) tk_no (I := 0) (by decide) (by decide) (by decide) trivial (tk_w.of ht_b488 (by decide) (List.mem_of_getElem? (i := 0) rfl) (Nat.le_refl _) (Nat.le_refl _)) dX5_chooseFrom_183 (fun H locs hG hS hq9 => ?_)
      have hf2 := hf2.kept (hq9 _ (tk_ne ht_ld20 ht_b488 (Or.inl (by decide))))
      refine lv_aload_n hx hb dX5_chooseFrom_184 rfl (lv_at hl 0 rfl) ?_
      refine lv_iload_n hx hb dX5_chooseFrom_185 rfl (lv_at hl 1 rfl) ?_
      refine lv_iconst (v := 1) hx hb dX5_chooseFrom_186 (by decide) ?_
      refine lv_iadd hx hb dX5_chooseFrom_187 ?_
      refine fx_ti (v := 1) (by decide) ?_
      refine lv_iload_n hx hb dX5_chooseFrom_188 rfl (lv_at hl 2 rfl) ?_
      refine lv_iload_n hx hb dX5_chooseFrom_189 rfl (lv_at hl 3 rfl) ?_
      refine lv_iload hx hb dX5_chooseFrom_190 (lv_at hl 4 rfl) ?_
      have hk_1 : (1 : Int32).toInt = 1 := by decide
      refine tk_Vv (As := [.int 1, .int p2, .int p3, .int p4]) (rest := []) (ci := 5) ⟨hx, hb, hml, hown, hts⟩ hK hG hZ hS (k_X5_chooseFrom_1 l D cy ld t a0 p2 p3 p4 ht_a0) trivial ⟨callB_of 4 hts (wl_in mw_1427) rfl rfl rfl (htl _ mw_40) (htl _ mw_1424) hd_yX5_chooseFrom ⟨(Nat.le_of_ble_eq_true rfl), (Nat.le_of_ble_eq_true rfl)⟩, htl _ mw_1425, htl _ mw_1426⟩ ht_a0 (by decide) tk_no rfl (tk_w.pick [0, 1] rfl) rfl hl.1 rfl (Nat.le_of_ble_eq_true rfl) dX5_chooseFrom_192 ⟨(Nat.le_of_ble_eq_true rfl), (Nat.le_of_ble_eq_true rfl)⟩ (fun H locs hpo hG hS hq9 => ?_)
      have hf2 := hf2.call hq9 (tk_w.no ht_ld20 (by decide))
      exact tk_vret hx hb hr hlocks trivial hG hS dX5_chooseFrom_195
    refine lv_if_ne (tgt := 176) hx hb dX5_chooseFrom_72 (by decide) (fun c9 => ?_) (fun c9 => ?_)
    · have hc9 : ¬ (v8.toInt = 0) := fun h9 => c9 ((fi_eq rfl (show (0 : Int32).toInt = 0 by decide)).mpr h9)
      exact hj486 _ _ hG hS hf2 _ (lv_sub hl [0, 1, 2, 3, 4] rfl)
    · have hc9 : v8.toInt = 0 := (fi_eq rfl (show (0 : Int32).toInt = 0 by decide)).mp c9
      refine lv_iconst (v := 0) hx hb dX5_chooseFrom_75 (by decide) ?_
      refine lv_istore (lv' := [(5, .int 0), (0, .ref a0), (1, .int 0), (2, .int p2), (3, .int p3), (4, .int p4)]) hx hb dX5_chooseFrom_76 hl (by decide) rfl (fun ls hl => ?_)
      have hl905 : ∀ (N_l905 : Nat) (v491 : Int32) (H : Heap) (locs : List Loc), v491.toInt ≤ 8 → 0 ≤ v491.toInt → (-1) * v491.toInt + 8 < (N_l905 : Int) → tk_G D cy ld t [] H → va_S (tk_w t [(20, 0, 0), (6, 0, 0)]) s.heap H locs → tk_f D H (ld 20) 2 0 (.int v3) → ∀ ls : Array Slot, lv_has ls 7 [(5, .int v491), (0, .ref a0), (1, .int 0), (2, .int p2), (3, .int p3), (4, .int p4)] → W p l e ({ frames := 12, cells := 0, slots := 0, locals := 770 }) s m args below meth c H locs 0 0 (MQ below (tv D cy ld t [] (fun H => True) (tk_w t [(20, 0, 0), (6, 0, 0)])) args s 0 0 (tk_w t [(20, 0, 0), (6, 0, 0)])) (F0 m 78 ls []) := by
        intro N_l905
        induction N_l905 with
        | zero => intro v491 H locs hq0_l905 hq1_l905 hm_l905 hG hS hf2 ls hl; exfalso; omega
        | succ N_l905 ih_l905 =>
          intro v491 H locs hq0_l905 hq1_l905 hm_l905 hG hS hf2 ls hl
          refine lv_iload hx hb dX5_chooseFrom_78 (lv_at hl 0 rfl) ?_
          refine lv_aload_n hx hb dX5_chooseFrom_80 rfl (lv_at hl 1 rfl) ?_
          refine tk_get (ci := 5) (C := RX5) (T := TX5) (N := 11) (sp := (8, 20, 3, 0)) hx hb htl inX5 hown hK hG ht_a0 (by decide) tk_no rfl 0 (by decide) (htl _ mw_155) (fun _ h9 => h9) rfl dX5_chooseFrom_81 (fun v9 hf906 hV9 => ?_)
          obtain ⟨rfl, ht_ld20⟩ := hV9
          have ht_ld20 : t (ld 20) = (3, 0, 0) := ht_ld20
          refine fx_top (v := .ref (ld 20)) rfl ?_
          refine tk_getk (ci := 2) (C := RX2) (T := TX2) (N := 20) (sp := (0, 0, 8, 0)) hx hb htl inX2 hown hK hG ht_ld20 (by decide) tk_no rfl 0 (by decide) (htl _ mw_1419) (fun _ h9 => h9) rfl hf2 dX5_chooseFrom_84 ?_
          refine lv_icmp_ge (tgt := 176) hx hb dX5_chooseFrom_87 (by decide) (fun c9 => ?_) (fun c9 => ?_)
          · have hc907 : v3.toInt ≤ v491.toInt := (fi_le rfl rfl).mp c9
            exact hj486 _ _ hG hS hf2 _ (lv_sub hl [1, 2, 3, 4, 5] rfl)
          · have hc907 : ¬ (v3.toInt ≤ v491.toInt) := fun h9 => c9 ((fi_le rfl rfl).mpr h9)
            refine lv_aload_n hx hb dX5_chooseFrom_90 rfl (lv_at hl 1 rfl) ?_
            refine tk_get (ci := 5) (C := RX5) (T := TX5) (N := 11) (sp := (8, 20, 3, 0)) hx hb htl inX5 hown hK hG ht_a0 (by decide) tk_no rfl 0 (by decide) (htl _ mw_155) (fun _ h9 => h9) rfl dX5_chooseFrom_91 (fun v9 hf908 hV9 => ?_)
            obtain ⟨rfl, ht_ld20⟩ := hV9
            have ht_ld20 : t (ld 20) = (3, 0, 0) := ht_ld20
            refine fx_top (v := .ref (ld 20)) rfl ?_
            refine tk_get (ci := 2) (C := RX2) (T := TX2) (N := 20) (sp := (1, 21, 8, 0)) hx hb htl inX2 hown hK hG ht_ld20 (by decide) tk_no rfl 2 (by decide) (htl _ mw_1420) (fun _ h9 => h9) rfl dX5_chooseFrom_94 (fun v9 hf909 hV9 => ?_)
            obtain ⟨b910, rfl, ht_b910⟩ := hV9
            have ht_b910 : t b910 = (21, 8, 0) := ht_b910
            refine lv_iload hx hb dX5_chooseFrom_97 (lv_at hl 0 rfl) ?_
            refine tk_iald hx hb hK hG ht_b910 (by decide) (fun _ h => h) tk_no rfl (by omega) (by omega) dX5_chooseFrom_99 (fun v911 hE9 _ => ?_)
            have he_v911 : 0 ≤ v911.toInt ∧ v911.toInt ≤ 1 := hE9
            refine lv_iconst (v := 1) hx hb dX5_chooseFrom_100 (by decide) ?_
            have hj939 : ∀ (H : Heap) (locs : List Loc), tk_G D cy ld t [] H → va_S (tk_w t [(20, 0, 0), (6, 0, 0)]) s.heap H locs → tk_f D H (ld 20) 2 0 (.int v3) → ∀ ls : Array Slot, lv_has ls 7 [(5, .int v491), (0, .ref a0), (1, .int 0), (2, .int p2), (3, .int p3), (4, .int p4)] → W p l e ({ frames := 12, cells := 0, slots := 0, locals := 770 }) s m args below meth c H locs 0 0 (MQ below (tv D cy ld t [] (fun H => True) (tk_w t [(20, 0, 0), (6, 0, 0)])) args s 0 0 (tk_w t [(20, 0, 0), (6, 0, 0)])) (F0 m 170 ls []) := by
              intro H locs hG hS hf2 ls hl
              obtain ⟨v940, h_v940, e_v940⟩ := tk_inc v491 1 (by decide) (by omega) (by omega)
              refine lv_iinc (v := v940) (lv' := [(5, .int v940), (0, .ref a0), (1, .int 0), (2, .int p2), (3, .int p3), (4, .int p4)]) hx hb dX5_chooseFrom_170 hl (k := 0) rfl e_v940 (by decide) rfl (fun ls hl => ?_)
              refine lv_goto (tgt := 78) hx hb dX5_chooseFrom_173 (by decide) ?_
              exact ih_l905 v940 _ _ (by omega) (by omega) (by omega) hG hS hf2 _ (lv_sub hl [0, 1, 2, 3, 4, 5] rfl)
            refine lv_icmp_ne (tgt := 170) hx hb dX5_chooseFrom_101 (by decide) (fun c9 => ?_) (fun c9 => ?_)
            · have hc912 : ¬ (v911.toInt = 1) := fun h9 => c9 ((fi_eq rfl (show (1 : Int32).toInt = 1 by decide)).mpr h9)
              exact hj939 _ _ hG hS hf2 _ (lv_sub hl [0, 1, 2, 3, 4, 5] rfl)
            · have hc912 : v911.toInt = 1 := (fi_eq rfl (show (1 : Int32).toInt = 1 by decide)).mp c9
              refine lv_iload_n hx hb dX5_chooseFrom_104 rfl (lv_at hl 3 rfl) ?_
              refine lv_iload hx hb dX5_chooseFrom_105 (lv_at hl 0 rfl) ?_
              refine lv_ishr hx hb dX5_chooseFrom_107 ?_
              refine tk_any (fun v941 => ?_)
              refine lv_iconst (v := 1) hx hb dX5_chooseFrom_108 (by decide) ?_
              refine lv_iand hx hb dX5_chooseFrom_109 ?_
              refine tk_say (P := fun z => 0 ≤ z.toInt ∧ z.toInt ≤ 1) (tk_and v941 1 (by decide) (by decide)) (fun v942 h_v942 => ?_)
              refine lv_if_ne (tgt := 170) hx hb dX5_chooseFrom_110 (by decide) (fun c9 => ?_) (fun c9 => ?_)
              · have hc943 : ¬ (v942.toInt = 0) := fun h9 => c9 ((fi_eq rfl (show (0 : Int32).toInt = 0 by decide)).mpr h9)
                exact hj939 _ _ hG hS hf2 _ (lv_sub hl [0, 1, 2, 3, 4, 5] rfl)
              · have hc943 : v942.toInt = 0 := (fi_eq rfl (show (0 : Int32).toInt = 0 by decide)).mp c9
                refine lv_aload_n hx hb dX5_chooseFrom_113 rfl (lv_at hl 1 rfl) ?_
                refine tk_get (ci := 5) (C := RX5) (T := TX5) (N := 11) (sp := (6, 30, 8, 0)) hx hb htl inX5 hown hK hG ht_a0 (by decide) tk_no rfl 6 (by decide) (htl _ mw_152) (fun _ h9 => h9) rfl dX5_chooseFrom_114 (fun v9 hf944 hV9 => ?_)
                obtain ⟨b945, rfl, ht_b945⟩ := hV9
                have ht_b945 : t b945 = (30, 8, 0) := ht_b945
                refine lv_iload_n hx hb dX5_chooseFrom_117 rfl (lv_at hl 2 rfl) ?_
                refine tk_aald hx hb hK hG 6 rfl rfl ht_b945 (by decide) (fun _ h => h) tk_no (I := 0) (by decide) (by decide) (by decide) dX5_chooseFrom_118 (fun o946 ht_o946 => ?_)
                obtain ⟨b947, rfl, ht_b947⟩ := ht_o946
                have ht_b947 : t b947 = (20, 8, 0) := ht_b947
                refine fx_top (v := .ref b947) rfl ?_
                refine lv_iload hx hb dX5_chooseFrom_119 (lv_at hl 0 rfl) ?_
                refine tk_iald hx hb hK hG ht_b947 (by decide) (fun _ h => h) tk_no rfl (by omega) (by omega) dX5_chooseFrom_121 (fun v948 _ _ => ?_)
                have hr_v948 := tk_rng v948
                refine lv_istore (lv' := [(6, .int v948), (5, .int v491), (0, .ref a0), (1, .int 0), (2, .int p2), (3, .int p3), (4, .int p4)]) hx hb dX5_chooseFrom_122 hl (by decide) rfl (fun ls hl => ?_)
                refine lv_aload_n hx hb dX5_chooseFrom_124 rfl (lv_at hl 2 rfl) ?_
                refine tk_get (ci := 5) (C := RX5) (T := TX5) (N := 11) (sp := (6, 20, 8, 0)) hx hb htl inX5 hown hK hG ht_a0 (by decide) tk_no rfl 7 (by decide) (htl _ mw_153) (fun _ h9 => h9) rfl dX5_chooseFrom_125 (fun v9 hf949 hV9 => ?_)
                obtain ⟨b950, rfl, ht_b950⟩ := hV9
                have ht_b950 : t b950 = (20, 8, 0) := ht_b950
                refine lv_iload_n hx hb dX5_chooseFrom_128 rfl (lv_at hl 3 rfl) ?_
                refine lv_iload hx hb dX5_chooseFrom_129 (lv_at hl 1 rfl) ?_
                refine tk_iast hx hb hK hG hS ht_b950 (by decide) (fun _ => Iff.rfl) tk_no (I := 0) (by decide) (by decide) (by decide) trivial (tk_w.of ht_b950 (by decide) (List.mem_of_getElem? (i := 0) rfl) (Nat.le_refl _) (Nat.le_refl _)) dX5_chooseFrom_131 (fun H locs hG hS hq9 => ?_)
                have hf2 := hf2.kept (hq9 _ (tk_ne ht_ld20 ht_b950 (Or.inl (by decide))))
                refine lv_aload_n hx hb dX5_chooseFrom_132 rfl (lv_at hl 2 rfl) ?_
                refine lv_iload_n hx hb dX5_chooseFrom_133 rfl (lv_at hl 3 rfl) ?_
                refine lv_iconst (v := 1) hx hb dX5_chooseFrom_134 (by decide) ?_
                refine lv_iadd hx hb dX5_chooseFrom_135 ?_
                refine fx_ti (v := 1) (by decide) ?_
                refine lv_iload_n hx hb dX5_chooseFrom_136 rfl (lv_at hl 4 rfl) ?_
                refine lv_iconst (v := 1) hx hb dX5_chooseFrom_137 (by decide) ?_
                refine lv_iload hx hb dX5_chooseFrom_138 (lv_at hl 1 rfl) ?_
                refine lv_ishl hx hb dX5_chooseFrom_140 ?_
                refine tk_say (P := fun z => 1 ≤ z.toInt ∧ z.toInt ≤ 1024) (tk_shl1 v491 (by omega) (by omega)) (fun v952 h_v952 => ?_)
                refine lv_ior hx hb dX5_chooseFrom_141 ?_
                refine tk_any (fun v953 => ?_)
                refine lv_iload_n hx hb dX5_chooseFrom_142 rfl (lv_at hl 5 rfl) ?_
                refine lv_iload hx hb dX5_chooseFrom_143 (lv_at hl 0 rfl) ?_
                have hj957 : ∀ (v956 : Int32), 0 ≤ v956.toInt → v956.toInt ≤ 1 → ∀ ls : Array Slot, lv_has ls 7 [(6, .int v948), (5, .int v491), (0, .ref a0), (1, .int 0), (2, .int p2), (3, .int p3), (4, .int p4)] → W p l e ({ frames := 12, cells := 0, slots := 0, locals := 770 }) s m args below meth c H locs 0 0 (MQ below (tv D cy ld t [] (fun H => True) (tk_w t [(20, 0, 0), (6, 0, 0)])) args s 0 0 (tk_w t [(20, 0, 0), (6, 0, 0)])) (F0 m 153 ls [.int v956, .int p3, .int v953, .int 1, .ref a0]) := by
                  intro v956 hq0_j957 hq1_j957 ls hl
                  refine lv_iadd hx hb dX5_chooseFrom_153 ?_
                  obtain ⟨v958, hm_v958⟩ : ∃ z : Int32, p3 + v956 = z := ⟨_, rfl⟩
                  refine fx_ti hm_v958 ?_
                  refine lv_iload hx hb dX5_chooseFrom_154 (lv_at hl 6 rfl) ?_
                  refine lv_iload hx hb dX5_chooseFrom_156 (lv_at hl 0 rfl) ?_
                  have hj962 : ∀ (v961 : Int32), 0 ≤ v961.toInt → v961.toInt ≤ 1 → ∀ ls : Array Slot, lv_has ls 7 [(5, .int v491), (0, .ref a0), (1, .int 0), (2, .int p2), (3, .int p3), (4, .int p4)] → W p l e ({ frames := 12, cells := 0, slots := 0, locals := 770 }) s m args below meth c H locs 0 0 (MQ below (tv D cy ld t [] (fun H => True) (tk_w t [(20, 0, 0), (6, 0, 0)])) args s 0 0 (tk_w t [(20, 0, 0), (6, 0, 0)])) (F0 m 166 ls [.int v961, .int p4, .int v958, .int v953, .int 1, .ref a0]) := by
                    intro v961 hq0_j962 hq1_j962 ls hl
                    refine lv_iadd hx hb dX5_chooseFrom_166 ?_
                    obtain ⟨v963, hm_v963⟩ : ∃ z : Int32, p4 + v961 = z := ⟨_, rfl⟩
                    refine fx_ti hm_v963 ?_
                    have hk_1 : (1 : Int32).toInt = 1 := by decide
                    refine tk_Vv (As := [.int 1, .int v953, .int v958, .int v963]) (rest := []) (ci := 5) ⟨hx, hb, hml, hown, hts⟩ hK hG hZ hS (k_X5_chooseFrom_1 l D cy ld t a0 v953 v958 v963 ht_a0) trivial ⟨callB_of 4 hts (wl_in mw_1427) rfl rfl rfl (htl _ mw_40) (htl _ mw_1424) hd_yX5_chooseFrom ⟨(Nat.le_of_ble_eq_true rfl), (Nat.le_of_ble_eq_true rfl)⟩, htl _ mw_1425, htl _ mw_1426⟩ ht_a0 (by decide) tk_no rfl (tk_w.pick [0, 1] rfl) rfl hl.1 rfl (Nat.le_of_ble_eq_true rfl) dX5_chooseFrom_167 ⟨(Nat.le_of_ble_eq_true rfl), (Nat.le_of_ble_eq_true rfl)⟩ (fun H locs hpo hG hS hq9 => ?_)
                    have hf2 := hf2.call hq9 (tk_w.no ht_ld20 (by decide))
                    exact hj939 _ _ hG hS hf2 _ (lv_sub hl [0, 1, 2, 3, 4, 5] rfl)
                  refine lv_if_ge (tgt := 165) hx hb dX5_chooseFrom_158 (by decide) (fun c9 => ?_) (fun c9 => ?_)
                  · have hc959 : 0 ≤ v948.toInt := (fi_le (show (0 : Int32).toInt = 0 by decide) rfl).mp c9
                    refine lv_iconst (v := 0) hx hb dX5_chooseFrom_165 (by decide) ?_
                    have hk_0 : (0 : Int32).toInt = 0 := by decide
                    exact hj962 0 (by omega) (by omega) _ (lv_sub hl [1, 2, 3, 4, 5, 6] rfl)
                  · have hc959 : ¬ (0 ≤ v948.toInt) := fun h9 => c9 ((fi_le (show (0 : Int32).toInt = 0 by decide) rfl).mpr h9)
                    refine lv_iconst (v := 1) hx hb dX5_chooseFrom_161 (by decide) ?_
                    refine lv_goto (tgt := 166) hx hb dX5_chooseFrom_162 (by decide) ?_
                    have hk_1 : (1 : Int32).toInt = 1 := by decide
                    exact hj962 1 (by omega) (by omega) _ (lv_sub hl [1, 2, 3, 4, 5, 6] rfl)
                refine lv_if_le (tgt := 152) hx hb dX5_chooseFrom_145 (by decide) (fun c9 => ?_) (fun c9 => ?_)
                · have hc954 : v948.toInt ≤ 0 := (fi_le rfl (show (0 : Int32).toInt = 0 by decide)).mp c9
                  refine lv_iconst (v := 0) hx hb dX5_chooseFrom_152 (by decide) ?_
                  have hk_0 : (0 : Int32).toInt = 0 := by decide
                  exact hj957 0 (by omega) (by omega) _ (lv_sub hl [0, 1, 2, 3, 4, 5, 6] rfl)
                · have hc954 : ¬ (v948.toInt ≤ 0) := fun h9 => c9 ((fi_le rfl (show (0 : Int32).toInt = 0 by decide)).mpr h9)
                  refine lv_iconst (v := 1) hx hb dX5_chooseFrom_148 (by decide) ?_
                  refine lv_goto (tgt := 153) hx hb dX5_chooseFrom_149 (by decide) ?_
                  have hk_1 : (1 : Int32).toInt = 1 := by decide
                  exact hj957 1 (by omega) (by omega) _ (lv_sub hl [0, 1, 2, 3, 4, 5, 6] rfl)
      have hk_0 : (0 : Int32).toInt = 0 := by decide
      exact hl905 9 0 _ _ (by omega) (by omega) (by omega) hG hS hf2 _ (lv_sub hl [0, 1, 2, 3, 4, 5] rfl)
  · have hc4 : ¬ (0 < v3.toInt) := fun h9 => c9 ((fi_lt (show (0 : Int32).toInt = 0 by decide) rfl).mpr h9)
    refine lv_iload_n hx hb dX5_chooseFrom_11 rfl (lv_at hl 3 rfl) ?_
    refine lv_aload_n hx hb dX5_chooseFrom_12 rfl (lv_at hl 0 rfl) ?_
    refine tk_get (ci := 5) (C := RX5) (T := TX5) (N := 11) (sp := (0, (-2147483648), 2147483647, 0)) hx hb htl inX5 hown hK hG ht_a0 (by decide) tk_no rfl 9 (by decide) (htl _ mw_1421) (fun _ h9 => h9) rfl dX5_chooseFrom_13 (fun v9 hf965 hV9 => ?_)
    obtain ⟨v966, rfl, (ha_v966 : (-2147483648) ≤ v966.toInt), (hb_v966 : v966.toInt ≤ 2147483647)⟩ := hV9
    refine lv_icmp_gt (tgt := 36) hx hb dX5_chooseFrom_16 (by decide) (fun c9 => ?_) (fun c9 => ?_)
    · have hc967 : v966.toInt < p3.toInt := (fi_lt rfl rfl).mp c9
      refine lv_aload_n hx hb dX5_chooseFrom_36 rfl (lv_at hl 0 rfl) ?_
      refine lv_iload_n hx hb dX5_chooseFrom_37 rfl (lv_at hl 3 rfl) ?_
      refine tk_put (ci := 5) (v := .int p3) (ty := .int) (C := RX5) (T := TX5) (N := 11) (sp := (0, (-2147483648), 2147483647, 0)) hx hb htl inX5 tyX5 tyX5_ok nmX5 hown hK hG hS ht_a0 (by decide) tk_no rfl 9 (by decide) (htl _ mw_1421) (fun _ h9 => h9) rfl (tyX5_ok 9 (by decide)) rfl rfl rfl (tk_V0 (tk_rng _).1 (tk_rng _).2) (fun _ h => h) (tk_w.of ht_a0 (by decide) (List.mem_of_getElem? (i := 1) rfl) (Nat.le_refl _) (Nat.le_refl _)) dX5_chooseFrom_38 (fun H locs hG hS hf968 hq9 hj9 => ?_)
      have hf2 := hf2.kept (hq9 _ (tk_ne ht_ld20 ht_a0 (Or.inl (by decide))))
      refine lv_aload_n hx hb dX5_chooseFrom_41 rfl (lv_at hl 0 rfl) ?_
      refine lv_iload hx hb dX5_chooseFrom_42 (lv_at hl 4 rfl) ?_
      refine tk_put (ci := 5) (v := .int p4) (ty := .int) (C := RX5) (T := TX5) (N := 11) (sp := (0, (-2147483648), 2147483647, 0)) hx hb htl inX5 tyX5 tyX5_ok nmX5 hown hK hG hS ht_a0 (by decide) tk_no rfl 10 (by decide) (htl _ mw_1422) (fun _ h9 => h9) rfl (tyX5_ok 10 (by decide)) rfl rfl rfl (tk_V0 (tk_rng _).1 (tk_rng _).2) (fun _ h => h) (tk_w.of ht_a0 (by decide) (List.mem_of_getElem? (i := 1) rfl) (Nat.le_refl _) (Nat.le_refl _)) dX5_chooseFrom_44 (fun H locs hG hS hf970 hq9 hj9 => ?_)
      have hf2 := hf2.kept (hq9 _ (tk_ne ht_ld20 ht_a0 (Or.inl (by decide))))
      refine lv_aload_n hx hb dX5_chooseFrom_47 rfl (lv_at hl 0 rfl) ?_
      refine tk_get (ci := 5) (C := RX5) (T := TX5) (N := 11) (sp := (6, 20, 8, 0)) hx hb htl inX5 hown hK hG ht_a0 (by decide) tk_no rfl 7 (by decide) (htl _ mw_153) (fun _ h9 => h9) rfl dX5_chooseFrom_48 (fun v9 hf972 hV9 => ?_)
      obtain ⟨b973, rfl, ht_b973⟩ := hV9
      have ht_b973 : t b973 = (20, 8, 0) := ht_b973
      refine lv_iconst (v := 0) hx hb dX5_chooseFrom_51 (by decide) ?_
      refine lv_aload_n hx hb dX5_chooseFrom_52 rfl (lv_at hl 0 rfl) ?_
      refine tk_get (ci := 5) (C := RX5) (T := TX5) (N := 11) (sp := (6, 20, 8, 0)) hx hb htl inX5 hown hK hG ht_a0 (by decide) tk_no rfl 8 (by decide) (htl _ mw_154) (fun _ h9 => h9) rfl dX5_chooseFrom_53 (fun v9 hf974 hV9 => ?_)
      obtain ⟨b975, rfl, ht_b975⟩ := hV9
      have ht_b975 : t b975 = (20, 8, 0) := ht_b975
      refine lv_iconst (v := 0) hx hb dX5_chooseFrom_56 (by decide) ?_
      refine lv_bipush (v := 8) hx hb dX5_chooseFrom_57 (by decide) ?_
      refine tk_copy (SP := 0) (DP := 0) (NC := 8) hx hb (by rw [hml]; exact hl.1.symm) hown (htl _ mw_1428) (htl _ mw_655) (htl _ mw_656) (htl _ mw_657) hK hG hS ht_b973 ht_b975 (by decide) (by decide) (fun _ h => h) (fun _ => Iff.rfl) tk_no tk_no (show (0 : Int32).toInt = 0 by decide) (show (0 : Int32).toInt = 0 by decide) (show (8 : Int32).toInt = 8 by decide) (by decide) (by decide) (by decide) (by decide) (by decide) (fun _ _ _ _ _ => trivial) (tk_w.of ht_b975 (by decide) (List.mem_of_getElem? (i := 0) rfl) (Nat.le_refl _) (Nat.le_refl _)) (Nat.le_of_ble_eq_true rfl) (Nat.le_of_ble_eq_true rfl) dX5_chooseFrom_59 (fun H locs hG hS hq9 => ?_)
      have hf2 := hf2.kept (hq9 _ (tk_ne ht_ld20 ht_b975 (Or.inl (by decide))))
      exact tk_vret hx hb hr hlocks trivial hG hS dX5_chooseFrom_62
    · have hc967 : ¬ (v966.toInt < p3.toInt) := fun h9 => c9 ((fi_lt rfl rfl).mpr h9)
      refine lv_iload_n hx hb dX5_chooseFrom_19 rfl (lv_at hl 3 rfl) ?_
      refine lv_aload_n hx hb dX5_chooseFrom_20 rfl (lv_at hl 0 rfl) ?_
      refine tk_get (ci := 5) (C := RX5) (T := TX5) (N := 11) (sp := (0, (-2147483648), 2147483647, 0)) hx hb htl inX5 hown hK hG ht_a0 (by decide) tk_no rfl 9 (by decide) (htl _ mw_1421) (fun _ h9 => h9) rfl dX5_chooseFrom_21 (fun v9 hf977 hV9 => ?_)
      obtain ⟨v978, rfl, (ha_v978 : (-2147483648) ≤ v978.toInt), (hb_v978 : v978.toInt ≤ 2147483647)⟩ := hV9
      refine lv_icmp_ne (tgt := 62) hx hb dX5_chooseFrom_24 (by decide) (fun c9 => ?_) (fun c9 => ?_)
      · have hc979 : ¬ (p3.toInt = v978.toInt) := fun h9 => c9 ((fi_eq rfl rfl).mpr h9)
        exact tk_vret hx hb hr hlocks trivial hG hS dX5_chooseFrom_62
      · have hc979 : p3.toInt = v978.toInt := (fi_eq rfl rfl).mp c9
        refine lv_iload hx hb dX5_chooseFrom_27 (lv_at hl 4 rfl) ?_
        refine lv_aload_n hx hb dX5_chooseFrom_29 rfl (lv_at hl 0 rfl) ?_
        refine tk_get (ci := 5) (C := RX5) (T := TX5) (N := 11) (sp := (0, (-2147483648), 2147483647, 0)) hx hb htl inX5 hown hK hG ht_a0 (by decide) tk_no rfl 10 (by decide) (htl _ mw_1422) (fun _ h9 => h9) rfl dX5_chooseFrom_30 (fun v9 hf980 hV9 => ?_)
        obtain ⟨v981, rfl, (ha_v981 : (-2147483648) ≤ v981.toInt), (hb_v981 : v981.toInt ≤ 2147483647)⟩ := hV9
        refine lv_icmp_ge (tgt := 62) hx hb dX5_chooseFrom_33 (by decide) (fun c9 => ?_) (fun c9 => ?_)
        · have hc982 : v981.toInt ≤ p4.toInt := (fi_le rfl rfl).mp c9
          exact tk_vret hx hb hr hlocks trivial hG hS dX5_chooseFrom_62
        · have hc982 : ¬ (v981.toInt ≤ p4.toInt) := fun h9 => c9 ((fi_le rfl rfl).mpr h9)
          refine lv_aload_n hx hb dX5_chooseFrom_36 rfl (lv_at hl 0 rfl) ?_
          refine lv_iload_n hx hb dX5_chooseFrom_37 rfl (lv_at hl 3 rfl) ?_
          refine tk_put (ci := 5) (v := .int p3) (ty := .int) (C := RX5) (T := TX5) (N := 11) (sp := (0, (-2147483648), 2147483647, 0)) hx hb htl inX5 tyX5 tyX5_ok nmX5 hown hK hG hS ht_a0 (by decide) tk_no rfl 9 (by decide) (htl _ mw_1421) (fun _ h9 => h9) rfl (tyX5_ok 9 (by decide)) rfl rfl rfl (tk_V0 (tk_rng _).1 (tk_rng _).2) (fun _ h => h) (tk_w.of ht_a0 (by decide) (List.mem_of_getElem? (i := 1) rfl) (Nat.le_refl _) (Nat.le_refl _)) dX5_chooseFrom_38 (fun H locs hG hS hf983 hq9 hj9 => ?_)
          have hf2 := hf2.kept (hq9 _ (tk_ne ht_ld20 ht_a0 (Or.inl (by decide))))
          refine lv_aload_n hx hb dX5_chooseFrom_41 rfl (lv_at hl 0 rfl) ?_
          refine lv_iload hx hb dX5_chooseFrom_42 (lv_at hl 4 rfl) ?_
          refine tk_put (ci := 5) (v := .int p4) (ty := .int) (C := RX5) (T := TX5) (N := 11) (sp := (0, (-2147483648), 2147483647, 0)) hx hb htl inX5 tyX5 tyX5_ok nmX5 hown hK hG hS ht_a0 (by decide) tk_no rfl 10 (by decide) (htl _ mw_1422) (fun _ h9 => h9) rfl (tyX5_ok 10 (by decide)) rfl rfl rfl (tk_V0 (tk_rng _).1 (tk_rng _).2) (fun _ h => h) (tk_w.of ht_a0 (by decide) (List.mem_of_getElem? (i := 1) rfl) (Nat.le_refl _) (Nat.le_refl _)) dX5_chooseFrom_44 (fun H locs hG hS hf985 hq9 hj9 => ?_)
          have hf2 := hf2.kept (hq9 _ (tk_ne ht_ld20 ht_a0 (Or.inl (by decide))))
          refine lv_aload_n hx hb dX5_chooseFrom_47 rfl (lv_at hl 0 rfl) ?_
          refine tk_get (ci := 5) (C := RX5) (T := TX5) (N := 11) (sp := (6, 20, 8, 0)) hx hb htl inX5 hown hK hG ht_a0 (by decide) tk_no rfl 7 (by decide) (htl _ mw_153) (fun _ h9 => h9) rfl dX5_chooseFrom_48 (fun v9 hf987 hV9 => ?_)
          obtain ⟨b988, rfl, ht_b988⟩ := hV9
          have ht_b988 : t b988 = (20, 8, 0) := ht_b988
          refine lv_iconst (v := 0) hx hb dX5_chooseFrom_51 (by decide) ?_
          refine lv_aload_n hx hb dX5_chooseFrom_52 rfl (lv_at hl 0 rfl) ?_
          refine tk_get (ci := 5) (C := RX5) (T := TX5) (N := 11) (sp := (6, 20, 8, 0)) hx hb htl inX5 hown hK hG ht_a0 (by decide) tk_no rfl 8 (by decide) (htl _ mw_154) (fun _ h9 => h9) rfl dX5_chooseFrom_53 (fun v9 hf989 hV9 => ?_)
          obtain ⟨b990, rfl, ht_b990⟩ := hV9
          have ht_b990 : t b990 = (20, 8, 0) := ht_b990
          refine lv_iconst (v := 0) hx hb dX5_chooseFrom_56 (by decide) ?_
          refine lv_bipush (v := 8) hx hb dX5_chooseFrom_57 (by decide) ?_
          refine tk_copy (SP := 0) (DP := 0) (NC := 8) hx hb (by rw [hml]; exact hl.1.symm) hown (htl _ mw_1428) (htl _ mw_655) (htl _ mw_656) (htl _ mw_657) hK hG hS ht_b988 ht_b990 (by decide) (by decide) (fun _ h => h) (fun _ => Iff.rfl) tk_no tk_no (show (0 : Int32).toInt = 0 by decide) (show (0 : Int32).toInt = 0 by decide) (show (8 : Int32).toInt = 8 by decide) (by decide) (by decide) (by decide) (by decide) (by decide) (fun _ _ _ _ _ => trivial) (tk_w.of ht_b990 (by decide) (List.mem_of_getElem? (i := 0) rfl) (Nat.le_refl _) (Nat.le_refl _)) (Nat.le_of_ble_eq_true rfl) (Nat.le_of_ble_eq_true rfl) dX5_chooseFrom_59 (fun H locs hG hS hq9 => ?_)
          have hf2 := hf2.kept (hq9 _ (tk_ne ht_ld20 ht_b990 (Or.inl (by decide))))
          exact tk_vret hx hb hr hlocks trivial hG hS dX5_chooseFrom_62
theorem dX5_chooseChampions_0 : decode cX5_chooseChampions 0 = .ok (.iconst 0, 1) := by decide +kernel
theorem dX5_chooseChampions_1 : decode cX5_chooseChampions 1 = .ok (.istore_n 2, 1) := by decide +kernel
theorem dX5_chooseChampions_2 : decode cX5_chooseChampions 2 = .ok (.iload_n 2, 1) := by decide +kernel
theorem dX5_chooseChampions_3 : decode cX5_chooseChampions 3 = .ok (.aload_n 0, 1) := by decide +kernel
theorem dX5_chooseChampions_4 : decode cX5_chooseChampions 4 = .ok (.getfield 34, 3) := by decide +kernel
theorem dX5_chooseChampions_7 : decode cX5_chooseChampions 7 = .ok (.getfield 127, 3) := by decide +kernel
theorem dX5_chooseChampions_10 : decode cX5_chooseChampions 10 = .ok (.if_icmp .ge 71, 3) := by decide +kernel
theorem dX5_chooseChampions_81 : decode cX5_chooseChampions 81 = .ok (.aload_n 0, 1) := by decide +kernel
theorem dX5_chooseChampions_82 : decode cX5_chooseChampions 82 = .ok (.iconst (-1), 1) := by decide +kernel
theorem dX5_chooseChampions_83 : decode cX5_chooseChampions 83 = .ok (.putfield 136, 3) := by decide +kernel
theorem dX5_chooseChampions_86 : decode cX5_chooseChampions 86 = .ok (.aload_n 0, 1) := by decide +kernel
theorem dX5_chooseChampions_87 : decode cX5_chooseChampions 87 = .ok (.iconst 0, 1) := by decide +kernel
theorem dX5_chooseChampions_88 : decode cX5_chooseChampions 88 = .ok (.putfield 139, 3) := by decide +kernel
theorem dX5_chooseChampions_91 : decode cX5_chooseChampions 91 = .ok (.aload_n 0, 1) := by decide +kernel
theorem dX5_chooseChampions_92 : decode cX5_chooseChampions 92 = .ok (.iconst 0, 1) := by decide +kernel
theorem dX5_chooseChampions_93 : decode cX5_chooseChampions 93 = .ok (.iconst 0, 1) := by decide +kernel
theorem dX5_chooseChampions_94 : decode cX5_chooseChampions 94 = .ok (.iconst 0, 1) := by decide +kernel
theorem dX5_chooseChampions_95 : decode cX5_chooseChampions 95 = .ok (.iconst 0, 1) := by decide +kernel
theorem dX5_chooseChampions_96 : decode cX5_chooseChampions 96 = .ok (.invokevirtual 142, 3) := by decide +kernel
theorem dX5_chooseChampions_99 : decode cX5_chooseChampions 99 = .ok (.iload_n 1, 1) := by decide +kernel
theorem dX5_chooseChampions_100 : decode cX5_chooseChampions 100 = .ok (.iconst 2, 1) := by decide +kernel
theorem dX5_chooseChampions_101 : decode cX5_chooseChampions 101 = .ok (.if_icmp .ge 19, 3) := by decide +kernel
theorem dX5_chooseChampions_120 : decode cX5_chooseChampions 120 = .ok (.iload_n 1, 1) := by decide +kernel
theorem dX5_chooseChampions_121 : decode cX5_chooseChampions 121 = .ok (.iconst 2, 1) := by decide +kernel
theorem dX5_chooseChampions_122 : decode cX5_chooseChampions 122 = .ok (.isub, 1) := by decide +kernel
theorem dX5_chooseChampions_123 : decode cX5_chooseChampions 123 = .ok (.bipush 8, 2) := by decide +kernel
theorem dX5_chooseChampions_125 : decode cX5_chooseChampions 125 = .ok (.if_icmp .ge 14, 3) := by decide +kernel
theorem dX5_chooseChampions_139 : decode cX5_chooseChampions 139 = .ok (.iconst (-1), 1) := by decide +kernel
theorem dX5_chooseChampions_140 : decode cX5_chooseChampions 140 = .ok (.ireturn, 1) := by decide +kernel
theorem dX5_chooseChampions_128 : decode cX5_chooseChampions 128 = .ok (.aload_n 0, 1) := by decide +kernel
theorem dX5_chooseChampions_129 : decode cX5_chooseChampions 129 = .ok (.getfield 31, 3) := by decide +kernel
theorem dX5_chooseChampions_132 : decode cX5_chooseChampions 132 = .ok (.iload_n 1, 1) := by decide +kernel
theorem dX5_chooseChampions_133 : decode cX5_chooseChampions 133 = .ok (.iconst 2, 1) := by decide +kernel
theorem dX5_chooseChampions_134 : decode cX5_chooseChampions 134 = .ok (.isub, 1) := by decide +kernel
theorem dX5_chooseChampions_135 : decode cX5_chooseChampions 135 = .ok (.iaload, 1) := by decide +kernel
theorem dX5_chooseChampions_136 : decode cX5_chooseChampions 136 = .ok (.goto 4, 3) := by decide +kernel
theorem dX5_chooseChampions_104 : decode cX5_chooseChampions 104 = .ok (.iload_n 1, 1) := by decide +kernel
theorem dX5_chooseChampions_105 : decode cX5_chooseChampions 105 = .ok (.ifCond .ne 10, 3) := by decide +kernel
theorem dX5_chooseChampions_115 : decode cX5_chooseChampions 115 = .ok (.aload_n 0, 1) := by decide +kernel
theorem dX5_chooseChampions_116 : decode cX5_chooseChampions 116 = .ok (.getfield 139, 3) := by decide +kernel
theorem dX5_chooseChampions_119 : decode cX5_chooseChampions 119 = .ok (.ireturn, 1) := by decide +kernel
theorem dX5_chooseChampions_108 : decode cX5_chooseChampions 108 = .ok (.aload_n 0, 1) := by decide +kernel
theorem dX5_chooseChampions_109 : decode cX5_chooseChampions 109 = .ok (.getfield 136, 3) := by decide +kernel
theorem dX5_chooseChampions_112 : decode cX5_chooseChampions 112 = .ok (.goto 7, 3) := by decide +kernel
theorem dX5_chooseChampions_13 : decode cX5_chooseChampions 13 = .ok (.iconst 0, 1) := by decide +kernel
theorem dX5_chooseChampions_14 : decode cX5_chooseChampions 14 = .ok (.istore_n 3, 1) := by decide +kernel
theorem dX5_chooseChampions_15 : decode cX5_chooseChampions 15 = .ok (.iload_n 3, 1) := by decide +kernel
theorem dX5_chooseChampions_16 : decode cX5_chooseChampions 16 = .ok (.aload_n 0, 1) := by decide +kernel
theorem dX5_chooseChampions_17 : decode cX5_chooseChampions 17 = .ok (.getfield 34, 3) := by decide +kernel
theorem dX5_chooseChampions_20 : decode cX5_chooseChampions 20 = .ok (.getfield 127, 3) := by decide +kernel
theorem dX5_chooseChampions_23 : decode cX5_chooseChampions 23 = .ok (.if_icmp .ge 52, 3) := by decide +kernel
theorem dX5_chooseChampions_75 : decode cX5_chooseChampions 75 = .ok (.iinc 2 1, 3) := by decide +kernel
theorem dX5_chooseChampions_78 : decode cX5_chooseChampions 78 = .ok (.goto (-76), 3) := by decide +kernel
theorem dX5_chooseChampions_26 : decode cX5_chooseChampions 26 = .ok (.aload_n 0, 1) := by decide +kernel
theorem dX5_chooseChampions_27 : decode cX5_chooseChampions 27 = .ok (.getfield 24, 3) := by decide +kernel
theorem dX5_chooseChampions_30 : decode cX5_chooseChampions 30 = .ok (.iload_n 2, 1) := by decide +kernel
theorem dX5_chooseChampions_31 : decode cX5_chooseChampions 31 = .ok (.aaload, 1) := by decide +kernel
theorem dX5_chooseChampions_32 : decode cX5_chooseChampions 32 = .ok (.iload_n 3, 1) := by decide +kernel
theorem dX5_chooseChampions_33 : decode cX5_chooseChampions 33 = .ok (.aload_n 0, 1) := by decide +kernel
theorem dX5_chooseChampions_34 : decode cX5_chooseChampions 34 = .ok (.getfield 34, 3) := by decide +kernel
theorem dX5_chooseChampions_37 : decode cX5_chooseChampions 37 = .ok (.getfield 130, 3) := by decide +kernel
theorem dX5_chooseChampions_40 : decode cX5_chooseChampions 40 = .ok (.iload_n 2, 1) := by decide +kernel
theorem dX5_chooseChampions_41 : decode cX5_chooseChampions 41 = .ok (.iaload, 1) := by decide +kernel
theorem dX5_chooseChampions_68 : decode cX5_chooseChampions 68 = .ok (.iastore, 1) := by decide +kernel
theorem dX5_chooseChampions_69 : decode cX5_chooseChampions 69 = .ok (.iinc 3 1, 3) := by decide +kernel
theorem dX5_chooseChampions_72 : decode cX5_chooseChampions 72 = .ok (.goto (-57), 3) := by decide +kernel
theorem dX5_chooseChampions_42 : decode cX5_chooseChampions 42 = .ok (.ifCond .ne 25, 3) := by decide +kernel
theorem dX5_chooseChampions_67 : decode cX5_chooseChampions 67 = .ok (.iconst 0, 1) := by decide +kernel
theorem dX5_chooseChampions_45 : decode cX5_chooseChampions 45 = .ok (.aload_n 0, 1) := by decide +kernel
theorem dX5_chooseChampions_46 : decode cX5_chooseChampions 46 = .ok (.getfield 34, 3) := by decide +kernel
theorem dX5_chooseChampions_49 : decode cX5_chooseChampions 49 = .ok (.getfield 130, 3) := by decide +kernel
theorem dX5_chooseChampions_52 : decode cX5_chooseChampions 52 = .ok (.iload_n 3, 1) := by decide +kernel
theorem dX5_chooseChampions_53 : decode cX5_chooseChampions 53 = .ok (.iaload, 1) := by decide +kernel
theorem dX5_chooseChampions_54 : decode cX5_chooseChampions 54 = .ok (.iconst 1, 1) := by decide +kernel
theorem dX5_chooseChampions_55 : decode cX5_chooseChampions 55 = .ok (.if_icmp .ne 12, 3) := by decide +kernel
theorem dX5_chooseChampions_58 : decode cX5_chooseChampions 58 = .ok (.aload_n 0, 1) := by decide +kernel
theorem dX5_chooseChampions_59 : decode cX5_chooseChampions 59 = .ok (.iload_n 2, 1) := by decide +kernel
theorem dX5_chooseChampions_60 : decode cX5_chooseChampions 60 = .ok (.iload_n 3, 1) := by decide +kernel
theorem dX5_chooseChampions_61 : decode cX5_chooseChampions 61 = .ok (.invokevirtual 133, 3) := by decide +kernel
theorem dX5_chooseChampions_64 : decode cX5_chooseChampions 64 = .ok (.goto 4, 3) := by decide +kernel
set_option maxHeartbeats 4000000 in
set_option maxRecDepth 100000 in
theorem k_X5_chooseChampions (l : Launch) (D : va_G) (cy : Nat → ClassId) (ld : Nat → Nat) (t : tk_T) (a0 : Nat) (p1 : Int32) (ht_a0 : t a0 = (6, 0, 0)) : Met l yX5_chooseChampions (wl yX5_chooseChampions cX5_chooseChampions 4 (some .int)) ({ frames := 13, cells := 0, slots := 0, locals := 840 }) (tp D cy ld t [] [.ref a0, .int p1] (fun H => True)) (ti D cy ld t [] (fun r H => True) (tk_w t [(20, 4, 4), (10, 4, 4), (20, 0, 0), (12, 0, 0), (9, 0, 0), (6, 0, 0)])) 0 0 (tk_w t [(20, 4, 4), (10, 4, 4), (20, 0, 0), (12, 0, 0), (9, 0, 0), (6, 0, 0)]) := by
  refine tk_met (y := yX5_chooseChampions) (cc := cX5_chooseChampions) (maxL := 4) (ret := (some .int)) (av := [.ref a0, .int p1]) _ _ (by decide) (Nat.le_of_ble_eq_true rfl) ?_
  intro p e s m args below meth c hx hb hr hml hts htl hown hlocks hK H locs hH hG hS hB hZ ls hl
  have hown : s.vm.findClass RX5 = some m.cls := hown
  have hl : lv_has ls 4 [(0, .ref a0), (1, .int p1)] := hl
  have hr_p1 := tk_rng p1
  refine lv_iconst (v := 0) hx hb dX5_chooseChampions_0 (by decide) ?_
  refine lv_istore_n (lv' := [(2, .int 0), (0, .ref a0), (1, .int p1)]) hx hb dX5_chooseChampions_1 rfl hl (by decide) rfl (fun ls hl => ?_)
  have hl7712 : ∀ (N_l7712 : Nat) (v1 : Int32) (H : Heap) (locs : List Loc), v1.toInt ≤ 8 → 0 ≤ v1.toInt → (-1) * v1.toInt + 8 < (N_l7712 : Int) → tk_G D cy ld t [] H → va_S (tk_w t [(20, 4, 4), (10, 4, 4), (20, 0, 0), (12, 0, 0), (9, 0, 0), (6, 0, 0)]) s.heap H locs → ∀ ls : Array Slot, lv_has ls 4 [(2, .int v1), (0, .ref a0), (1, .int p1)] → W p l e ({ frames := 13, cells := 0, slots := 0, locals := 840 }) s m args below meth c H locs 0 0 (MQ below (ti D cy ld t [] (fun r H => True) (tk_w t [(20, 4, 4), (10, 4, 4), (20, 0, 0), (12, 0, 0), (9, 0, 0), (6, 0, 0)])) args s 0 0 (tk_w t [(20, 4, 4), (10, 4, 4), (20, 0, 0), (12, 0, 0), (9, 0, 0), (6, 0, 0)])) (F0 m 2 ls []) := by
    intro N_l7712
    induction N_l7712 with
    | zero => intro v1 H locs hq0_l7712 hq1_l7712 hm_l7712 hG hS ls hl; exfalso; omega
    | succ N_l7712 ih_l7712 =>
      intro v1 H locs hq0_l7712 hq1_l7712 hm_l7712 hG hS ls hl
      refine lv_iload_n hx hb dX5_chooseChampions_2 rfl (lv_at hl 0 rfl) ?_
      refine lv_aload_n hx hb dX5_chooseChampions_3 rfl (lv_at hl 1 rfl) ?_
      refine tk_get (ci := 5) (C := RX5) (T := TX5) (N := 11) (sp := (8, 20, 3, 0)) hx hb htl inX5 hown hK hG ht_a0 (by decide) tk_no rfl 0 (by decide) (htl _ mw_155) (fun _ h9 => h9) rfl dX5_chooseChampions_4 (fun v9 hf7713 hV9 => ?_)
      obtain ⟨rfl, ht_ld20⟩ := hV9
      have ht_ld20 : t (ld 20) = (3, 0, 0) := ht_ld20
      refine fx_top (v := .ref (ld 20)) rfl ?_
      refine tk_get (ci := 2) (C := RX2) (T := TX2) (N := 20) (sp := (0, 0, 8, 0)) hx hb htl inX2 hown hK hG ht_ld20 (by decide) tk_no rfl 0 (by decide) (htl _ mw_1419) (fun _ h9 => h9) rfl dX5_chooseChampions_7 (fun v9 hf7714 hV9 => ?_)
      obtain ⟨v7715, rfl, (ha_v7715 : 0 ≤ v7715.toInt), (hb_v7715 : v7715.toInt ≤ 8)⟩ := hV9
      refine lv_icmp_ge (tgt := 81) hx hb dX5_chooseChampions_10 (by decide) (fun c9 => ?_) (fun c9 => ?_)
      · have hc7716 : v7715.toInt ≤ v1.toInt := (fi_le rfl rfl).mp c9
        refine lv_aload_n hx hb dX5_chooseChampions_81 rfl (lv_at hl 1 rfl) ?_
        refine lv_iconst (v := (-1)) hx hb dX5_chooseChampions_82 (by decide) ?_
        refine tk_put (ci := 5) (v := .int (-1)) (ty := .int) (C := RX5) (T := TX5) (N := 11) (sp := (0, (-2147483648), 2147483647, 0)) hx hb htl inX5 tyX5 tyX5_ok nmX5 hown hK hG hS ht_a0 (by decide) tk_no rfl 9 (by decide) (htl _ mw_1421) (fun _ h9 => h9) rfl (tyX5_ok 9 (by decide)) rfl rfl rfl (tk_V0 (tk_rng _).1 (tk_rng _).2) (fun _ h => h) (tk_w.of ht_a0 (by decide) (List.mem_of_getElem? (i := 5) rfl) (Nat.le_refl _) (Nat.le_refl _)) dX5_chooseChampions_83 (fun H locs hG hS hf8252 hq9 hj9 => ?_)
        have hf7714 := hf7714.kept (hq9 _ (tk_ne ht_ld20 ht_a0 (Or.inl (by decide))))
        refine lv_aload_n hx hb dX5_chooseChampions_86 rfl (lv_at hl 1 rfl) ?_
        refine lv_iconst (v := 0) hx hb dX5_chooseChampions_87 (by decide) ?_
        refine tk_put (ci := 5) (v := .int 0) (ty := .int) (C := RX5) (T := TX5) (N := 11) (sp := (0, (-2147483648), 2147483647, 0)) hx hb htl inX5 tyX5 tyX5_ok nmX5 hown hK hG hS ht_a0 (by decide) tk_no rfl 10 (by decide) (htl _ mw_1422) (fun _ h9 => h9) rfl (tyX5_ok 10 (by decide)) rfl rfl rfl (tk_V0 (tk_rng _).1 (tk_rng _).2) (fun _ h => h) (tk_w.of ht_a0 (by decide) (List.mem_of_getElem? (i := 5) rfl) (Nat.le_refl _) (Nat.le_refl _)) dX5_chooseChampions_88 (fun H locs hG hS hf8254 hq9 hj9 => ?_)
        have hf7714 := hf7714.kept (hq9 _ (tk_ne ht_ld20 ht_a0 (Or.inl (by decide))))
        refine lv_aload_n hx hb dX5_chooseChampions_91 rfl (lv_at hl 1 rfl) ?_
        refine lv_iconst (v := 0) hx hb dX5_chooseChampions_92 (by decide) ?_
        refine lv_iconst (v := 0) hx hb dX5_chooseChampions_93 (by decide) ?_
        refine lv_iconst (v := 0) hx hb dX5_chooseChampions_94 (by decide) ?_
        refine lv_iconst (v := 0) hx hb dX5_chooseChampions_95 (by decide) ?_
        have hk_0 : (0 : Int32).toInt = 0 := by decide
        have hk_0 : (0 : Int32).toInt = 0 := by decide
        have hk_0 : (0 : Int32).toInt = 0 := by decide
        have hk_0 : (0 : Int32).toInt = 0 := by decide
        refine tk_Vv (As := [.int 0, .int 0, .int 0, .int 0]) (rest := []) (ci := 5) ⟨hx, hb, hml, hown, hts⟩ hK hG hZ hS (k_X5_chooseFrom_0 l D cy ld t a0 0 0 0 ht_a0) trivial ⟨callB_of 4 hts (wl_in mw_1427) rfl rfl rfl (htl _ mw_40) (htl _ mw_1424) hd_yX5_chooseFrom ⟨(Nat.le_of_ble_eq_true rfl), (Nat.le_of_ble_eq_true rfl)⟩, htl _ mw_1425, htl _ mw_1426⟩ ht_a0 (by decide) tk_no rfl (tk_w.pick [2, 5] rfl) rfl hl.1 rfl (Nat.le_of_ble_eq_true rfl) dX5_chooseChampions_96 ⟨(Nat.le_of_ble_eq_true rfl), (Nat.le_of_ble_eq_true rfl)⟩ (fun H locs hpo hG hS hq9 => ?_)
        have hf7714 := hf7714.call hq9 (tk_w.no ht_ld20 (by decide))
        refine lv_iload_n hx hb dX5_chooseChampions_99 rfl (lv_at hl 2 rfl) ?_
        refine lv_iconst (v := 2) hx hb dX5_chooseChampions_100 (by decide) ?_
        refine lv_icmp_ge (tgt := 120) hx hb dX5_chooseChampions_101 (by decide) (fun c9 => ?_) (fun c9 => ?_)
        · have hc8257 : 2 ≤ p1.toInt := (fi_le (show (2 : Int32).toInt = 2 by decide) rfl).mp c9
          refine lv_iload_n hx hb dX5_chooseChampions_120 rfl (lv_at hl 2 rfl) ?_
          refine lv_iconst (v := 2) hx hb dX5_chooseChampions_121 (by decide) ?_
          refine lv_isub hx hb dX5_chooseChampions_122 ?_
          refine tk_sub rfl (show (2 : Int32).toInt = 2 by decide) (by omega) (by omega) (fun v8258 h_v8258 => ?_)
          refine lv_bipush (v := 8) hx hb dX5_chooseChampions_123 (by decide) ?_
          refine lv_icmp_ge (tgt := 139) hx hb dX5_chooseChampions_125 (by decide) (fun c9 => ?_) (fun c9 => ?_)
          · have hc8259 : 8 ≤ v8258.toInt := (fi_le (show (8 : Int32).toInt = 8 by decide) rfl).mp c9
            refine lv_iconst (v := (-1)) hx hb dX5_chooseChampions_139 (by decide) ?_
            have hk_m1 : ((-1) : Int32).toInt = (-1) := by decide
            exact tk_iret (v := (-1)) hx hb hr rfl hlocks trivial hG hS dX5_chooseChampions_140
          · have hc8259 : ¬ (8 ≤ v8258.toInt) := fun h9 => c9 ((fi_le (show (8 : Int32).toInt = 8 by decide) rfl).mpr h9)
            refine lv_aload_n hx hb dX5_chooseChampions_128 rfl (lv_at hl 1 rfl) ?_
            refine tk_get (ci := 5) (C := RX5) (T := TX5) (N := 11) (sp := (6, 20, 8, 0)) hx hb htl inX5 hown hK hG ht_a0 (by decide) tk_no rfl 8 (by decide) (htl _ mw_154) (fun _ h9 => h9) rfl dX5_chooseChampions_129 (fun v9 hf8260 hV9 => ?_)
            obtain ⟨b8261, rfl, ht_b8261⟩ := hV9
            have ht_b8261 : t b8261 = (20, 8, 0) := ht_b8261
            refine lv_iload_n hx hb dX5_chooseChampions_132 rfl (lv_at hl 2 rfl) ?_
            refine lv_iconst (v := 2) hx hb dX5_chooseChampions_133 (by decide) ?_
            refine lv_isub hx hb dX5_chooseChampions_134 ?_
            refine tk_sub rfl (show (2 : Int32).toInt = 2 by decide) (by omega) (by omega) (fun v8262 h_v8262 => ?_)
            refine tk_iald hx hb hK hG ht_b8261 (by decide) (fun _ h => h) tk_no rfl (by omega) (by omega) dX5_chooseChampions_135 (fun v8263 _ _ => ?_)
            have hr_v8263 := tk_rng v8263
            refine lv_goto (tgt := 140) hx hb dX5_chooseChampions_136 (by decide) ?_
            exact tk_iret (v := v8263) hx hb hr rfl hlocks trivial hG hS dX5_chooseChampions_140
        · have hc8257 : ¬ (2 ≤ p1.toInt) := fun h9 => c9 ((fi_le (show (2 : Int32).toInt = 2 by decide) rfl).mpr h9)
          refine lv_iload_n hx hb dX5_chooseChampions_104 rfl (lv_at hl 2 rfl) ?_
          refine lv_if_ne (tgt := 115) hx hb dX5_chooseChampions_105 (by decide) (fun c9 => ?_) (fun c9 => ?_)
          · have hc8264 : ¬ (p1.toInt = 0) := fun h9 => c9 ((fi_eq rfl (show (0 : Int32).toInt = 0 by decide)).mpr h9)
            refine lv_aload_n hx hb dX5_chooseChampions_115 rfl (lv_at hl 1 rfl) ?_
            refine tk_get (ci := 5) (C := RX5) (T := TX5) (N := 11) (sp := (0, (-2147483648), 2147483647, 0)) hx hb htl inX5 hown hK hG ht_a0 (by decide) tk_no rfl 10 (by decide) (htl _ mw_1422) (fun _ h9 => h9) rfl dX5_chooseChampions_116 (fun v9 hf8265 hV9 => ?_)
            obtain ⟨v8266, rfl, (ha_v8266 : (-2147483648) ≤ v8266.toInt), (hb_v8266 : v8266.toInt ≤ 2147483647)⟩ := hV9
            exact tk_iret (v := v8266) hx hb hr rfl hlocks trivial hG hS dX5_chooseChampions_119
          · have hc8264 : p1.toInt = 0 := (fi_eq rfl (show (0 : Int32).toInt = 0 by decide)).mp c9
            refine lv_aload_n hx hb dX5_chooseChampions_108 rfl (lv_at hl 1 rfl) ?_
            refine tk_get (ci := 5) (C := RX5) (T := TX5) (N := 11) (sp := (0, (-2147483648), 2147483647, 0)) hx hb htl inX5 hown hK hG ht_a0 (by decide) tk_no rfl 9 (by decide) (htl _ mw_1421) (fun _ h9 => h9) rfl dX5_chooseChampions_109 (fun v9 hf8267 hV9 => ?_)
            obtain ⟨v8268, rfl, (ha_v8268 : (-2147483648) ≤ v8268.toInt), (hb_v8268 : v8268.toInt ≤ 2147483647)⟩ := hV9
            refine lv_goto (tgt := 119) hx hb dX5_chooseChampions_112 (by decide) ?_
            exact tk_iret (v := v8268) hx hb hr rfl hlocks trivial hG hS dX5_chooseChampions_119
      · have hc7716 : ¬ (v7715.toInt ≤ v1.toInt) := fun h9 => c9 ((fi_le rfl rfl).mpr h9)
        refine lv_iconst (v := 0) hx hb dX5_chooseChampions_13 (by decide) ?_
        refine lv_istore_n (lv' := [(3, .int 0), (2, .int v1), (0, .ref a0), (1, .int p1)]) hx hb dX5_chooseChampions_14 rfl hl (by decide) rfl (fun ls hl => ?_)
        have hl8732 : ∀ (N_l8732 : Nat) (v8269 : Int32) (H : Heap) (locs : List Loc), v8269.toInt ≤ 8 → 0 ≤ v8269.toInt → (-1) * v8269.toInt + 8 < (N_l8732 : Int) → tk_G D cy ld t [] H → va_S (tk_w t [(20, 4, 4), (10, 4, 4), (20, 0, 0), (12, 0, 0), (9, 0, 0), (6, 0, 0)]) s.heap H locs → tk_f D H (ld 20) 2 0 (.int v7715) → ∀ ls : Array Slot, lv_has ls 4 [(3, .int v8269), (2, .int v1), (0, .ref a0), (1, .int p1)] → W p l e ({ frames := 13, cells := 0, slots := 0, locals := 840 }) s m args below meth c H locs 0 0 (MQ below (ti D cy ld t [] (fun r H => True) (tk_w t [(20, 4, 4), (10, 4, 4), (20, 0, 0), (12, 0, 0), (9, 0, 0), (6, 0, 0)])) args s 0 0 (tk_w t [(20, 4, 4), (10, 4, 4), (20, 0, 0), (12, 0, 0), (9, 0, 0), (6, 0, 0)])) (F0 m 15 ls []) := by
          intro N_l8732
          induction N_l8732 with
          | zero => intro v8269 H locs hq0_l8732 hq1_l8732 hm_l8732 hG hS hf7714 ls hl; exfalso; omega
          | succ N_l8732 ih_l8732 =>
            intro v8269 H locs hq0_l8732 hq1_l8732 hm_l8732 hG hS hf7714 ls hl
            refine lv_iload_n hx hb dX5_chooseChampions_15 rfl (lv_at hl 0 rfl) ?_
            refine lv_aload_n hx hb dX5_chooseChampions_16 rfl (lv_at hl 2 rfl) ?_
            refine tk_get (ci := 5) (C := RX5) (T := TX5) (N := 11) (sp := (8, 20, 3, 0)) hx hb htl inX5 hown hK hG ht_a0 (by decide) tk_no rfl 0 (by decide) (htl _ mw_155) (fun _ h9 => h9) rfl dX5_chooseChampions_17 (fun v9 hf8733 hV9 => ?_)
            obtain ⟨rfl, ht_ld20⟩ := hV9
            have ht_ld20 : t (ld 20) = (3, 0, 0) := ht_ld20
            refine fx_top (v := .ref (ld 20)) rfl ?_
            refine tk_getk (ci := 2) (C := RX2) (T := TX2) (N := 20) (sp := (0, 0, 8, 0)) hx hb htl inX2 hown hK hG ht_ld20 (by decide) tk_no rfl 0 (by decide) (htl _ mw_1419) (fun _ h9 => h9) rfl hf7714 dX5_chooseChampions_20 ?_
            refine lv_icmp_ge (tgt := 75) hx hb dX5_chooseChampions_23 (by decide) (fun c9 => ?_) (fun c9 => ?_)
            · have hc8734 : v7715.toInt ≤ v8269.toInt := (fi_le rfl rfl).mp c9
              obtain ⟨v8769, h_v8769, e_v8769⟩ := tk_inc v1 1 (by decide) (by omega) (by omega)
              refine lv_iinc (v := v8769) (lv' := [(2, .int v8769), (3, .int v8269), (0, .ref a0), (1, .int p1)]) hx hb dX5_chooseChampions_75 hl (k := 1) rfl e_v8769 (by decide) rfl (fun ls hl => ?_)
              refine lv_goto (tgt := 2) hx hb dX5_chooseChampions_78 (by decide) ?_
              exact ih_l7712 v8769 _ _ (by omega) (by omega) (by omega) hG hS _ (lv_sub hl [0, 2, 3] rfl)
            · have hc8734 : ¬ (v7715.toInt ≤ v8269.toInt) := fun h9 => c9 ((fi_le rfl rfl).mpr h9)
              refine lv_aload_n hx hb dX5_chooseChampions_26 rfl (lv_at hl 2 rfl) ?_
              refine tk_get (ci := 5) (C := RX5) (T := TX5) (N := 11) (sp := (6, 30, 8, 0)) hx hb htl inX5 hown hK hG ht_a0 (by decide) tk_no rfl 6 (by decide) (htl _ mw_152) (fun _ h9 => h9) rfl dX5_chooseChampions_27 (fun v9 hf8770 hV9 => ?_)
              obtain ⟨b8771, rfl, ht_b8771⟩ := hV9
              have ht_b8771 : t b8771 = (30, 8, 0) := ht_b8771
              refine lv_iload_n hx hb dX5_chooseChampions_30 rfl (lv_at hl 1 rfl) ?_
              refine tk_aald hx hb hK hG 6 rfl rfl ht_b8771 (by decide) (fun _ h => h) tk_no rfl (by omega) (by omega) dX5_chooseChampions_31 (fun o8772 ht_o8772 => ?_)
              obtain ⟨b8773, rfl, ht_b8773⟩ := ht_o8772
              have ht_b8773 : t b8773 = (20, 8, 0) := ht_b8773
              refine fx_top (v := .ref b8773) rfl ?_
              refine lv_iload_n hx hb dX5_chooseChampions_32 rfl (lv_at hl 0 rfl) ?_
              refine lv_aload_n hx hb dX5_chooseChampions_33 rfl (lv_at hl 2 rfl) ?_
              refine tk_get (ci := 5) (C := RX5) (T := TX5) (N := 11) (sp := (8, 20, 3, 0)) hx hb htl inX5 hown hK hG ht_a0 (by decide) tk_no rfl 0 (by decide) (htl _ mw_155) (fun _ h9 => h9) rfl dX5_chooseChampions_34 (fun v9 hf8774 hV9 => ?_)
              obtain ⟨rfl, ht_ld20⟩ := hV9
              have ht_ld20 : t (ld 20) = (3, 0, 0) := ht_ld20
              refine fx_top (v := .ref (ld 20)) rfl ?_
              refine tk_get (ci := 2) (C := RX2) (T := TX2) (N := 20) (sp := (1, 21, 8, 0)) hx hb htl inX2 hown hK hG ht_ld20 (by decide) tk_no rfl 2 (by decide) (htl _ mw_1420) (fun _ h9 => h9) rfl dX5_chooseChampions_37 (fun v9 hf8775 hV9 => ?_)
              obtain ⟨b8776, rfl, ht_b8776⟩ := hV9
              have ht_b8776 : t b8776 = (21, 8, 0) := ht_b8776
              refine lv_iload_n hx hb dX5_chooseChampions_40 rfl (lv_at hl 1 rfl) ?_
              refine tk_iald hx hb hK hG ht_b8776 (by decide) (fun _ h => h) tk_no rfl (by omega) (by omega) dX5_chooseChampions_41 (fun v8777 hE9 _ => ?_)
              have he_v8777 : 0 ≤ v8777.toInt ∧ v8777.toInt ≤ 1 := hE9
              have hj8792 : ∀ (v8790 : Int32) (H : Heap) (locs : List Loc), (-1) ≤ v8790.toInt → v8790.toInt ≤ 1 → tk_G D cy ld t [] H → va_S (tk_w t [(20, 4, 4), (10, 4, 4), (20, 0, 0), (12, 0, 0), (9, 0, 0), (6, 0, 0)]) s.heap H locs → tk_f D H (ld 20) 2 0 (.int v7715) → ∀ ls : Array Slot, lv_has ls 4 [(3, .int v8269), (2, .int v1), (0, .ref a0), (1, .int p1)] → W p l e ({ frames := 13, cells := 0, slots := 0, locals := 840 }) s m args below meth c H locs 0 0 (MQ below (ti D cy ld t [] (fun r H => True) (tk_w t [(20, 4, 4), (10, 4, 4), (20, 0, 0), (12, 0, 0), (9, 0, 0), (6, 0, 0)])) args s 0 0 (tk_w t [(20, 4, 4), (10, 4, 4), (20, 0, 0), (12, 0, 0), (9, 0, 0), (6, 0, 0)])) (F0 m 68 ls [.int v8790, .int v8269, .ref b8773]) := by
                intro v8790 H locs hq0_j8792 hq1_j8792 hG hS hf7714 ls hl
                refine tk_iast hx hb hK hG hS ht_b8773 (by decide) (fun _ => Iff.rfl) tk_no rfl (by omega) (by omega) trivial (tk_w.of ht_b8773 (by decide) (List.mem_of_getElem? (i := 2) rfl) (Nat.le_refl _) (Nat.le_refl _)) dX5_chooseChampions_68 (fun H locs hG hS hq9 => ?_)
                have hf7714 := hf7714.kept (hq9 _ (tk_ne ht_ld20 ht_b8773 (Or.inl (by decide))))
                obtain ⟨v8794, h_v8794, e_v8794⟩ := tk_inc v8269 1 (by decide) (by omega) (by omega)
                refine lv_iinc (v := v8794) (lv' := [(3, .int v8794), (2, .int v1), (0, .ref a0), (1, .int p1)]) hx hb dX5_chooseChampions_69 hl (k := 0) rfl e_v8794 (by decide) rfl (fun ls hl => ?_)
                refine lv_goto (tgt := 15) hx hb dX5_chooseChampions_72 (by decide) ?_
                exact ih_l8732 v8794 _ _ (by omega) (by omega) (by omega) hG hS hf7714 _ (lv_sub hl [0, 1, 2, 3] rfl)
              refine lv_if_ne (tgt := 67) hx hb dX5_chooseChampions_42 (by decide) (fun c9 => ?_) (fun c9 => ?_)
              · have hc8778 : ¬ (v8777.toInt = 0) := fun h9 => c9 ((fi_eq rfl (show (0 : Int32).toInt = 0 by decide)).mpr h9)
                refine lv_iconst (v := 0) hx hb dX5_chooseChampions_67 (by decide) ?_
                have hk_0 : (0 : Int32).toInt = 0 := by decide
                exact hj8792 0 _ _ (by omega) (by omega) hG hS hf7714 _ (lv_sub hl [0, 1, 2, 3] rfl)
              · have hc8778 : v8777.toInt = 0 := (fi_eq rfl (show (0 : Int32).toInt = 0 by decide)).mp c9
                refine lv_aload_n hx hb dX5_chooseChampions_45 rfl (lv_at hl 2 rfl) ?_
                refine tk_get (ci := 5) (C := RX5) (T := TX5) (N := 11) (sp := (8, 20, 3, 0)) hx hb htl inX5 hown hK hG ht_a0 (by decide) tk_no rfl 0 (by decide) (htl _ mw_155) (fun _ h9 => h9) rfl dX5_chooseChampions_46 (fun v9 hf8795 hV9 => ?_)
                obtain ⟨rfl, ht_ld20⟩ := hV9
                have ht_ld20 : t (ld 20) = (3, 0, 0) := ht_ld20
                refine fx_top (v := .ref (ld 20)) rfl ?_
                refine tk_get (ci := 2) (C := RX2) (T := TX2) (N := 20) (sp := (1, 21, 8, 0)) hx hb htl inX2 hown hK hG ht_ld20 (by decide) tk_no rfl 2 (by decide) (htl _ mw_1420) (fun _ h9 => h9) rfl dX5_chooseChampions_49 (fun v9 hf8796 hV9 => ?_)
                obtain ⟨b8797, rfl, ht_b8797⟩ := hV9
                have ht_b8797 : t b8797 = (21, 8, 0) := ht_b8797
                refine lv_iload_n hx hb dX5_chooseChampions_52 rfl (lv_at hl 0 rfl) ?_
                refine tk_iald hx hb hK hG ht_b8797 (by decide) (fun _ h => h) tk_no rfl (by omega) (by omega) dX5_chooseChampions_53 (fun v8798 hE9 _ => ?_)
                have he_v8798 : 0 ≤ v8798.toInt ∧ v8798.toInt ≤ 1 := hE9
                refine lv_iconst (v := 1) hx hb dX5_chooseChampions_54 (by decide) ?_
                refine lv_icmp_ne (tgt := 67) hx hb dX5_chooseChampions_55 (by decide) (fun c9 => ?_) (fun c9 => ?_)
                · have hc8799 : ¬ (v8798.toInt = 1) := fun h9 => c9 ((fi_eq rfl (show (1 : Int32).toInt = 1 by decide)).mpr h9)
                  refine lv_iconst (v := 0) hx hb dX5_chooseChampions_67 (by decide) ?_
                  have hk_0 : (0 : Int32).toInt = 0 := by decide
                  exact hj8792 0 _ _ (by omega) (by omega) hG hS hf7714 _ (lv_sub hl [0, 1, 2, 3] rfl)
                · have hc8799 : v8798.toInt = 1 := (fi_eq rfl (show (1 : Int32).toInt = 1 by decide)).mp c9
                  refine lv_aload_n hx hb dX5_chooseChampions_58 rfl (lv_at hl 2 rfl) ?_
                  refine lv_iload_n hx hb dX5_chooseChampions_59 rfl (lv_at hl 1 rfl) ?_
                  refine lv_iload_n hx hb dX5_chooseChampions_60 rfl (lv_at hl 0 rfl) ?_
                  refine tk_Vi (As := [.int v1, .int v8269]) (rest := [.int v8269, .ref b8773]) (ci := 5) ⟨hx, hb, hml, hown, hts⟩ hK hG hZ hS (k_X5_resultByRule l D cy ld t a0 v1 v8269 ht_a0 (by omega) (by omega) (by omega) (by omega)) trivial ⟨callB_of 2 hts (wl_in mw_1397) rfl rfl rfl (htl _ mw_40) (htl _ mw_1423) hd_yX5_resultByRule ⟨(Nat.le_of_ble_eq_true rfl), (Nat.le_of_ble_eq_true rfl)⟩, htl _ mw_1395, htl _ mw_1396⟩ ht_a0 (by decide) tk_no rfl (tk_w.pick [0, 1, 2, 3, 4] rfl) rfl hl.1 rfl (Nat.le_of_ble_eq_true rfl) dX5_chooseChampions_61 ⟨(Nat.le_of_ble_eq_true rfl), (Nat.le_of_ble_eq_true rfl)⟩ (fun v8800 H locs hpo hG hS hq9 => ?_)
                  have hf7714 := hf7714.call hq9 (tk_w.no ht_ld20 (by decide))
                  obtain ⟨hpo8802, hpo8803⟩ := hpo
                  refine lv_goto (tgt := 68) hx hb dX5_chooseChampions_64 (by decide) ?_
                  exact hj8792 v8800 _ _ (by omega) (by omega) hG hS hf7714 _ (lv_sub hl [0, 1, 2, 3] rfl)
        have hk_0 : (0 : Int32).toInt = 0 := by decide
        exact hl8732 9 0 _ _ (by omega) (by omega) (by omega) hG hS hf7714 _ (lv_sub hl [0, 1, 2, 3] rfl)
  have hk_0 : (0 : Int32).toInt = 0 := by decide
  exact hl7712 9 0 _ _ (by omega) (by omega) (by omega) hG hS _ (lv_sub hl [0, 1, 2] rfl)
theorem dX6_fail_0 : decode cX6_fail 0 = .ok (.aload_n 0, 1) := by decide +kernel
theorem dX6_fail_1 : decode cX6_fail 1 = .ok (.aload_n 0, 1) := by decide +kernel
theorem dX6_fail_2 : decode cX6_fail 2 = .ok (.getfield 50, 3) := by decide +kernel
theorem dX6_fail_5 : decode cX6_fail 5 = .ok (.iconst (-1), 1) := by decide +kernel
theorem dX6_fail_20 : decode cX6_fail 20 = .ok (.putfield 50, 3) := by decide +kernel
theorem dX6_fail_23 : decode cX6_fail 23 = .ok (.return_, 1) := by decide +kernel
theorem dX6_fail_6 : decode cX6_fail 6 = .ok (.if_icmp .ne 10, 3) := by decide +kernel
theorem dX6_fail_16 : decode cX6_fail 16 = .ok (.aload_n 0, 1) := by decide +kernel
theorem dX6_fail_17 : decode cX6_fail 17 = .ok (.getfield 50, 3) := by decide +kernel
theorem dX6_fail_9 : decode cX6_fail 9 = .ok (.aload_n 0, 1) := by decide +kernel
theorem dX6_fail_10 : decode cX6_fail 10 = .ok (.getfield 73, 3) := by decide +kernel
theorem dX6_fail_13 : decode cX6_fail 13 = .ok (.goto 7, 3) := by decide +kernel
set_option maxHeartbeats 4000000 in
set_option maxRecDepth 100000 in
theorem k_X6_fail (l : Launch) (D : va_G) (cy : Nat → ClassId) (ld : Nat → Nat) (t : tk_T) (a0 : Nat) (g9 : Int32) (ht_a0 : t a0 = (7, 0, 0)) (hp_0 : 0 ≤ g9.toInt) (hp_1 : g9.toInt ≤ 8) : Met l yX6_fail (wl yX6_fail cX6_fail 1 none) ({ frames := 3, cells := 0, slots := 0, locals := 140 }) (tp D cy ld t [] [.ref a0] (fun H => tk_f D H a0 6 9 (.int g9))) (tv D cy ld t [] (fun H => tk_f D H a0 6 9 (.int g9)) (tk_w t [(7, 0, 0)])) 0 0 (tk_w t [(7, 0, 0)]) := by
  refine tk_met (y := yX6_fail) (cc := cX6_fail) (maxL := 1) (ret := none) (av := [.ref a0]) _ _ (by decide) (Nat.le_of_ble_eq_true rfl) ?_
  intro p e s m args below meth c hx hb hr hml hts htl hown hlocks hK H locs hH hG hS hB hZ ls hl
  have hown : s.vm.findClass RX6 = some m.cls := hown
  have hl : lv_has ls 1 [(0, .ref a0)] := hl
  have hg_0 := hB
  refine lv_aload_n hx hb dX6_fail_0 rfl (lv_at hl 0 rfl) ?_
  refine lv_aload_n hx hb dX6_fail_1 rfl (lv_at hl 0 rfl) ?_
  refine tk_get (ci := 6) (C := RX6) (T := TX6) (N := 11) (sp := (0, (-2147483648), 2147483647, 0)) hx hb htl inX6 hown hK hG ht_a0 (by decide) tk_no rfl 10 (by decide) (htl _ mw_481) (fun _ h9 => h9) rfl dX6_fail_2 (fun v9 hf1 hV9 => ?_)
  obtain ⟨v2, rfl, (ha_v2 : (-2147483648) ≤ v2.toInt), (hb_v2 : v2.toInt ≤ 2147483647)⟩ := hV9
  refine lv_iconst (v := (-1)) hx hb dX6_fail_5 (by decide) ?_
  have hj8 : ∀ (v7 : Int32), ∀ ls : Array Slot, lv_has ls 1 [] → W p l e ({ frames := 3, cells := 0, slots := 0, locals := 140 }) s m args below meth c H locs 0 0 (MQ below (tv D cy ld t [] (fun H => tk_f D H a0 6 9 (.int g9)) (tk_w t [(7, 0, 0)])) args s 0 0 (tk_w t [(7, 0, 0)])) (F0 m 20 ls [.int v7, .ref a0]) := by
    intro v7  ls hl
    refine tk_put (ci := 6) (v := .int v7) (ty := .int) (C := RX6) (T := TX6) (N := 11) (sp := (0, (-2147483648), 2147483647, 0)) hx hb htl inX6 tyX6 tyX6_ok nmX6 hown hK hG hS ht_a0 (by decide) tk_no rfl 10 (by decide) (htl _ mw_481) (fun _ h9 => h9) rfl (tyX6_ok 10 (by decide)) rfl rfl rfl (tk_V0 (tk_rng _).1 (tk_rng _).2) (fun _ h => tk_X7 h (by decide) (by decide)) (tk_w.of ht_a0 (by decide) (List.mem_of_getElem? (i := 0) rfl) (Nat.le_refl _) (Nat.le_refl _)) dX6_fail_20 (fun H locs hG hS hf9 hq9 hj9 => ?_)
    have hg_0 := hj9 9 _ (by decide) (by decide) hg_0
    exact tk_vret hx hb hr hlocks (show tk_f D H a0 6 9 (.int g9) from hg_0) hG hS dX6_fail_23
  refine lv_icmp_ne (tgt := 16) hx hb dX6_fail_6 (by decide) (fun c9 => ?_) (fun c9 => ?_)
  · have hc3 : ¬ (v2.toInt = (-1)) := fun h9 => c9 ((fi_eq rfl (show ((-1) : Int32).toInt = (-1) by decide)).mpr h9)
    refine lv_aload_n hx hb dX6_fail_16 rfl (lv_at hl 0 rfl) ?_
    refine tk_getk (ci := 6) (C := RX6) (T := TX6) (N := 11) (sp := (0, (-2147483648), 2147483647, 0)) hx hb htl inX6 hown hK hG ht_a0 (by decide) tk_no rfl 10 (by decide) (htl _ mw_481) (fun _ h9 => h9) rfl hf1 dX6_fail_17 ?_
    exact hj8 v2 _ (lv_sub hl [] rfl)
  · have hc3 : v2.toInt = (-1) := (fi_eq rfl (show ((-1) : Int32).toInt = (-1) by decide)).mp c9
    refine lv_aload_n hx hb dX6_fail_9 rfl (lv_at hl 0 rfl) ?_
    refine tk_get (ci := 6) (C := RX6) (T := TX6) (N := 11) (sp := (0, 0, 400, 0)) hx hb htl inX6 hown hK hG ht_a0 (by decide) tk_no rfl 4 (by decide) (htl _ mw_495) (fun _ h9 => h9) rfl dX6_fail_10 (fun v9 hf11 hV9 => ?_)
    obtain ⟨v12, rfl, (ha_v12 : 0 ≤ v12.toInt), (hb_v12 : v12.toInt ≤ 400)⟩ := hV9
    refine lv_goto (tgt := 20) hx hb dX6_fail_13 (by decide) ?_
    exact hj8 v12 _ (lv_sub hl [] rfl)
theorem dX6_isGood_0 : decode cX6_isGood 0 = .ok (.aload_n 0, 1) := by decide +kernel
theorem dX6_isGood_1 : decode cX6_isGood 1 = .ok (.getfield 50, 3) := by decide +kernel
theorem dX6_isGood_4 : decode cX6_isGood 4 = .ok (.iconst (-1), 1) := by decide +kernel
theorem dX6_isGood_5 : decode cX6_isGood 5 = .ok (.if_icmp .ne 7, 3) := by decide +kernel
theorem dX6_isGood_12 : decode cX6_isGood 12 = .ok (.iconst 0, 1) := by decide +kernel
theorem dX6_isGood_13 : decode cX6_isGood 13 = .ok (.ireturn, 1) := by decide +kernel
theorem dX6_isGood_8 : decode cX6_isGood 8 = .ok (.iconst 1, 1) := by decide +kernel
theorem dX6_isGood_9 : decode cX6_isGood 9 = .ok (.goto 4, 3) := by decide +kernel
set_option maxHeartbeats 4000000 in
set_option maxRecDepth 100000 in
theorem k_X6_isGood (l : Launch) (D : va_G) (cy : Nat → ClassId) (ld : Nat → Nat) (t : tk_T) (a0 : Nat) (ht_a0 : t a0 = (7, 0, 0)) : Met l yX6_isGood (wl yX6_isGood cX6_isGood 1 (some .boolean)) ({ frames := 3, cells := 0, slots := 0, locals := 140 }) (tp D cy ld t [] [.ref a0] (fun H => True)) (ti D cy ld t [] (fun r H => 0 ≤ r.toInt ∧ r.toInt ≤ 1 ∧ 0 ≤ r.toInt ∧ r.toInt ≤ 1) (tk_w t [])) 0 0 (tk_w t []) := by
  refine tk_met (y := yX6_isGood) (cc := cX6_isGood) (maxL := 1) (ret := (some .boolean)) (av := [.ref a0]) _ _ (by decide) (Nat.le_of_ble_eq_true rfl) ?_
  intro p e s m args below meth c hx hb hr hml hts htl hown hlocks hK H locs hH hG hS hB hZ ls hl
  have hown : s.vm.findClass RX6 = some m.cls := hown
  have hl : lv_has ls 1 [(0, .ref a0)] := hl
  refine lv_aload_n hx hb dX6_isGood_0 rfl (lv_at hl 0 rfl) ?_
  refine tk_get (ci := 6) (C := RX6) (T := TX6) (N := 11) (sp := (0, (-2147483648), 2147483647, 0)) hx hb htl inX6 hown hK hG ht_a0 (by decide) tk_no rfl 10 (by decide) (htl _ mw_481) (fun _ h9 => h9) rfl dX6_isGood_1 (fun v9 hf1 hV9 => ?_)
  obtain ⟨v2, rfl, (ha_v2 : (-2147483648) ≤ v2.toInt), (hb_v2 : v2.toInt ≤ 2147483647)⟩ := hV9
  refine lv_iconst (v := (-1)) hx hb dX6_isGood_4 (by decide) ?_
  refine lv_icmp_ne (tgt := 12) hx hb dX6_isGood_5 (by decide) (fun c9 => ?_) (fun c9 => ?_)
  · have hc3 : ¬ (v2.toInt = (-1)) := fun h9 => c9 ((fi_eq rfl (show ((-1) : Int32).toInt = (-1) by decide)).mpr h9)
    refine lv_iconst (v := 0) hx hb dX6_isGood_12 (by decide) ?_
    have hk_0 : (0 : Int32).toInt = 0 := by decide
    exact tk_iret (v := 0) hx hb hr rfl hlocks (show 0 ≤ (0 : Int32).toInt ∧ (0 : Int32).toInt ≤ 1 ∧ 0 ≤ (0 : Int32).toInt ∧ (0 : Int32).toInt ≤ 1 from ⟨(by omega), (by omega), (by omega), (by omega)⟩) hG hS dX6_isGood_13
  · have hc3 : v2.toInt = (-1) := (fi_eq rfl (show ((-1) : Int32).toInt = (-1) by decide)).mp c9
    refine lv_iconst (v := 1) hx hb dX6_isGood_8 (by decide) ?_
    refine lv_goto (tgt := 13) hx hb dX6_isGood_9 (by decide) ?_
    have hk_1 : (1 : Int32).toInt = 1 := by decide
    exact tk_iret (v := 1) hx hb hr rfl hlocks (show 0 ≤ (1 : Int32).toInt ∧ (1 : Int32).toInt ≤ 1 ∧ 0 ≤ (1 : Int32).toInt ∧ (1 : Int32).toInt ≤ 1 from ⟨(by omega), (by omega), (by omega), (by omega)⟩) hG hS dX6_isGood_13
theorem dJ0_isLatin1_aae02_0 : decode cJ0_isLatin1_aae02 0 = .ok (.getstatic 38, 3) := by decide +kernel
theorem dJ0_isLatin1_aae02_3 : decode cJ0_isLatin1_aae02 3 = .ok (.ifCond .eq 14, 3) := by decide +kernel
theorem dJ0_isLatin1_aae02_6 : decode cJ0_isLatin1_aae02 6 = .ok (.aload_n 0, 1) := by decide +kernel
theorem dJ0_isLatin1_aae02_7 : decode cJ0_isLatin1_aae02 7 = .ok (.getfield 15, 3) := by decide +kernel
theorem dJ0_isLatin1_aae02_10 : decode cJ0_isLatin1_aae02 10 = .ok (.ifCond .ne 7, 3) := by decide +kernel
theorem dJ0_isLatin1_aae02_13 : decode cJ0_isLatin1_aae02 13 = .ok (.iconst 1, 1) := by decide +kernel
theorem dJ0_isLatin1_aae02_14 : decode cJ0_isLatin1_aae02 14 = .ok (.goto 4, 3) := by decide +kernel
theorem dJ0_isLatin1_aae02_18 : decode cJ0_isLatin1_aae02 18 = .ok (.ireturn, 1) := by decide +kernel
set_option maxHeartbeats 4000000 in
set_option maxRecDepth 100000 in
theorem k_J0_isLatin1_aae02_7 (l : Launch) (D : va_G) (cy : Nat → ClassId) (ld : Nat → Nat) (t : tk_T) : Met l yJ0_isLatin1_aae02 (wl yJ0_isLatin1_aae02 cJ0_isLatin1_aae02 1 (some .boolean)) ({ frames := 3, cells := 0, slots := 0, locals := 140 }) (tp D cy ld t [] [.ref (ld 7)] (fun H => True)) (ti D cy ld t [] (fun r H => r.toInt + (-1) = 0 ∧ 0 ≤ r.toInt ∧ r.toInt ≤ 1) (tk_w t [])) 0 0 (tk_w t []) := by
  refine tk_met (y := yJ0_isLatin1_aae02) (cc := cJ0_isLatin1_aae02) (maxL := 1) (ret := (some .boolean)) (av := [.ref (ld 7)]) _ _ (by decide) (Nat.le_of_ble_eq_true rfl) ?_
  intro p e s m args below meth c hx hb hr hml hts htl hown hlocks hK H locs hH hG hS hB hZ ls hl
  have hown : s.vm.findClass RJ0 = some m.cls := hown
  have hl : lv_has ls 1 [(0, .ref (ld 7))] := hl
  refine va_gets hx hb (hZ.2.1.narrow (fun _ h => h.1)) hS hown (htl _ mw_528) (fun _ h9 => h9) dJ0_isLatin1_aae02_0 ?_
  refine lv_if_eq (tgt := 17) hx hb dJ0_isLatin1_aae02_3 (by decide) (fun c9 => absurd c9 (by decide)) (fun _ => ?_)
  refine lv_aload_n hx hb dJ0_isLatin1_aae02_6 rfl (lv_at hl 0 rfl) ?_
  refine vk_getf hx hb ((hZ.1.1 7 (by decide)).2.1.narrow (fun _ h => h.1)) hS hown (htl _ mw_529) (fun _ h9 => h9) dJ0_isLatin1_aae02_7 ?_
  refine lv_if_ne (tgt := 17) hx hb dJ0_isLatin1_aae02_10 (by decide) (fun c9 => absurd (by decide) c9) (fun _ => ?_)
  refine lv_iconst (v := 1) hx hb dJ0_isLatin1_aae02_13 (by decide) ?_
  refine lv_goto (tgt := 18) hx hb dJ0_isLatin1_aae02_14 (by decide) ?_
  have hk_1 : (1 : Int32).toInt = 1 := by decide
  exact tk_iret (v := 1) hx hb hr rfl hlocks (show (1 : Int32).toInt + (-1) = 0 ∧ 0 ≤ (1 : Int32).toInt ∧ (1 : Int32).toInt ≤ 1 from ⟨(by omega), (by omega), (by omega)⟩) hG hS dJ0_isLatin1_aae02_18
theorem dJ3_checkIndex_8e157_0 : decode cJ3_checkIndex_8e157 0 = .ok (.iload_n 0, 1) := by decide +kernel
theorem dJ3_checkIndex_8e157_1 : decode cJ3_checkIndex_8e157 1 = .ok (.ifCond .lt 8, 3) := by decide +kernel
theorem dJ3_checkIndex_8e157_4 : decode cJ3_checkIndex_8e157 4 = .ok (.iload_n 0, 1) := by decide +kernel
theorem dJ3_checkIndex_8e157_5 : decode cJ3_checkIndex_8e157 5 = .ok (.iload_n 1, 1) := by decide +kernel
theorem dJ3_checkIndex_8e157_6 : decode cJ3_checkIndex_8e157 6 = .ok (.if_icmp .lt 10, 3) := by decide +kernel
theorem dJ3_checkIndex_8e157_16 : decode cJ3_checkIndex_8e157 16 = .ok (.iload_n 0, 1) := by decide +kernel
theorem dJ3_checkIndex_8e157_17 : decode cJ3_checkIndex_8e157 17 = .ok (.ireturn, 1) := by decide +kernel
set_option maxHeartbeats 4000000 in
set_option maxRecDepth 100000 in
theorem k_J3_checkIndex_8e157_0 (l : Launch) (D : va_G) (cy : Nat → ClassId) (ld : Nat → Nat) (t : tk_T) (p0 : Int32) (p1 : Int32) (hp_0 : 0 ≤ p0.toInt) (hp_1 : p0.toInt ≤ 1000) (hp_2 : 1 ≤ p1.toInt) (hp_3 : p1.toInt ≤ 1000) (hp_4 : 0 ≤ (-1) * p0.toInt + p1.toInt + (-1)) : Met l yJ3_checkIndex_8e157 (wl yJ3_checkIndex_8e157 cJ3_checkIndex_8e157 3 (some .int)) ({ frames := 3, cells := 0, slots := 0, locals := 140 }) (tp D cy ld t [] [.int p0, .int p1, .null] (fun H => True)) (ti D cy ld t [] (fun r H => 0 ≤ r.toInt ∧ r.toInt ≤ 999) (tk_w t [])) 0 0 (tk_w t []) := by
  refine tk_met (y := yJ3_checkIndex_8e157) (cc := cJ3_checkIndex_8e157) (maxL := 3) (ret := (some .int)) (av := [.int p0, .int p1, .null]) _ _ (by decide) (Nat.le_of_ble_eq_true rfl) ?_
  intro p e s m args below meth c hx hb hr hml hts htl hown hlocks hK H locs hH hG hS hB hZ ls hl
  have hown : s.vm.findClass RJ3 = some m.cls := hown
  have hl : lv_has ls 3 [(0, .int p0), (1, .int p1), (2, .null)] := hl
  have hr_p0 := tk_rng p0
  have hr_p1 := tk_rng p1
  refine lv_iload_n hx hb dJ3_checkIndex_8e157_0 rfl (lv_at hl 0 rfl) ?_
  refine lv_if_lt (tgt := 9) hx hb dJ3_checkIndex_8e157_1 (by decide) (fun c9 => absurd (show p0.toInt < 0 from (fi_lt rfl (show (0 : Int32).toInt = 0 by decide)).mp c9) (by omega)) (fun _ => ?_)
  refine lv_iload_n hx hb dJ3_checkIndex_8e157_4 rfl (lv_at hl 0 rfl) ?_
  refine lv_iload_n hx hb dJ3_checkIndex_8e157_5 rfl (lv_at hl 1 rfl) ?_
  refine lv_icmp_lt (tgt := 16) hx hb dJ3_checkIndex_8e157_6 (by decide) (fun _ => ?_) (fun c9 => absurd ((fi_lt rfl rfl).mpr (show p0.toInt < p1.toInt by omega)) c9)
  refine lv_iload_n hx hb dJ3_checkIndex_8e157_16 rfl (lv_at hl 0 rfl) ?_
  exact tk_iret (v := p0) hx hb hr rfl hlocks (show 0 ≤ p0.toInt ∧ p0.toInt ≤ 999 from ⟨(by omega), (by omega)⟩) hG hS dJ3_checkIndex_8e157_17
set_option maxHeartbeats 4000000 in
set_option maxRecDepth 100000 in
theorem k_J3_checkIndex_8e157_1 (l : Launch) (D : va_G) (cy : Nat → ClassId) (ld : Nat → Nat) (t : tk_T) (p0 : Int32) (p1 : Int32) (a2 : Nat) (hp_0 : 0 ≤ p0.toInt) (hp_1 : p0.toInt ≤ 1000) (hp_2 : 1 ≤ p1.toInt) (hp_3 : p1.toInt ≤ 1000) (hp_4 : 0 ≤ (-1) * p0.toInt + p1.toInt + (-1)) : Met l yJ3_checkIndex_8e157 (wl yJ3_checkIndex_8e157 cJ3_checkIndex_8e157 3 (some .int)) ({ frames := 3, cells := 0, slots := 0, locals := 140 }) (tp D cy ld t [] [.int p0, .int p1, .ref a2] (fun H => True)) (ti D cy ld t [] (fun r H => 0 ≤ r.toInt ∧ r.toInt ≤ 999) (tk_w t [])) 0 0 (tk_w t []) := by
  refine tk_met (y := yJ3_checkIndex_8e157) (cc := cJ3_checkIndex_8e157) (maxL := 3) (ret := (some .int)) (av := [.int p0, .int p1, .ref a2]) _ _ (by decide) (Nat.le_of_ble_eq_true rfl) ?_
  intro p e s m args below meth c hx hb hr hml hts htl hown hlocks hK H locs hH hG hS hB hZ ls hl
  have hown : s.vm.findClass RJ3 = some m.cls := hown
  have hl : lv_has ls 3 [(0, .int p0), (1, .int p1), (2, .ref a2)] := hl
  have hr_p0 := tk_rng p0
  have hr_p1 := tk_rng p1
  refine lv_iload_n hx hb dJ3_checkIndex_8e157_0 rfl (lv_at hl 0 rfl) ?_
  refine lv_if_lt (tgt := 9) hx hb dJ3_checkIndex_8e157_1 (by decide) (fun c9 => absurd (show p0.toInt < 0 from (fi_lt rfl (show (0 : Int32).toInt = 0 by decide)).mp c9) (by omega)) (fun _ => ?_)
  refine lv_iload_n hx hb dJ3_checkIndex_8e157_4 rfl (lv_at hl 0 rfl) ?_
  refine lv_iload_n hx hb dJ3_checkIndex_8e157_5 rfl (lv_at hl 1 rfl) ?_
  refine lv_icmp_lt (tgt := 16) hx hb dJ3_checkIndex_8e157_6 (by decide) (fun _ => ?_) (fun c9 => absurd ((fi_lt rfl rfl).mpr (show p0.toInt < p1.toInt by omega)) c9)
  refine lv_iload_n hx hb dJ3_checkIndex_8e157_16 rfl (lv_at hl 0 rfl) ?_
  exact tk_iret (v := p0) hx hb hr rfl hlocks (show 0 ≤ p0.toInt ∧ p0.toInt ≤ 999 from ⟨(by omega), (by omega)⟩) hG hS dJ3_checkIndex_8e157_17
theorem dJ0_checkIndex_df160_0 : decode cJ0_checkIndex_df160 0 = .ok (.iload_n 0, 1) := by decide +kernel
theorem dJ0_checkIndex_df160_1 : decode cJ0_checkIndex_df160 1 = .ok (.iload_n 1, 1) := by decide +kernel
theorem dJ0_checkIndex_df160_2 : decode cJ0_checkIndex_df160 2 = .ok (.getstatic 1053, 3) := by decide +kernel
theorem dJ0_checkIndex_df160_5 : decode cJ0_checkIndex_df160 5 = .ok (.invokestatic 1059, 3) := by decide +kernel
theorem dJ0_checkIndex_df160_8 : decode cJ0_checkIndex_df160 8 = .ok (.pop, 1) := by decide +kernel
theorem dJ0_checkIndex_df160_9 : decode cJ0_checkIndex_df160 9 = .ok (.return_, 1) := by decide +kernel
set_option maxHeartbeats 4000000 in
set_option maxRecDepth 100000 in
theorem k_J0_checkIndex_df160 (l : Launch) (D : va_G) (cy : Nat → ClassId) (ld : Nat → Nat) (t : tk_T) (p0 : Int32) (p1 : Int32) (hp_0 : 0 ≤ p0.toInt) (hp_1 : p0.toInt ≤ 1000) (hp_2 : 1 ≤ p1.toInt) (hp_3 : p1.toInt ≤ 1000) (hp_4 : 0 ≤ (-1) * p0.toInt + p1.toInt + (-1)) : Met l yJ0_checkIndex_df160 (wl yJ0_checkIndex_df160 cJ0_checkIndex_df160 2 none) ({ frames := 4, cells := 0, slots := 0, locals := 210 }) (tp D cy ld t [] [.int p0, .int p1] (fun H => True)) (tv D cy ld t [] (fun H => True) (tk_w t [])) 0 0 (tk_w t []) := by
  refine tk_met (y := yJ0_checkIndex_df160) (cc := cJ0_checkIndex_df160) (maxL := 2) (ret := none) (av := [.int p0, .int p1]) _ _ (by decide) (Nat.le_of_ble_eq_true rfl) ?_
  intro p e s m args below meth c hx hb hr hml hts htl hown hlocks hK H locs hH hG hS hB hZ ls hl
  have hown : s.vm.findClass RJ0 = some m.cls := hown
  have hl : lv_has ls 2 [(0, .int p0), (1, .int p1)] := hl
  have hr_p0 := tk_rng p0
  have hr_p1 := tk_rng p1
  refine lv_iload_n hx hb dJ0_checkIndex_df160_0 rfl (lv_at hl 0 rfl) ?_
  refine lv_iload_n hx hb dJ0_checkIndex_df160_1 rfl (lv_at hl 1 rfl) ?_
  rcases hZ.2.2 with hzz | ⟨b1, hzz⟩
  · refine va_gets hx hb (hzz.narrow (fun _ h => h.1)) hS hown (htl _ mw_545) (fun _ h9 => h9) dJ0_checkIndex_df160_2 ?_
    refine tk_Si (As := [.int p0, .int p1, .null]) (rest := []) ⟨hx, hb, hml, hown, hts⟩ hK hG hZ hS (k_J3_checkIndex_8e157_0 l D cy ld t p0 p1 (by omega) (by omega) (by omega) (by omega) (by omega)) trivial ⟨callB_of 3 hts (wl_in mw_549) rfl rfl rfl (htl _ mw_548) (htl _ mw_546) hd_yJ3_checkIndex_8e157 ⟨(Nat.le_of_ble_eq_true rfl), (Nat.le_of_ble_eq_true rfl)⟩, htl _ mw_547⟩ (tk_w.pick [] rfl) rfl hl.1 rfl (Nat.le_of_ble_eq_true rfl) dJ0_checkIndex_df160_5 ⟨(Nat.le_of_ble_eq_true rfl), (Nat.le_of_ble_eq_true rfl)⟩ (fun v2 H locs hpo hG hS hq9 => ?_)
    obtain ⟨hpo4, hpo5⟩ := hpo
    refine lv_pop hx hb dJ0_checkIndex_df160_8 rfl ?_
    exact tk_vret hx hb hr hlocks trivial hG hS dJ0_checkIndex_df160_9
  · refine va_gets hx hb (hzz.narrow (fun _ h => h.1)) hS hown (htl _ mw_545) (fun _ h9 => h9) dJ0_checkIndex_df160_2 ?_
    refine tk_Si (As := [.int p0, .int p1, .ref b1]) (rest := []) ⟨hx, hb, hml, hown, hts⟩ hK hG hZ hS (k_J3_checkIndex_8e157_1 l D cy ld t p0 p1 b1 (by omega) (by omega) (by omega) (by omega) (by omega)) trivial ⟨callB_of 3 hts (wl_in mw_549) rfl rfl rfl (htl _ mw_548) (htl _ mw_546) hd_yJ3_checkIndex_8e157 ⟨(Nat.le_of_ble_eq_true rfl), (Nat.le_of_ble_eq_true rfl)⟩, htl _ mw_547⟩ (tk_w.pick [] rfl) rfl hl.1 rfl (Nat.le_of_ble_eq_true rfl) dJ0_checkIndex_df160_5 ⟨(Nat.le_of_ble_eq_true rfl), (Nat.le_of_ble_eq_true rfl)⟩ (fun v6 H locs hpo hG hS hq9 => ?_)
    obtain ⟨hpo8, hpo9⟩ := hpo
    refine lv_pop hx hb dJ0_checkIndex_df160_8 rfl ?_
    exact tk_vret hx hb hr hlocks trivial hG hS dJ0_checkIndex_df160_9
theorem dJ1_charAt_3b067_0 : decode cJ1_charAt_3b067 0 = .ok (.iload_n 1, 1) := by decide +kernel
theorem dJ1_charAt_3b067_1 : decode cJ1_charAt_3b067 1 = .ok (.aload_n 0, 1) := by decide +kernel
theorem dJ1_charAt_3b067_2 : decode cJ1_charAt_3b067 2 = .ok (.arraylength, 1) := by decide +kernel
theorem dJ1_charAt_3b067_3 : decode cJ1_charAt_3b067 3 = .ok (.invokestatic 9, 3) := by decide +kernel
theorem dJ1_charAt_3b067_6 : decode cJ1_charAt_3b067 6 = .ok (.aload_n 0, 1) := by decide +kernel
theorem dJ1_charAt_3b067_7 : decode cJ1_charAt_3b067 7 = .ok (.iload_n 1, 1) := by decide +kernel
theorem dJ1_charAt_3b067_8 : decode cJ1_charAt_3b067 8 = .ok (.baload, 1) := by decide +kernel
theorem dJ1_charAt_3b067_9 : decode cJ1_charAt_3b067 9 = .ok (.sipush 255, 3) := by decide +kernel
theorem dJ1_charAt_3b067_12 : decode cJ1_charAt_3b067 12 = .ok (.iand, 1) := by decide +kernel
theorem dJ1_charAt_3b067_13 : decode cJ1_charAt_3b067 13 = .ok (.i2c, 1) := by decide +kernel
theorem dJ1_charAt_3b067_14 : decode cJ1_charAt_3b067 14 = .ok (.ireturn, 1) := by decide +kernel
set_option maxHeartbeats 4000000 in
set_option maxRecDepth 100000 in
theorem k_J1_charAt_3b067_7 (l : Launch) (D : va_G) (cy : Nat → ClassId) (ld : Nat → Nat) (t : tk_T) (p1 : Int32) (hp_0 : 0 ≤ p1.toInt) (hp_1 : p1.toInt ≤ 1) : Met l yJ1_charAt_3b067 (wl yJ1_charAt_3b067 cJ1_charAt_3b067 2 (some .char)) ({ frames := 5, cells := 0, slots := 0, locals := 280 }) (tp D cy ld t [] [.ref (ld 57), .int p1] (fun H => True)) (ti D cy ld t [] (fun r H => 0 ≤ r.toInt ∧ r.toInt ≤ 255) (tk_w t [])) 0 0 (tk_w t []) := by
  refine tk_met (y := yJ1_charAt_3b067) (cc := cJ1_charAt_3b067) (maxL := 2) (ret := (some .char)) (av := [.ref (ld 57), .int p1]) _ _ (by decide) (Nat.le_of_ble_eq_true rfl) ?_
  intro p e s m args below meth c hx hb hr hml hts htl hown hlocks hK H locs hH hG hS hB hZ ls hl
  have hown : s.vm.findClass RJ1 = some m.cls := hown
  have hl : lv_has ls 2 [(0, .ref (ld 57)), (1, .int p1)] := hl
  have hr_p1 := tk_rng p1
  refine lv_iload_n hx hb dJ1_charAt_3b067_0 rfl (lv_at hl 1 rfl) ?_
  refine lv_aload_n hx hb dJ1_charAt_3b067_1 rfl (lv_at hl 0 rfl) ?_
  refine va_tlen (v := 2) hx hb ((hZ.1.1 7 (by decide)).2.2.2.narrow (fun _ h => h.1)) hS rfl dJ1_charAt_3b067_2 ?_
  have hk_2 : (2 : Int32).toInt = 2 := by decide
  refine tk_Sv (As := [.int p1, .int 2]) (rest := []) ⟨hx, hb, hml, hown, hts⟩ hK hG hZ hS (k_J0_checkIndex_df160 l D cy ld t p1 2 (by omega) (by omega) (by omega) (by omega) (by omega)) trivial ⟨callB_of 2 hts (wl_in mw_544) rfl rfl rfl (htl _ mw_521) (htl _ mw_542) hd_yJ0_checkIndex_df160 ⟨(Nat.le_of_ble_eq_true rfl), (Nat.le_of_ble_eq_true rfl)⟩, htl _ mw_543⟩ (tk_w.pick [] rfl) rfl hl.1 rfl (Nat.le_of_ble_eq_true rfl) dJ1_charAt_3b067_3 ⟨(Nat.le_of_ble_eq_true rfl), (Nat.le_of_ble_eq_true rfl)⟩ (fun H locs hpo hG hS hq9 => ?_)
  refine lv_aload_n hx hb dJ1_charAt_3b067_6 rfl (lv_at hl 0 rfl) ?_
  refine lv_iload_n hx hb dJ1_charAt_3b067_7 rfl (lv_at hl 1 rfl) ?_
  refine va_tb hx hb ((hZ.1.1 7 (by decide)).2.2.2.narrow (fun _ h => h.1)) hS (vp_in_iff.mpr ⟨by omega, show _ < ((2 : Nat) : Int) by omega⟩) rfl dJ1_charAt_3b067_8 ?_
  refine tk_any (fun v2 => ?_)
  refine lv_sipush (v := 255) hx hb dJ1_charAt_3b067_9 (by decide) ?_
  refine lv_iand hx hb dJ1_charAt_3b067_12 ?_
  refine tk_say (P := fun z => 0 ≤ z.toInt ∧ z.toInt ≤ 255) (tk_and v2 8 (by decide) (by decide)) (fun v3 h_v3 => ?_)
  obtain ⟨v4, e_v4, h_v4⟩ := tk_i2c (x := v3) (by omega) (by omega)
  refine lv_i2c (v := v4) hx hb dJ1_charAt_3b067_13 e_v4 ?_
  exact tk_iret (v := v4) hx hb hr (tk_nc (by omega) (by omega)) hlocks (show 0 ≤ v4.toInt ∧ v4.toInt ≤ 255 from ⟨(by omega), (by omega)⟩) hG hS dJ1_charAt_3b067_14
theorem dJ0_charAt_5068e_0 : decode cJ0_charAt_5068e 0 = .ok (.aload_n 0, 1) := by decide +kernel
theorem dJ0_charAt_5068e_1 : decode cJ0_charAt_5068e 1 = .ok (.invokevirtual 492, 3) := by decide +kernel
theorem dJ0_charAt_5068e_4 : decode cJ0_charAt_5068e 4 = .ok (.ifCond .eq 12, 3) := by decide +kernel
theorem dJ0_charAt_5068e_7 : decode cJ0_charAt_5068e 7 = .ok (.aload_n 0, 1) := by decide +kernel
theorem dJ0_charAt_5068e_8 : decode cJ0_charAt_5068e 8 = .ok (.getfield 9, 3) := by decide +kernel
theorem dJ0_charAt_5068e_11 : decode cJ0_charAt_5068e 11 = .ok (.iload_n 1, 1) := by decide +kernel
theorem dJ0_charAt_5068e_12 : decode cJ0_charAt_5068e 12 = .ok (.invokestatic 495, 3) := by decide +kernel
theorem dJ0_charAt_5068e_15 : decode cJ0_charAt_5068e 15 = .ok (.ireturn, 1) := by decide +kernel
set_option maxHeartbeats 4000000 in
set_option maxRecDepth 100000 in
theorem k_J0_charAt_5068e_7 (l : Launch) (D : va_G) (cy : Nat → ClassId) (ld : Nat → Nat) (t : tk_T) (p1 : Int32) (hp_0 : 0 ≤ p1.toInt) (hp_1 : p1.toInt ≤ 1) : Met l yJ0_charAt_5068e (wl yJ0_charAt_5068e cJ0_charAt_5068e 2 (some .char)) ({ frames := 6, cells := 0, slots := 0, locals := 350 }) (tp D cy ld t [] [.ref (ld 7), .int p1] (fun H => True)) (ti D cy ld t [] (fun r H => 0 ≤ r.toInt ∧ r.toInt ≤ 255) (tk_w t [])) 0 0 (tk_w t []) := by
  refine tk_met (y := yJ0_charAt_5068e) (cc := cJ0_charAt_5068e) (maxL := 2) (ret := (some .char)) (av := [.ref (ld 7), .int p1]) _ _ (by decide) (Nat.le_of_ble_eq_true rfl) ?_
  intro p e s m args below meth c hx hb hr hml hts htl hown hlocks hK H locs hH hG hS hB hZ ls hl
  have hown : s.vm.findClass RJ0 = some m.cls := hown
  have hl : lv_has ls 2 [(0, .ref (ld 7)), (1, .int p1)] := hl
  have hr_p1 := tk_rng p1
  refine lv_aload_n hx hb dJ0_charAt_5068e_0 rfl (lv_at hl 0 rfl) ?_
  refine tk_Ti (As := []) (rest := []) (j := 7) ⟨hx, hb, hml, hown, hts⟩ hK hG hZ hS (k_J0_isLatin1_aae02_7 l D cy ld t) trivial ⟨callB_of 0 hts (wl_in mw_537) rfl rfl rfl (htl _ mw_521) (htl _ mw_534) hd_yJ0_isLatin1_aae02 ⟨(Nat.le_of_ble_eq_true rfl), (Nat.le_of_ble_eq_true rfl)⟩, htl _ mw_535, htl _ mw_536⟩ (by decide) (tk_w.pick [] rfl) rfl hl.1 rfl (Nat.le_of_ble_eq_true rfl) dJ0_charAt_5068e_1 ⟨(Nat.le_of_ble_eq_true rfl), (Nat.le_of_ble_eq_true rfl)⟩ (fun v1 H locs hpo hG hS hq9 => ?_)
  obtain ⟨hpo3, hpo4, hpo5⟩ := hpo
  obtain rfl : v1 = 1 := (fi_eq (show v1.toInt = 1 by omega) (by decide)).mpr rfl
  refine lv_if_eq (tgt := 16) hx hb dJ0_charAt_5068e_4 (by decide) (fun c9 => absurd c9 (by decide)) (fun _ => ?_)
  refine lv_aload_n hx hb dJ0_charAt_5068e_7 rfl (lv_at hl 0 rfl) ?_
  refine vk_getf hx hb ((hZ.1.1 7 (by decide)).2.2.1.narrow (fun _ h => h.1)) hS hown (htl _ mw_523) (fun _ h9 => h9) dJ0_charAt_5068e_8 ?_
  refine lv_iload_n hx hb dJ0_charAt_5068e_11 rfl (lv_at hl 1 rfl) ?_
  refine tk_Si (As := [.ref (ld 57), .int p1]) (rest := []) ⟨hx, hb, hml, hown, hts⟩ hK hG hZ hS (k_J1_charAt_3b067_7 l D cy ld t p1 (by omega) (by omega)) trivial ⟨callB_of 2 hts (wl_in mw_541) rfl rfl rfl (htl _ mw_540) (htl _ mw_538) hd_yJ1_charAt_3b067 ⟨(Nat.le_of_ble_eq_true rfl), (Nat.le_of_ble_eq_true rfl)⟩, htl _ mw_539⟩ (tk_w.pick [] rfl) rfl hl.1 rfl (Nat.le_of_ble_eq_true rfl) dJ0_charAt_5068e_12 ⟨(Nat.le_of_ble_eq_true rfl), (Nat.le_of_ble_eq_true rfl)⟩ (fun v6 H locs hpo hG hS hq9 => ?_)
  obtain ⟨hpo8, hpo9⟩ := hpo
  exact tk_iret (v := v6) hx hb hr (tk_nc (by omega) (by omega)) hlocks (show 0 ≤ v6.toInt ∧ v6.toInt ≤ 255 from ⟨(by omega), (by omega)⟩) hG hS dJ0_charAt_5068e_15
theorem dJ0_coder_7d493_0 : decode cJ0_coder_7d493 0 = .ok (.getstatic 38, 3) := by decide +kernel
theorem dJ0_coder_7d493_3 : decode cJ0_coder_7d493 3 = .ok (.ifCond .eq 10, 3) := by decide +kernel
theorem dJ0_coder_7d493_6 : decode cJ0_coder_7d493 6 = .ok (.aload_n 0, 1) := by decide +kernel
theorem dJ0_coder_7d493_7 : decode cJ0_coder_7d493 7 = .ok (.getfield 15, 3) := by decide +kernel
theorem dJ0_coder_7d493_10 : decode cJ0_coder_7d493 10 = .ok (.goto 4, 3) := by decide +kernel
theorem dJ0_coder_7d493_14 : decode cJ0_coder_7d493 14 = .ok (.ireturn, 1) := by decide +kernel
set_option maxHeartbeats 4000000 in
set_option maxRecDepth 100000 in
theorem k_J0_coder_7d493_7 (l : Launch) (D : va_G) (cy : Nat → ClassId) (ld : Nat → Nat) (t : tk_T) : Met l yJ0_coder_7d493 (wl yJ0_coder_7d493 cJ0_coder_7d493 1 (some .byte)) ({ frames := 3, cells := 0, slots := 0, locals := 140 }) (tp D cy ld t [] [.ref (ld 7)] (fun H => True)) (ti D cy ld t [] (fun r H => r.toInt = 0) (tk_w t [])) 0 0 (tk_w t []) := by
  refine tk_met (y := yJ0_coder_7d493) (cc := cJ0_coder_7d493) (maxL := 1) (ret := (some .byte)) (av := [.ref (ld 7)]) _ _ (by decide) (Nat.le_of_ble_eq_true rfl) ?_
  intro p e s m args below meth c hx hb hr hml hts htl hown hlocks hK H locs hH hG hS hB hZ ls hl
  have hown : s.vm.findClass RJ0 = some m.cls := hown
  have hl : lv_has ls 1 [(0, .ref (ld 7))] := hl
  refine va_gets hx hb (hZ.2.1.narrow (fun _ h => h.1)) hS hown (htl _ mw_528) (fun _ h9 => h9) dJ0_coder_7d493_0 ?_
  refine lv_if_eq (tgt := 13) hx hb dJ0_coder_7d493_3 (by decide) (fun c9 => absurd c9 (by decide)) (fun _ => ?_)
  refine lv_aload_n hx hb dJ0_coder_7d493_6 rfl (lv_at hl 0 rfl) ?_
  refine vk_getf hx hb ((hZ.1.1 7 (by decide)).2.1.narrow (fun _ h => h.1)) hS hown (htl _ mw_529) (fun _ h9 => h9) dJ0_coder_7d493_7 ?_
  refine lv_goto (tgt := 14) hx hb dJ0_coder_7d493_10 (by decide) ?_
  have hk_0 : (0 : Int32).toInt = 0 := by decide
  exact tk_iret (v := 0) hx hb hr rfl hlocks (show (0 : Int32).toInt = 0 from (by omega)) hG hS dJ0_coder_7d493_14
theorem dJ0_length_8abf5_0 : decode cJ0_length_8abf5 0 = .ok (.aload_n 0, 1) := by decide +kernel
theorem dJ0_length_8abf5_1 : decode cJ0_length_8abf5 1 = .ok (.getfield 9, 3) := by decide +kernel
theorem dJ0_length_8abf5_4 : decode cJ0_length_8abf5 4 = .ok (.arraylength, 1) := by decide +kernel
theorem dJ0_length_8abf5_5 : decode cJ0_length_8abf5 5 = .ok (.aload_n 0, 1) := by decide +kernel
theorem dJ0_length_8abf5_6 : decode cJ0_length_8abf5 6 = .ok (.invokevirtual 335, 3) := by decide +kernel
theorem dJ0_length_8abf5_9 : decode cJ0_length_8abf5 9 = .ok (.ishr, 1) := by decide +kernel
theorem dJ0_length_8abf5_10 : decode cJ0_length_8abf5 10 = .ok (.ireturn, 1) := by decide +kernel
set_option maxHeartbeats 4000000 in
set_option maxRecDepth 100000 in
theorem k_J0_length_8abf5_7 (l : Launch) (D : va_G) (cy : Nat → ClassId) (ld : Nat → Nat) (t : tk_T) : Met l yJ0_length_8abf5 (wl yJ0_length_8abf5 cJ0_length_8abf5 1 (some .int)) ({ frames := 4, cells := 0, slots := 0, locals := 210 }) (tp D cy ld t [] [.ref (ld 7)] (fun H => True)) (ti D cy ld t [] (fun r H => r.toInt + (-2) = 0) (tk_w t [])) 0 0 (tk_w t []) := by
  refine tk_met (y := yJ0_length_8abf5) (cc := cJ0_length_8abf5) (maxL := 1) (ret := (some .int)) (av := [.ref (ld 7)]) _ _ (by decide) (Nat.le_of_ble_eq_true rfl) ?_
  intro p e s m args below meth c hx hb hr hml hts htl hown hlocks hK H locs hH hG hS hB hZ ls hl
  have hown : s.vm.findClass RJ0 = some m.cls := hown
  have hl : lv_has ls 1 [(0, .ref (ld 7))] := hl
  refine lv_aload_n hx hb dJ0_length_8abf5_0 rfl (lv_at hl 0 rfl) ?_
  refine vk_getf hx hb ((hZ.1.1 7 (by decide)).2.2.1.narrow (fun _ h => h.1)) hS hown (htl _ mw_523) (fun _ h9 => h9) dJ0_length_8abf5_1 ?_
  refine va_tlen (v := 2) hx hb ((hZ.1.1 7 (by decide)).2.2.2.narrow (fun _ h => h.1)) hS rfl dJ0_length_8abf5_4 ?_
  refine lv_aload_n hx hb dJ0_length_8abf5_5 rfl (lv_at hl 0 rfl) ?_
  refine tk_Ti (As := []) (rest := [.int 2]) (j := 7) ⟨hx, hb, hml, hown, hts⟩ hK hG hZ hS (k_J0_coder_7d493_7 l D cy ld t) trivial ⟨callB_of 0 hts (wl_in mw_527) rfl rfl rfl (htl _ mw_521) (htl _ mw_524) hd_yJ0_coder_7d493 ⟨(Nat.le_of_ble_eq_true rfl), (Nat.le_of_ble_eq_true rfl)⟩, htl _ mw_525, htl _ mw_526⟩ (by decide) (tk_w.pick [] rfl) rfl hl.1 rfl (Nat.le_of_ble_eq_true rfl) dJ0_length_8abf5_6 ⟨(Nat.le_of_ble_eq_true rfl), (Nat.le_of_ble_eq_true rfl)⟩ (fun v1 H locs hpo hG hS hq9 => ?_)
  have hpo3 := hpo
  obtain rfl : v1 = 0 := (fi_eq (show v1.toInt = 0 by omega) (by decide)).mpr rfl
  refine lv_ishr hx hb dJ0_length_8abf5_9 ?_
  refine fx_ti (v := 2) (by decide) ?_
  have hk_2 : (2 : Int32).toInt = 2 := by decide
  exact tk_iret (v := 2) hx hb hr rfl hlocks (show (2 : Int32).toInt + (-2) = 0 from (by omega)) hG hS dJ0_length_8abf5_10
theorem dX6_isToken_0 : decode cX6_isToken 0 = .ok (.iload_n 3, 1) := by decide +kernel
theorem dX6_isToken_1 : decode cX6_isToken 1 = .ok (.iload_n 2, 1) := by decide +kernel
theorem dX6_isToken_2 : decode cX6_isToken 2 = .ok (.isub, 1) := by decide +kernel
theorem dX6_isToken_3 : decode cX6_isToken 3 = .ok (.aload_n 0, 1) := by decide +kernel
theorem dX6_isToken_4 : decode cX6_isToken 4 = .ok (.getfield 41, 3) := by decide +kernel
theorem dX6_isToken_7 : decode cX6_isToken 7 = .ok (.aload_n 0, 1) := by decide +kernel
theorem dX6_isToken_8 : decode cX6_isToken 8 = .ok (.getfield 73, 3) := by decide +kernel
theorem dX6_isToken_11 : decode cX6_isToken 11 = .ok (.isub, 1) := by decide +kernel
theorem dX6_isToken_12 : decode cX6_isToken 12 = .ok (.if_icmp .eq 5, 3) := by decide +kernel
theorem dX6_isToken_17 : decode cX6_isToken 17 = .ok (.iload_n 2, 1) := by decide +kernel
theorem dX6_isToken_18 : decode cX6_isToken 18 = .ok (.istore 4, 2) := by decide +kernel
theorem dX6_isToken_20 : decode cX6_isToken 20 = .ok (.iload 4, 2) := by decide +kernel
theorem dX6_isToken_22 : decode cX6_isToken 22 = .ok (.iload_n 3, 1) := by decide +kernel
theorem dX6_isToken_23 : decode cX6_isToken 23 = .ok (.if_icmp .ge 34, 3) := by decide +kernel
theorem dX6_isToken_57 : decode cX6_isToken 57 = .ok (.iconst 1, 1) := by decide +kernel
theorem dX6_isToken_58 : decode cX6_isToken 58 = .ok (.ireturn, 1) := by decide +kernel
theorem dX6_isToken_26 : decode cX6_isToken 26 = .ok (.aload_n 1, 1) := by decide +kernel
theorem dX6_isToken_27 : decode cX6_isToken 27 = .ok (.iload 4, 2) := by decide +kernel
theorem dX6_isToken_29 : decode cX6_isToken 29 = .ok (.invokevirtual 92, 3) := by decide +kernel
theorem dX6_isToken_32 : decode cX6_isToken 32 = .ok (.aload_n 0, 1) := by decide +kernel
theorem dX6_isToken_33 : decode cX6_isToken 33 = .ok (.getfield 20, 3) := by decide +kernel
theorem dX6_isToken_36 : decode cX6_isToken 36 = .ok (.aload_n 0, 1) := by decide +kernel
theorem dX6_isToken_37 : decode cX6_isToken 37 = .ok (.getfield 73, 3) := by decide +kernel
theorem dX6_isToken_40 : decode cX6_isToken 40 = .ok (.iload 4, 2) := by decide +kernel
theorem dX6_isToken_42 : decode cX6_isToken 42 = .ok (.iadd, 1) := by decide +kernel
theorem dX6_isToken_43 : decode cX6_isToken 43 = .ok (.iload_n 2, 1) := by decide +kernel
theorem dX6_isToken_44 : decode cX6_isToken 44 = .ok (.isub, 1) := by decide +kernel
theorem dX6_isToken_45 : decode cX6_isToken 45 = .ok (.iaload, 1) := by decide +kernel
theorem dX6_isToken_46 : decode cX6_isToken 46 = .ok (.if_icmp .eq 5, 3) := by decide +kernel
theorem dX6_isToken_51 : decode cX6_isToken 51 = .ok (.iinc 4 1, 3) := by decide +kernel
theorem dX6_isToken_54 : decode cX6_isToken 54 = .ok (.goto (-34), 3) := by decide +kernel
theorem dX6_isToken_49 : decode cX6_isToken 49 = .ok (.iconst 0, 1) := by decide +kernel
theorem dX6_isToken_50 : decode cX6_isToken 50 = .ok (.ireturn, 1) := by decide +kernel
theorem dX6_isToken_15 : decode cX6_isToken 15 = .ok (.iconst 0, 1) := by decide +kernel
theorem dX6_isToken_16 : decode cX6_isToken 16 = .ok (.ireturn, 1) := by decide +kernel
set_option maxHeartbeats 4000000 in
set_option maxRecDepth 100000 in
theorem k_X6_isToken_7 (l : Launch) (D : va_G) (cy : Nat → ClassId) (ld : Nat → Nat) (t : tk_T) (a0 : Nat) (p2 : Int32) (p3 : Int32) (ht_a0 : t a0 = (7, 0, 0)) (hp_0 : 0 ≤ p2.toInt) (hp_1 : p2.toInt ≤ 2) (hp_2 : 0 ≤ p3.toInt) (hp_3 : p3.toInt ≤ 2) : Met l yX6_isToken (wl yX6_isToken cX6_isToken 5 (some .boolean)) ({ frames := 7, cells := 0, slots := 0, locals := 420 }) (tp D cy ld t [] [.ref a0, .ref (ld 7), .int p2, .int p3] (fun H => True)) (ti D cy ld t [] (fun r H => 0 ≤ r.toInt ∧ r.toInt ≤ 1 ∧ 0 ≤ r.toInt ∧ r.toInt ≤ 1) (tk_w t [])) 0 0 (tk_w t []) := by
  refine tk_met (y := yX6_isToken) (cc := cX6_isToken) (maxL := 5) (ret := (some .boolean)) (av := [.ref a0, .ref (ld 7), .int p2, .int p3]) _ _ (by decide) (Nat.le_of_ble_eq_true rfl) ?_
  intro p e s m args below meth c hx hb hr hml hts htl hown hlocks hK H locs hH hG hS hB hZ ls hl
  have hown : s.vm.findClass RX6 = some m.cls := hown
  have hl : lv_has ls 5 [(0, .ref a0), (1, .ref (ld 7)), (2, .int p2), (3, .int p3)] := hl
  have hr_p2 := tk_rng p2
  have hr_p3 := tk_rng p3
  refine lv_iload_n hx hb dX6_isToken_0 rfl (lv_at hl 3 rfl) ?_
  refine lv_iload_n hx hb dX6_isToken_1 rfl (lv_at hl 2 rfl) ?_
  refine lv_isub hx hb dX6_isToken_2 ?_
  refine tk_sub rfl rfl (by omega) (by omega) (fun v1 h_v1 => ?_)
  refine lv_aload_n hx hb dX6_isToken_3 rfl (lv_at hl 0 rfl) ?_
  refine tk_get (ci := 6) (C := RX6) (T := TX6) (N := 11) (sp := (0, 0, 400, 0)) hx hb htl inX6 hown hK hG ht_a0 (by decide) tk_no rfl 5 (by decide) (htl _ mw_478) (fun _ h9 => h9) rfl dX6_isToken_4 (fun v9 hf2 hV9 => ?_)
  obtain ⟨v3, rfl, (ha_v3 : 0 ≤ v3.toInt), (hb_v3 : v3.toInt ≤ 400)⟩ := hV9
  refine lv_aload_n hx hb dX6_isToken_7 rfl (lv_at hl 0 rfl) ?_
  refine tk_get (ci := 6) (C := RX6) (T := TX6) (N := 11) (sp := (0, 0, 400, 0)) hx hb htl inX6 hown hK hG ht_a0 (by decide) tk_no rfl 4 (by decide) (htl _ mw_495) (fun _ h9 => h9) rfl dX6_isToken_8 (fun v9 hf4 hV9 => ?_)
  obtain ⟨v5, rfl, (ha_v5 : 0 ≤ v5.toInt), (hb_v5 : v5.toInt ≤ 400)⟩ := hV9
  refine lv_isub hx hb dX6_isToken_11 ?_
  refine tk_sub rfl rfl (by omega) (by omega) (fun v6 h_v6 => ?_)
  refine lv_icmp_eq (tgt := 17) hx hb dX6_isToken_12 (by decide) (fun c9 => ?_) (fun c9 => ?_)
  · have hc7 : v1.toInt = v6.toInt := (fi_eq rfl rfl).mp c9
    refine lv_iload_n hx hb dX6_isToken_17 rfl (lv_at hl 2 rfl) ?_
    refine lv_istore (lv' := [(4, .int p2), (0, .ref a0), (1, .ref (ld 7)), (2, .int p2), (3, .int p3)]) hx hb dX6_isToken_18 hl (by decide) rfl (fun ls hl => ?_)
    have hl82 : ∀ (N_l82 : Nat) (v8 : Int32) (H : Heap) (locs : List Loc), v8.toInt ≤ 2 → 0 ≤ (-1) * p2.toInt + v8.toInt → (-1) * v8.toInt + 2 < (N_l82 : Int) → tk_G D cy ld t [] H → va_S (tk_w t []) s.heap H locs → tk_f D H a0 6 5 (.int v3) → tk_f D H a0 6 4 (.int v5) → ∀ ls : Array Slot, lv_has ls 5 [(4, .int v8), (0, .ref a0), (1, .ref (ld 7)), (2, .int p2), (3, .int p3)] → W p l e ({ frames := 7, cells := 0, slots := 0, locals := 420 }) s m args below meth c H locs 0 0 (MQ below (ti D cy ld t [] (fun r H => 0 ≤ r.toInt ∧ r.toInt ≤ 1 ∧ 0 ≤ r.toInt ∧ r.toInt ≤ 1) (tk_w t [])) args s 0 0 (tk_w t [])) (F0 m 20 ls []) := by
      intro N_l82
      induction N_l82 with
      | zero => intro v8 H locs hq0_l82 hq1_l82 hm_l82 hG hS hf2 hf4 ls hl; exfalso; omega
      | succ N_l82 ih_l82 =>
        intro v8 H locs hq0_l82 hq1_l82 hm_l82 hG hS hf2 hf4 ls hl
        refine lv_iload hx hb dX6_isToken_20 (lv_at hl 0 rfl) ?_
        refine lv_iload_n hx hb dX6_isToken_22 rfl (lv_at hl 4 rfl) ?_
        refine lv_icmp_ge (tgt := 57) hx hb dX6_isToken_23 (by decide) (fun c9 => ?_) (fun c9 => ?_)
        · have hc83 : p3.toInt ≤ v8.toInt := (fi_le rfl rfl).mp c9
          refine lv_iconst (v := 1) hx hb dX6_isToken_57 (by decide) ?_
          have hk_1 : (1 : Int32).toInt = 1 := by decide
          exact tk_iret (v := 1) hx hb hr rfl hlocks (show 0 ≤ (1 : Int32).toInt ∧ (1 : Int32).toInt ≤ 1 ∧ 0 ≤ (1 : Int32).toInt ∧ (1 : Int32).toInt ≤ 1 from ⟨(by omega), (by omega), (by omega), (by omega)⟩) hG hS dX6_isToken_58
        · have hc83 : ¬ (p3.toInt ≤ v8.toInt) := fun h9 => c9 ((fi_le rfl rfl).mpr h9)
          refine lv_aload_n hx hb dX6_isToken_26 rfl (lv_at hl 2 rfl) ?_
          refine lv_iload hx hb dX6_isToken_27 (lv_at hl 0 rfl) ?_
          refine tk_Ti (As := [.int v8]) (rest := []) (j := 7) ⟨hx, hb, hml, hown, hts⟩ hK hG hZ hS (k_J0_charAt_5068e_7 l D cy ld t v8 (by omega) (by omega)) trivial ⟨callB_of 1 hts (wl_in mw_533) rfl rfl rfl (htl _ mw_521) (htl _ mw_530) hd_yJ0_charAt_5068e ⟨(Nat.le_of_ble_eq_true rfl), (Nat.le_of_ble_eq_true rfl)⟩, htl _ mw_531, htl _ mw_532⟩ (by decide) (tk_w.pick [] rfl) rfl hl.1 rfl (Nat.le_of_ble_eq_true rfl) dX6_isToken_29 ⟨(Nat.le_of_ble_eq_true rfl), (Nat.le_of_ble_eq_true rfl)⟩ (fun v84 H locs hpo hG hS hq9 => ?_)
          have hf2 := hf2.call hq9 tk_w.nil
          have hf4 := hf4.call hq9 tk_w.nil
          obtain ⟨hpo86, hpo87⟩ := hpo
          refine lv_aload_n hx hb dX6_isToken_32 rfl (lv_at hl 1 rfl) ?_
          refine tk_get (ci := 6) (C := RX6) (T := TX6) (N := 11) (sp := (6, 20, 400, 9)) hx hb htl inX6 hown hK hG ht_a0 (by decide) tk_no rfl 1 (by decide) (htl _ mw_133) (fun _ h9 => h9) rfl dX6_isToken_33 (fun v9 hf88 hV9 => ?_)
          obtain ⟨b89, rfl, ht_b89⟩ := hV9
          have ht_b89 : t b89 = (20, 400, 9) := ht_b89
          refine lv_aload_n hx hb dX6_isToken_36 rfl (lv_at hl 1 rfl) ?_
          refine tk_getk (ci := 6) (C := RX6) (T := TX6) (N := 11) (sp := (0, 0, 400, 0)) hx hb htl inX6 hown hK hG ht_a0 (by decide) tk_no rfl 4 (by decide) (htl _ mw_495) (fun _ h9 => h9) rfl hf4 dX6_isToken_37 ?_
          refine lv_iload hx hb dX6_isToken_40 (lv_at hl 0 rfl) ?_
          refine lv_iadd hx hb dX6_isToken_42 ?_
          refine tk_add rfl rfl (by omega) (by omega) (fun v90 h_v90 => ?_)
          refine lv_iload_n hx hb dX6_isToken_43 rfl (lv_at hl 3 rfl) ?_
          refine lv_isub hx hb dX6_isToken_44 ?_
          refine tk_sub rfl rfl (by omega) (by omega) (fun v91 h_v91 => ?_)
          refine tk_iald hx hb hK hG ht_b89 (by decide) (fun _ h => h) tk_no rfl (by omega) (by omega) dX6_isToken_45 (fun v92 _ _ => ?_)
          have hr_v92 := tk_rng v92
          refine lv_icmp_eq (tgt := 51) hx hb dX6_isToken_46 (by decide) (fun c9 => ?_) (fun c9 => ?_)
          · have hc93 : v84.toInt = v92.toInt := (fi_eq rfl rfl).mp c9
            obtain ⟨v94, h_v94, e_v94⟩ := tk_inc v8 1 (by decide) (by omega) (by omega)
            refine lv_iinc (v := v94) (lv' := [(4, .int v94), (0, .ref a0), (1, .ref (ld 7)), (2, .int p2), (3, .int p3)]) hx hb dX6_isToken_51 hl (k := 0) rfl e_v94 (by decide) rfl (fun ls hl => ?_)
            refine lv_goto (tgt := 20) hx hb dX6_isToken_54 (by decide) ?_
            exact ih_l82 v94 _ _ (by omega) (by omega) (by omega) hG hS hf2 hf4 _ (lv_sub hl [0, 1, 2, 3, 4] rfl)
          · have hc93 : ¬ (v84.toInt = v92.toInt) := fun h9 => c9 ((fi_eq rfl rfl).mpr h9)
            refine lv_iconst (v := 0) hx hb dX6_isToken_49 (by decide) ?_
            have hk_0 : (0 : Int32).toInt = 0 := by decide
            exact tk_iret (v := 0) hx hb hr rfl hlocks (show 0 ≤ (0 : Int32).toInt ∧ (0 : Int32).toInt ≤ 1 ∧ 0 ≤ (0 : Int32).toInt ∧ (0 : Int32).toInt ≤ 1 from ⟨(by omega), (by omega), (by omega), (by omega)⟩) hG hS dX6_isToken_50
    exact hl82 3 p2 _ _ (by omega) (by omega) (by omega) hG hS hf2 hf4 _ (lv_sub hl [0, 1, 2, 3, 4] rfl)
  · have hc7 : ¬ (v1.toInt = v6.toInt) := fun h9 => c9 ((fi_eq rfl rfl).mpr h9)
    refine lv_iconst (v := 0) hx hb dX6_isToken_15 (by decide) ?_
    have hk_0 : (0 : Int32).toInt = 0 := by decide
    exact tk_iret (v := 0) hx hb hr rfl hlocks (show 0 ≤ (0 : Int32).toInt ∧ (0 : Int32).toInt ≤ 1 ∧ 0 ≤ (0 : Int32).toInt ∧ (0 : Int32).toInt ≤ 1 from ⟨(by omega), (by omega), (by omega), (by omega)⟩) hG hS dX6_isToken_16
theorem dX6_wordAmong_0 : decode cX6_wordAmong 0 = .ok (.aload_n 0, 1) := by decide +kernel
theorem dX6_wordAmong_1 : decode cX6_wordAmong 1 = .ok (.invokevirtual 56, 3) := by decide +kernel
theorem dX6_wordAmong_4 : decode cX6_wordAmong 4 = .ok (.ifCond .eq 11, 3) := by decide +kernel
theorem dX6_wordAmong_15 : decode cX6_wordAmong 15 = .ok (.iconst (-1), 1) := by decide +kernel
theorem dX6_wordAmong_16 : decode cX6_wordAmong 16 = .ok (.ireturn, 1) := by decide +kernel
theorem dX6_wordAmong_7 : decode cX6_wordAmong 7 = .ok (.aload_n 0, 1) := by decide +kernel
theorem dX6_wordAmong_8 : decode cX6_wordAmong 8 = .ok (.getfield 67, 3) := by decide +kernel
theorem dX6_wordAmong_11 : decode cX6_wordAmong 11 = .ok (.iconst 1, 1) := by decide +kernel
theorem dX6_wordAmong_12 : decode cX6_wordAmong 12 = .ok (.if_icmp .eq 5, 3) := by decide +kernel
theorem dX6_wordAmong_17 : decode cX6_wordAmong 17 = .ok (.iconst 0, 1) := by decide +kernel
theorem dX6_wordAmong_18 : decode cX6_wordAmong 18 = .ok (.istore_n 2, 1) := by decide +kernel
theorem dX6_wordAmong_19 : decode cX6_wordAmong 19 = .ok (.iconst 0, 1) := by decide +kernel
theorem dX6_wordAmong_20 : decode cX6_wordAmong 20 = .ok (.istore_n 3, 1) := by decide +kernel
theorem dX6_wordAmong_21 : decode cX6_wordAmong 21 = .ok (.iconst 0, 1) := by decide +kernel
theorem dX6_wordAmong_22 : decode cX6_wordAmong 22 = .ok (.istore 4, 2) := by decide +kernel
theorem dX6_wordAmong_24 : decode cX6_wordAmong 24 = .ok (.iload 4, 2) := by decide +kernel
theorem dX6_wordAmong_26 : decode cX6_wordAmong 26 = .ok (.aload_n 1, 1) := by decide +kernel
theorem dX6_wordAmong_27 : decode cX6_wordAmong 27 = .ok (.invokevirtual 87, 3) := by decide +kernel
theorem dX6_wordAmong_30 : decode cX6_wordAmong 30 = .ok (.if_icmp .gt 50, 3) := by decide +kernel
theorem dX6_wordAmong_80 : decode cX6_wordAmong 80 = .ok (.iconst (-1), 1) := by decide +kernel
theorem dX6_wordAmong_81 : decode cX6_wordAmong 81 = .ok (.ireturn, 1) := by decide +kernel
theorem dX6_wordAmong_33 : decode cX6_wordAmong 33 = .ok (.iload 4, 2) := by decide +kernel
theorem dX6_wordAmong_35 : decode cX6_wordAmong 35 = .ok (.aload_n 1, 1) := by decide +kernel
theorem dX6_wordAmong_36 : decode cX6_wordAmong 36 = .ok (.invokevirtual 87, 3) := by decide +kernel
theorem dX6_wordAmong_39 : decode cX6_wordAmong 39 = .ok (.if_icmp .eq 14, 3) := by decide +kernel
theorem dX6_wordAmong_53 : decode cX6_wordAmong 53 = .ok (.aload_n 0, 1) := by decide +kernel
theorem dX6_wordAmong_54 : decode cX6_wordAmong 54 = .ok (.aload_n 1, 1) := by decide +kernel
theorem dX6_wordAmong_55 : decode cX6_wordAmong 55 = .ok (.iload_n 3, 1) := by decide +kernel
theorem dX6_wordAmong_56 : decode cX6_wordAmong 56 = .ok (.iload 4, 2) := by decide +kernel
theorem dX6_wordAmong_58 : decode cX6_wordAmong 58 = .ok (.invokevirtual 96, 3) := by decide +kernel
theorem dX6_wordAmong_61 : decode cX6_wordAmong 61 = .ok (.ifCond .eq 5, 3) := by decide +kernel
theorem dX6_wordAmong_66 : decode cX6_wordAmong 66 = .ok (.iinc 2 1, 3) := by decide +kernel
theorem dX6_wordAmong_69 : decode cX6_wordAmong 69 = .ok (.iload 4, 2) := by decide +kernel
theorem dX6_wordAmong_71 : decode cX6_wordAmong 71 = .ok (.iconst 1, 1) := by decide +kernel
theorem dX6_wordAmong_72 : decode cX6_wordAmong 72 = .ok (.iadd, 1) := by decide +kernel
theorem dX6_wordAmong_73 : decode cX6_wordAmong 73 = .ok (.istore_n 3, 1) := by decide +kernel
theorem dX6_wordAmong_74 : decode cX6_wordAmong 74 = .ok (.iinc 4 1, 3) := by decide +kernel
theorem dX6_wordAmong_77 : decode cX6_wordAmong 77 = .ok (.goto (-53), 3) := by decide +kernel
theorem dX6_wordAmong_64 : decode cX6_wordAmong 64 = .ok (.iload_n 2, 1) := by decide +kernel
theorem dX6_wordAmong_65 : decode cX6_wordAmong 65 = .ok (.ireturn, 1) := by decide +kernel
theorem dX6_wordAmong_42 : decode cX6_wordAmong 42 = .ok (.aload_n 1, 1) := by decide +kernel
theorem dX6_wordAmong_43 : decode cX6_wordAmong 43 = .ok (.iload 4, 2) := by decide +kernel
theorem dX6_wordAmong_45 : decode cX6_wordAmong 45 = .ok (.invokevirtual 92, 3) := by decide +kernel
theorem dX6_wordAmong_48 : decode cX6_wordAmong 48 = .ok (.bipush 32, 2) := by decide +kernel
theorem dX6_wordAmong_50 : decode cX6_wordAmong 50 = .ok (.if_icmp .ne 24, 3) := by decide +kernel
set_option maxHeartbeats 4000000 in
set_option maxRecDepth 100000 in
theorem k_X6_wordAmong_7 (l : Launch) (D : va_G) (cy : Nat → ClassId) (ld : Nat → Nat) (t : tk_T) (a0 : Nat) (ht_a0 : t a0 = (7, 0, 0)) : Met l yX6_wordAmong (wl yX6_wordAmong cX6_wordAmong 5 (some .int)) ({ frames := 8, cells := 0, slots := 0, locals := 490 }) (tp D cy ld t [] [.ref a0, .ref (ld 7)] (fun H => True)) (ti D cy ld t [] (fun r H => (-1) ≤ r.toInt ∧ r.toInt ≤ 2) (tk_w t [])) 0 0 (tk_w t []) := by
  refine tk_met (y := yX6_wordAmong) (cc := cX6_wordAmong) (maxL := 5) (ret := (some .int)) (av := [.ref a0, .ref (ld 7)]) _ _ (by decide) (Nat.le_of_ble_eq_true rfl) ?_
  intro p e s m args below meth c hx hb hr hml hts htl hown hlocks hK H locs hH hG hS hB hZ ls hl
  have hown : s.vm.findClass RX6 = some m.cls := hown
  have hl : lv_has ls 5 [(0, .ref a0), (1, .ref (ld 7))] := hl
  refine lv_aload_n hx hb dX6_wordAmong_0 rfl (lv_at hl 0 rfl) ?_
  refine tk_Vi (As := []) (rest := []) (ci := 6) ⟨hx, hb, hml, hown, hts⟩ hK hG hZ hS (k_X6_isGood l D cy ld t a0 ht_a0) trivial ⟨callB_of 0 hts (wl_in mw_503) rfl rfl rfl (htl _ mw_36) (htl _ mw_500) hd_yX6_isGood ⟨(Nat.le_of_ble_eq_true rfl), (Nat.le_of_ble_eq_true rfl)⟩, htl _ mw_501, htl _ mw_502⟩ ht_a0 (by decide) tk_no rfl (tk_w.pick [] rfl) rfl hl.1 rfl (Nat.le_of_ble_eq_true rfl) dX6_wordAmong_1 ⟨(Nat.le_of_ble_eq_true rfl), (Nat.le_of_ble_eq_true rfl)⟩ (fun v1 H locs hpo hG hS hq9 => ?_)
  obtain ⟨hpo3, hpo4, hpo5, hpo6⟩ := hpo
  refine lv_if_eq (tgt := 15) hx hb dX6_wordAmong_4 (by decide) (fun c9 => ?_) (fun c9 => ?_)
  · have hc7 : v1.toInt = 0 := (fi_eq rfl (show (0 : Int32).toInt = 0 by decide)).mp c9
    refine lv_iconst (v := (-1)) hx hb dX6_wordAmong_15 (by decide) ?_
    have hk_m1 : ((-1) : Int32).toInt = (-1) := by decide
    exact tk_iret (v := (-1)) hx hb hr rfl hlocks (show (-1) ≤ ((-1) : Int32).toInt ∧ ((-1) : Int32).toInt ≤ 2 from ⟨(by omega), (by omega)⟩) hG hS dX6_wordAmong_16
  · have hc7 : ¬ (v1.toInt = 0) := fun h9 => c9 ((fi_eq rfl (show (0 : Int32).toInt = 0 by decide)).mpr h9)
    refine lv_aload_n hx hb dX6_wordAmong_7 rfl (lv_at hl 0 rfl) ?_
    refine tk_get (ci := 6) (C := RX6) (T := TX6) (N := 11) (sp := (0, (-2147483648), 2147483647, 0)) hx hb htl inX6 hown hK hG ht_a0 (by decide) tk_no rfl 6 (by decide) (htl _ mw_482) (fun _ h9 => h9) rfl dX6_wordAmong_8 (fun v9 hf8 hV9 => ?_)
    obtain ⟨v9, rfl, (ha_v9 : (-2147483648) ≤ v9.toInt), (hb_v9 : v9.toInt ≤ 2147483647)⟩ := hV9
    refine lv_iconst (v := 1) hx hb dX6_wordAmong_11 (by decide) ?_
    refine lv_icmp_eq (tgt := 17) hx hb dX6_wordAmong_12 (by decide) (fun c9 => ?_) (fun c9 => ?_)
    · have hc10 : v9.toInt = 1 := (fi_eq rfl (show (1 : Int32).toInt = 1 by decide)).mp c9
      refine lv_iconst (v := 0) hx hb dX6_wordAmong_17 (by decide) ?_
      refine lv_istore_n (lv' := [(2, .int 0), (0, .ref a0), (1, .ref (ld 7))]) hx hb dX6_wordAmong_18 rfl hl (by decide) rfl (fun ls hl => ?_)
      refine lv_iconst (v := 0) hx hb dX6_wordAmong_19 (by decide) ?_
      refine lv_istore_n (lv' := [(3, .int 0), (2, .int 0), (0, .ref a0), (1, .ref (ld 7))]) hx hb dX6_wordAmong_20 rfl hl (by decide) rfl (fun ls hl => ?_)
      refine lv_iconst (v := 0) hx hb dX6_wordAmong_21 (by decide) ?_
      refine lv_istore (lv' := [(4, .int 0), (3, .int 0), (2, .int 0), (0, .ref a0), (1, .ref (ld 7))]) hx hb dX6_wordAmong_22 hl (by decide) rfl (fun ls hl => ?_)
      have hl275 : ∀ (N_l275 : Nat) (v11 : Int32) (v12 : Int32) (v13 : Int32) (H : Heap) (locs : List Loc), v11.toInt ≤ 3 → 0 ≤ v13.toInt → 0 ≤ v11.toInt + (-1) * v12.toInt → 0 ≤ v12.toInt + (-1) * v13.toInt → (-1) * v11.toInt + 3 < (N_l275 : Int) → tk_G D cy ld t [] H → va_S (tk_w t []) s.heap H locs → tk_f D H a0 6 6 (.int v9) → ∀ ls : Array Slot, lv_has ls 5 [(4, .int v11), (3, .int v12), (2, .int v13), (0, .ref a0), (1, .ref (ld 7))] → W p l e ({ frames := 8, cells := 0, slots := 0, locals := 490 }) s m args below meth c H locs 0 0 (MQ below (ti D cy ld t [] (fun r H => (-1) ≤ r.toInt ∧ r.toInt ≤ 2) (tk_w t [])) args s 0 0 (tk_w t [])) (F0 m 24 ls []) := by
        intro N_l275
        induction N_l275 with
        | zero => intro v11 v12 v13 H locs hq0_l275 hq1_l275 hq2_l275 hq3_l275 hm_l275 hG hS hf8 ls hl; exfalso; omega
        | succ N_l275 ih_l275 =>
          intro v11 v12 v13 H locs hq0_l275 hq1_l275 hq2_l275 hq3_l275 hm_l275 hG hS hf8 ls hl
          refine lv_iload hx hb dX6_wordAmong_24 (lv_at hl 0 rfl) ?_
          refine lv_aload_n hx hb dX6_wordAmong_26 rfl (lv_at hl 4 rfl) ?_
          refine tk_Ti (As := []) (rest := [.int v11]) (j := 7) ⟨hx, hb, hml, hown, hts⟩ hK hG hZ hS (k_J0_length_8abf5_7 l D cy ld t) trivial ⟨callB_of 0 hts (wl_in mw_522) rfl rfl rfl (htl _ mw_521) (htl _ mw_518) hd_yJ0_length_8abf5 ⟨(Nat.le_of_ble_eq_true rfl), (Nat.le_of_ble_eq_true rfl)⟩, htl _ mw_519, htl _ mw_520⟩ (by decide) (tk_w.pick [] rfl) rfl hl.1 rfl (Nat.le_of_ble_eq_true rfl) dX6_wordAmong_27 ⟨(Nat.le_of_ble_eq_true rfl), (Nat.le_of_ble_eq_true rfl)⟩ (fun v276 H locs hpo hG hS hq9 => ?_)
          have hf8 := hf8.call hq9 tk_w.nil
          have hpo278 := hpo
          obtain rfl : v276 = 2 := (fi_eq (show v276.toInt = 2 by omega) (by decide)).mpr rfl
          refine lv_icmp_gt (tgt := 80) hx hb dX6_wordAmong_30 (by decide) (fun c9 => ?_) (fun c9 => ?_)
          · have hc279 : 2 < v11.toInt := (fi_lt (show (2 : Int32).toInt = 2 by decide) rfl).mp c9
            refine lv_iconst (v := (-1)) hx hb dX6_wordAmong_80 (by decide) ?_
            have hk_m1 : ((-1) : Int32).toInt = (-1) := by decide
            exact tk_iret (v := (-1)) hx hb hr rfl hlocks (show (-1) ≤ ((-1) : Int32).toInt ∧ ((-1) : Int32).toInt ≤ 2 from ⟨(by omega), (by omega)⟩) hG hS dX6_wordAmong_81
          · have hc279 : ¬ (2 < v11.toInt) := fun h9 => c9 ((fi_lt (show (2 : Int32).toInt = 2 by decide) rfl).mpr h9)
            refine lv_iload hx hb dX6_wordAmong_33 (lv_at hl 0 rfl) ?_
            refine lv_aload_n hx hb dX6_wordAmong_35 rfl (lv_at hl 4 rfl) ?_
            refine tk_Ti (As := []) (rest := [.int v11]) (j := 7) ⟨hx, hb, hml, hown, hts⟩ hK hG hZ hS (k_J0_length_8abf5_7 l D cy ld t) trivial ⟨callB_of 0 hts (wl_in mw_522) rfl rfl rfl (htl _ mw_521) (htl _ mw_518) hd_yJ0_length_8abf5 ⟨(Nat.le_of_ble_eq_true rfl), (Nat.le_of_ble_eq_true rfl)⟩, htl _ mw_519, htl _ mw_520⟩ (by decide) (tk_w.pick [] rfl) rfl hl.1 rfl (Nat.le_of_ble_eq_true rfl) dX6_wordAmong_36 ⟨(Nat.le_of_ble_eq_true rfl), (Nat.le_of_ble_eq_true rfl)⟩ (fun v280 H locs hpo hG hS hq9 => ?_)
            have hf8 := hf8.call hq9 tk_w.nil
            have hpo282 := hpo
            obtain rfl : v280 = 2 := (fi_eq (show v280.toInt = 2 by omega) (by decide)).mpr rfl
            refine lv_icmp_eq (tgt := 53) hx hb dX6_wordAmong_39 (by decide) (fun c9 => ?_) (fun c9 => ?_)
            · have hc283 : v11.toInt = 2 := (fi_eq rfl (show (2 : Int32).toInt = 2 by decide)).mp c9
              refine lv_aload_n hx hb dX6_wordAmong_53 rfl (lv_at hl 3 rfl) ?_
              refine lv_aload_n hx hb dX6_wordAmong_54 rfl (lv_at hl 4 rfl) ?_
              refine lv_iload_n hx hb dX6_wordAmong_55 rfl (lv_at hl 1 rfl) ?_
              refine lv_iload hx hb dX6_wordAmong_56 (lv_at hl 0 rfl) ?_
              refine tk_Vi (As := [.ref (ld 7), .int v12, .int v11]) (rest := []) (ci := 6) ⟨hx, hb, hml, hown, hts⟩ hK hG hZ hS (k_X6_isToken_7 l D cy ld t a0 v12 v11 ht_a0 (by omega) (by omega) (by omega) (by omega)) trivial ⟨callB_of 3 hts (wl_in mw_570) rfl rfl rfl (htl _ mw_36) (htl _ mw_567) hd_yX6_isToken ⟨(Nat.le_of_ble_eq_true rfl), (Nat.le_of_ble_eq_true rfl)⟩, htl _ mw_568, htl _ mw_569⟩ ht_a0 (by decide) tk_no rfl (tk_w.pick [] rfl) rfl hl.1 rfl (Nat.le_of_ble_eq_true rfl) dX6_wordAmong_58 ⟨(Nat.le_of_ble_eq_true rfl), (Nat.le_of_ble_eq_true rfl)⟩ (fun v284 H locs hpo hG hS hq9 => ?_)
              have hf8 := hf8.call hq9 tk_w.nil
              obtain ⟨hpo286, hpo287, hpo288, hpo289⟩ := hpo
              refine lv_if_eq (tgt := 66) hx hb dX6_wordAmong_61 (by decide) (fun c9 => ?_) (fun c9 => ?_)
              · have hc290 : v284.toInt = 0 := (fi_eq rfl (show (0 : Int32).toInt = 0 by decide)).mp c9
                obtain ⟨v291, h_v291, e_v291⟩ := tk_inc v13 1 (by decide) (by omega) (by omega)
                refine lv_iinc (v := v291) (lv' := [(2, .int v291), (4, .int v11), (3, .int v12), (0, .ref a0), (1, .ref (ld 7))]) hx hb dX6_wordAmong_66 hl (k := 2) rfl e_v291 (by decide) rfl (fun ls hl => ?_)
                refine lv_iload hx hb dX6_wordAmong_69 (lv_at hl 1 rfl) ?_
                refine lv_iconst (v := 1) hx hb dX6_wordAmong_71 (by decide) ?_
                refine lv_iadd hx hb dX6_wordAmong_72 ?_
                refine tk_add rfl (show (1 : Int32).toInt = 1 by decide) (by omega) (by omega) (fun v292 h_v292 => ?_)
                refine lv_istore_n (lv' := [(3, .int v292), (2, .int v291), (4, .int v11), (0, .ref a0), (1, .ref (ld 7))]) hx hb dX6_wordAmong_73 rfl hl (by decide) rfl (fun ls hl => ?_)
                obtain ⟨v293, h_v293, e_v293⟩ := tk_inc v11 1 (by decide) (by omega) (by omega)
                refine lv_iinc (v := v293) (lv' := [(4, .int v293), (3, .int v292), (2, .int v291), (0, .ref a0), (1, .ref (ld 7))]) hx hb dX6_wordAmong_74 hl (k := 2) rfl e_v293 (by decide) rfl (fun ls hl => ?_)
                refine lv_goto (tgt := 24) hx hb dX6_wordAmong_77 (by decide) ?_
                exact ih_l275 v293 v292 v291 _ _ (by omega) (by omega) (by omega) (by omega) (by omega) hG hS hf8 _ (lv_sub hl [0, 1, 2, 3, 4] rfl)
              · have hc290 : ¬ (v284.toInt = 0) := fun h9 => c9 ((fi_eq rfl (show (0 : Int32).toInt = 0 by decide)).mpr h9)
                refine lv_iload_n hx hb dX6_wordAmong_64 rfl (lv_at hl 2 rfl) ?_
                exact tk_iret (v := v13) hx hb hr rfl hlocks (show (-1) ≤ v13.toInt ∧ v13.toInt ≤ 2 from ⟨(by omega), (by omega)⟩) hG hS dX6_wordAmong_65
            · have hc283 : ¬ (v11.toInt = 2) := fun h9 => c9 ((fi_eq rfl (show (2 : Int32).toInt = 2 by decide)).mpr h9)
              refine lv_aload_n hx hb dX6_wordAmong_42 rfl (lv_at hl 4 rfl) ?_
              refine lv_iload hx hb dX6_wordAmong_43 (lv_at hl 0 rfl) ?_
              refine tk_Ti (As := [.int v11]) (rest := []) (j := 7) ⟨hx, hb, hml, hown, hts⟩ hK hG hZ hS (k_J0_charAt_5068e_7 l D cy ld t v11 (by omega) (by omega)) trivial ⟨callB_of 1 hts (wl_in mw_533) rfl rfl rfl (htl _ mw_521) (htl _ mw_530) hd_yJ0_charAt_5068e ⟨(Nat.le_of_ble_eq_true rfl), (Nat.le_of_ble_eq_true rfl)⟩, htl _ mw_531, htl _ mw_532⟩ (by decide) (tk_w.pick [] rfl) rfl hl.1 rfl (Nat.le_of_ble_eq_true rfl) dX6_wordAmong_45 ⟨(Nat.le_of_ble_eq_true rfl), (Nat.le_of_ble_eq_true rfl)⟩ (fun v294 H locs hpo hG hS hq9 => ?_)
              have hf8 := hf8.call hq9 tk_w.nil
              obtain ⟨hpo296, hpo297⟩ := hpo
              refine lv_bipush (v := 32) hx hb dX6_wordAmong_48 (by decide) ?_
              refine lv_icmp_ne (tgt := 74) hx hb dX6_wordAmong_50 (by decide) (fun c9 => ?_) (fun c9 => ?_)
              · have hc298 : ¬ (v294.toInt = 32) := fun h9 => c9 ((fi_eq rfl (show (32 : Int32).toInt = 32 by decide)).mpr h9)
                obtain ⟨v299, h_v299, e_v299⟩ := tk_inc v11 1 (by decide) (by omega) (by omega)
                refine lv_iinc (v := v299) (lv' := [(4, .int v299), (3, .int v12), (2, .int v13), (0, .ref a0), (1, .ref (ld 7))]) hx hb dX6_wordAmong_74 hl (k := 0) rfl e_v299 (by decide) rfl (fun ls hl => ?_)
                refine lv_goto (tgt := 24) hx hb dX6_wordAmong_77 (by decide) ?_
                exact ih_l275 v299 v12 v13 _ _ (by omega) (by omega) (by omega) (by omega) (by omega) hG hS hf8 _ (lv_sub hl [0, 1, 2, 3, 4] rfl)
              · have hc298 : v294.toInt = 32 := (fi_eq rfl (show (32 : Int32).toInt = 32 by decide)).mp c9
                refine lv_aload_n hx hb dX6_wordAmong_53 rfl (lv_at hl 3 rfl) ?_
                refine lv_aload_n hx hb dX6_wordAmong_54 rfl (lv_at hl 4 rfl) ?_
                refine lv_iload_n hx hb dX6_wordAmong_55 rfl (lv_at hl 1 rfl) ?_
                refine lv_iload hx hb dX6_wordAmong_56 (lv_at hl 0 rfl) ?_
                refine tk_Vi (As := [.ref (ld 7), .int v12, .int v11]) (rest := []) (ci := 6) ⟨hx, hb, hml, hown, hts⟩ hK hG hZ hS (k_X6_isToken_7 l D cy ld t a0 v12 v11 ht_a0 (by omega) (by omega) (by omega) (by omega)) trivial ⟨callB_of 3 hts (wl_in mw_570) rfl rfl rfl (htl _ mw_36) (htl _ mw_567) hd_yX6_isToken ⟨(Nat.le_of_ble_eq_true rfl), (Nat.le_of_ble_eq_true rfl)⟩, htl _ mw_568, htl _ mw_569⟩ ht_a0 (by decide) tk_no rfl (tk_w.pick [] rfl) rfl hl.1 rfl (Nat.le_of_ble_eq_true rfl) dX6_wordAmong_58 ⟨(Nat.le_of_ble_eq_true rfl), (Nat.le_of_ble_eq_true rfl)⟩ (fun v300 H locs hpo hG hS hq9 => ?_)
                have hf8 := hf8.call hq9 tk_w.nil
                obtain ⟨hpo302, hpo303, hpo304, hpo305⟩ := hpo
                refine lv_if_eq (tgt := 66) hx hb dX6_wordAmong_61 (by decide) (fun c9 => ?_) (fun c9 => ?_)
                · have hc306 : v300.toInt = 0 := (fi_eq rfl (show (0 : Int32).toInt = 0 by decide)).mp c9
                  obtain ⟨v307, h_v307, e_v307⟩ := tk_inc v13 1 (by decide) (by omega) (by omega)
                  refine lv_iinc (v := v307) (lv' := [(2, .int v307), (4, .int v11), (3, .int v12), (0, .ref a0), (1, .ref (ld 7))]) hx hb dX6_wordAmong_66 hl (k := 2) rfl e_v307 (by decide) rfl (fun ls hl => ?_)
                  refine lv_iload hx hb dX6_wordAmong_69 (lv_at hl 1 rfl) ?_
                  refine lv_iconst (v := 1) hx hb dX6_wordAmong_71 (by decide) ?_
                  refine lv_iadd hx hb dX6_wordAmong_72 ?_
                  refine tk_add rfl (show (1 : Int32).toInt = 1 by decide) (by omega) (by omega) (fun v308 h_v308 => ?_)
                  refine lv_istore_n (lv' := [(3, .int v308), (2, .int v307), (4, .int v11), (0, .ref a0), (1, .ref (ld 7))]) hx hb dX6_wordAmong_73 rfl hl (by decide) rfl (fun ls hl => ?_)
                  obtain ⟨v309, h_v309, e_v309⟩ := tk_inc v11 1 (by decide) (by omega) (by omega)
                  refine lv_iinc (v := v309) (lv' := [(4, .int v309), (3, .int v308), (2, .int v307), (0, .ref a0), (1, .ref (ld 7))]) hx hb dX6_wordAmong_74 hl (k := 2) rfl e_v309 (by decide) rfl (fun ls hl => ?_)
                  refine lv_goto (tgt := 24) hx hb dX6_wordAmong_77 (by decide) ?_
                  exact ih_l275 v309 v308 v307 _ _ (by omega) (by omega) (by omega) (by omega) (by omega) hG hS hf8 _ (lv_sub hl [0, 1, 2, 3, 4] rfl)
                · have hc306 : ¬ (v300.toInt = 0) := fun h9 => c9 ((fi_eq rfl (show (0 : Int32).toInt = 0 by decide)).mpr h9)
                  refine lv_iload_n hx hb dX6_wordAmong_64 rfl (lv_at hl 2 rfl) ?_
                  exact tk_iret (v := v13) hx hb hr rfl hlocks (show (-1) ≤ v13.toInt ∧ v13.toInt ≤ 2 from ⟨(by omega), (by omega)⟩) hG hS dX6_wordAmong_65
      have hk_0 : (0 : Int32).toInt = 0 := by decide
      have hk_0 : (0 : Int32).toInt = 0 := by decide
      have hk_0 : (0 : Int32).toInt = 0 := by decide
      exact hl275 4 0 0 0 _ _ (by omega) (by omega) (by omega) (by omega) (by omega) hG hS hf8 _ (lv_sub hl [0, 1, 2, 3, 4] rfl)
    · have hc10 : ¬ (v9.toInt = 1) := fun h9 => c9 ((fi_eq rfl (show (1 : Int32).toInt = 1 by decide)).mpr h9)
      refine lv_iconst (v := (-1)) hx hb dX6_wordAmong_15 (by decide) ?_
      have hk_m1 : ((-1) : Int32).toInt = (-1) := by decide
      exact tk_iret (v := (-1)) hx hb hr rfl hlocks (show (-1) ≤ ((-1) : Int32).toInt ∧ ((-1) : Int32).toInt ≤ 2 from ⟨(by omega), (by omega)⟩) hG hS dX6_wordAmong_16
