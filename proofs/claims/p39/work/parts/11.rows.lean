set_option maxHeartbeats 4000000 in
set_option maxRecDepth 100000 in
theorem k_X5_chooseFrom_0 (l : Launch) (D : va_G) (cy : Nat → ClassId) (ld : Nat → Nat) (t : tk_T) (a0 : Nat) (p2 : Int32) (p3 : Int32) (p4 : Int32) (ht_a0 : t a0 = (6, 0, 0)) : Met l yX5_chooseFrom (wl yX5_chooseFrom cX5_chooseFrom 7 none) ({ frames := 12, cells := 0, slots := 0, locals := 770 }) (tp D cy ld t [] [.ref a0, .int 0, .int p2, .int p3, .int p4] (fun H => True)) (tv D cy ld t [] (fun H => True) (tk_w t [(20, 0, 0), (6, 0, 0)])) 0 0 (tk_w t [(20, 0, 0), (6, 0, 0)]) := by
  refine tk_met (y := yX5_chooseFrom) (cc := cX5_chooseFrom) (maxL := 7) (ret := none) (av := [.ref a0, .int 0, .int p2, .int p3, .int p4]) _ _ (by decide) (Nat.le_of_ble_eq_true rfl) ?_
  intro p e s m args below meth c hx hb hr hml hts htl hown hlocks hK H locs hH hG hS hB hZ ls hl
  have hown : s.vm.findClass RX5 = some m.cls := hown
  have hl : lv_has ls 7 [(0, .ref a0), (1, .int 0), (2, .int p2), (3, .int p3), (4, .int p4)] := hl
  have hr_p2 := tk_rng p2
  have hr_p3 := tk_rng p3
  have hr_p4 := tk_rng p4
  refine lv_iload_n hx hb dX5_chooseFrom_0 rfl (lv_at hl 1 rfl) ?_
  refine lv_aload_n hx hb dX5_chooseFrom_1 rfl (lv_at hl 0 rfl) ?_
  refine tk_get (ci := 5) (C := RX5) (T := TX5) (N := 11) (sp := (8, 20, 3, 0)) hx hb htl inX5 hown hK hG ht_a0 (by decide) tk_no rfl 0 (by decide) (htl _ mw_155) (fun _ h9 => h9) rfl dX5_chooseFrom_2 (fun v9 hf1 hV9 => ?_)
  obtain ⟨rfl, ht_ld20⟩ := hV9
  have ht_ld20 : t (ld 20) = (3, 0, 0) := ht_ld20
  refine fx_top (v := .ref (ld 20)) rfl ?_
  refine tk_get (ci := 2) (C := RX2) (T := TX2) (N := 20) (sp := (0, 0, 8, 0)) hx hb htl inX2 hown hK hG ht_ld20 (by decide) tk_no rfl 0 (by decide) (htl _ mw_1419) (fun _ h9 => h9) rfl dX5_chooseFrom_5 (fun v9 hf2 hV9 => ?_)
  obtain ⟨v3, rfl, ha_v3, hb_v3⟩ := hV9
  refine lv_icmp_lt (tgt := 63) hx hb dX5_chooseFrom_8 (by decide) (fun c9 => ?_) (fun c9 => ?_)
  · have hc4 : 0 < v3.toInt := (fi_lt (by decide) rfl).mp c9
    refine lv_aload_n hx hb dX5_chooseFrom_63 rfl (lv_at hl 0 rfl) ?_
    refine tk_get (ci := 5) (C := RX5) (T := TX5) (N := 11) (sp := (8, 20, 3, 0)) hx hb htl inX5 hown hK hG ht_a0 (by decide) tk_no rfl 0 (by decide) (htl _ mw_155) (fun _ h9 => h9) rfl dX5_chooseFrom_64 (fun v9 hf5 hV9 => ?_)
    obtain ⟨rfl, ht_ld20⟩ := hV9
    have ht_ld20 : t (ld 20) = (3, 0, 0) := ht_ld20
    refine fx_top (v := .ref (ld 20)) rfl ?_
    refine tk_get (ci := 2) (C := RX2) (T := TX2) (N := 20) (sp := (1, 21, 8, 0)) hx hb htl inX2 hown hK hG ht_ld20 (by decide) tk_no rfl 2 (by decide) (htl _ mw_1420) (fun _ h9 => h9) rfl dX5_chooseFrom_67 (fun v9 hf6 hV9 => ?_)
    obtain ⟨b7, rfl, ht_b7⟩ := hV9
    have ht_b7 : t b7 = (21, 8, 0) := ht_b7
    refine lv_iload_n hx hb dX5_chooseFrom_70 rfl (lv_at hl 1 rfl) ?_
    refine tk_iald hx hb hK hG ht_b7 (by decide) (fun _ h => h) tk_no (I := 0) (by decide) (by decide) (by decide) dX5_chooseFrom_71 (fun v8 hE9 _ => ?_)
    have he_v8 : 0 ≤ v8.toInt ∧ v8.toInt ≤ 1 := hE9
    have hj486 : ∀ (H : Heap) (locs : List Loc), tk_G D cy ld t [] H → va_S (tk_w t [(20, 0, 0), (6, 0, 0)]) s.heap H locs → tk_f D H (ld 20) 2 0 (.int v3) → ∀ ls : Array Slot, lv_has ls 7 [(0, .ref a0), (1, .int 0), (2, .int p2), (3, .int p3), (4, .int p4)] → W p l e ({ frames := 12, cells := 0, slots := 0, locals := 770 }) s m args below meth c H locs 0 0 (MQ below (tv D cy ld t [] (fun H => True) (tk_w t [(20, 0, 0), (6, 0, 0)])) args s 0 0 (tk_w t [(20, 0, 0), (6, 0, 0)])) (F0 m 176 ls []) := by
      intro H locs hG hS hf2 ls hl
      refine lv_aload_n hx hb dX5_chooseFrom_176 rfl (lv_at hl 0 rfl) ?_
      refine tk_get (ci := 5) (C := RX5) (T := TX5) (N := 11) (sp := (6, 20, 8, 0)) hx hb htl inX5 hown hK hG ht_a0 (by decide) tk_no rfl 7 (by decide) (htl _ mw_153) (fun _ h9 => h9) rfl dX5_chooseFrom_177 (fun v9 hf487 hV9 => ?_)
      obtain ⟨b488, rfl, ht_b488⟩ := hV9
      have ht_b488 : t b488 = (20, 8, 0) := ht_b488
      refine lv_iload_n hx hb dX5_chooseFrom_180 rfl (lv_at hl 1 rfl) ?_
      refine lv_bipush (v := 100) hx hb dX5_chooseFrom_181 (by decide) ?_
      refine tk_iast hx hb hK hG hS ht_b488 (by decide) (fun _ => Iff.rfl) tk_no (I := 0) (by decide) (by decide) (by decide) trivial (tk_w.of ht_b488 (by decide) (List.mem_of_getElem? (i := 0) rfl) (Nat.le_refl _) (Nat.le_refl _)) dX5_chooseFrom_183 (fun H locs hG hS hq9 => ?_)
      have hf2 := hf2.kept (hq9 _ (tk_ne ht_ld20 ht_b488 (Or.inl (by decide))))
      refine lv_aload_n hx hb dX5_chooseFrom_184 rfl (lv_at hl 0 rfl) ?_
      refine lv_iload_n hx hb dX5_chooseFrom_185 rfl (lv_at hl 1 rfl) ?_
      refine lv_iconst (v := 1) hx hb dX5_chooseFrom_186 (by decide) ?_
      refine lv_iadd hx hb dX5_chooseFrom_187 ?_
      refine fx_ti (v := 1) (by decide) ?_
      refine lv_iload_n hx hb dX5_chooseFrom_188 rfl (lv_at hl 2 rfl) ?_
      refine lv_iload_n hx hb dX5_chooseFrom_189 rfl (lv_at hl 3 rfl) ?_
      refine lv_iload hx hb dX5_chooseFrom_190 (lv_at hl 4 rfl) ?_
      have hk_1 : (1 : Int32).toInt = 1 := by decide
      refine tk_Vv (As := [.int 1, .int p2, .int p3, .int p4]) (rest := []) (ci := 5) ⟨hx, hb, hml, hown, hts⟩ hK hG hZ hS (k_X5_chooseFrom_1 l D cy ld t a0 p2 p3 p4 ht_a0) trivial ⟨callB_of 4 hts (wl_in mw_1427) rfl rfl rfl (htl _ mw_40) (htl _ mw_1424) hd_yX5_chooseFrom ⟨(Nat.le_of_ble_eq_true rfl), (Nat.le_of_ble_eq_true rfl)⟩, htl _ mw_1425, htl _ mw_1426⟩ ht_a0 (by decide) tk_no rfl (tk_w.pick [0, 1] rfl) rfl hl.1 rfl (Nat.le_of_ble_eq_true rfl) dX5_chooseFrom_192 ⟨(Nat.le_of_ble_eq_true rfl), (Nat.le_of_ble_eq_true rfl)⟩ (fun H locs hpo hG hS hq9 => ?_)
      have hf2 := hf2.call hq9 (tk_w.no ht_ld20 (by decide))
      exact tk_vret hx hb hr hlocks trivial hG hS dX5_chooseFrom_195
    refine lv_if_ne (tgt := 176) hx hb dX5_chooseFrom_72 (by decide) (fun c9 => ?_) (fun c9 => ?_)
    · have hc9 : ¬ (v8.toInt = 0) := fun h9 => c9 ((fi_eq rfl (by decide)).mpr h9)
      exact hj486 _ _ hG hS hf2 _ (lv_sub hl [0, 1, 2, 3, 4] rfl)
    · have hc9 : v8.toInt = 0 := (fi_eq rfl (by decide)).mp c9
      refine lv_iconst (v := 0) hx hb dX5_chooseFrom_75 (by decide) ?_
      refine lv_istore (lv' := [(5, .int 0), (0, .ref a0), (1, .int 0), (2, .int p2), (3, .int p3), (4, .int p4)]) hx hb dX5_chooseFrom_76 hl (by decide) rfl (fun ls hl => ?_)
      have hl905 : ∀ (N : Nat) (v491 : Int32) (H : Heap) (locs : List Loc), v491.toInt ≤ 8 → 0 ≤ v491.toInt → (-1) * v491.toInt + 8 < (N : Int) → tk_G D cy ld t [] H → va_S (tk_w t [(20, 0, 0), (6, 0, 0)]) s.heap H locs → tk_f D H (ld 20) 2 0 (.int v3) → ∀ ls : Array Slot, lv_has ls 7 [(5, .int v491), (0, .ref a0), (1, .int 0), (2, .int p2), (3, .int p3), (4, .int p4)] → W p l e ({ frames := 12, cells := 0, slots := 0, locals := 770 }) s m args below meth c H locs 0 0 (MQ below (tv D cy ld t [] (fun H => True) (tk_w t [(20, 0, 0), (6, 0, 0)])) args s 0 0 (tk_w t [(20, 0, 0), (6, 0, 0)])) (F0 m 78 ls []) := by
        intro N
        induction N with
        | zero => intro v491 H locs hq0_l905 hq1_l905 hm_l905 hG hS hf2 ls hl; exfalso; omega
        | succ N ih =>
          intro v491 H locs hq0_l905 hq1_l905 hm_l905 hG hS hf2 ls hl
          refine lv_iload hx hb dX5_chooseFrom_78 (lv_at hl 0 rfl) ?_
          refine lv_aload_n hx hb dX5_chooseFrom_80 rfl (lv_at hl 1 rfl) ?_
          refine tk_get (ci := 5) (C := RX5) (T := TX5) (N := 11) (sp := (8, 20, 3, 0)) hx hb htl inX5 hown hK hG ht_a0 (by decide) tk_no rfl 0 (by decide) (htl _ mw_155) (fun _ h9 => h9) rfl dX5_chooseFrom_81 (fun v9 hf906 hV9 => ?_)
          obtain ⟨rfl, ht_ld20⟩ := hV9
          have ht_ld20 : t (ld 20) = (3, 0, 0) := ht_ld20
          refine fx_top (v := .ref (ld 20)) rfl ?_
          refine tk_getk (ci := 2) (C := RX2) (T := TX2) (N := 20) (sp := (0, 0, 8, 0)) hx hb htl inX2 hown hK hG ht_ld20 (by decide) tk_no rfl 0 (by decide) (htl _ mw_1419) (fun _ h9 => h9) rfl hf2 dX5_chooseFrom_84 ?_
          refine lv_icmp_ge (tgt := 176) hx hb dX5_chooseFrom_87 (by decide) (fun c9 => ?_) (fun c9 => ?_)
          · have hc907 : v3.toInt ≤ v491.toInt := (fi_le rfl rfl).mp c9
            exact hj486 _ _ hG hS hf2 _ (lv_sub hl [1, 2, 3, 4, 5] rfl)
          · have hc907 : ¬ (v3.toInt ≤ v491.toInt) := fun h9 => c9 ((fi_le rfl rfl).mpr h9)
            refine lv_aload_n hx hb dX5_chooseFrom_90 rfl (lv_at hl 1 rfl) ?_
            refine tk_get (ci := 5) (C := RX5) (T := TX5) (N := 11) (sp := (8, 20, 3, 0)) hx hb htl inX5 hown hK hG ht_a0 (by decide) tk_no rfl 0 (by decide) (htl _ mw_155) (fun _ h9 => h9) rfl dX5_chooseFrom_91 (fun v9 hf908 hV9 => ?_)
            obtain ⟨rfl, ht_ld20⟩ := hV9
            have ht_ld20 : t (ld 20) = (3, 0, 0) := ht_ld20
            refine fx_top (v := .ref (ld 20)) rfl ?_
            refine tk_get (ci := 2) (C := RX2) (T := TX2) (N := 20) (sp := (1, 21, 8, 0)) hx hb htl inX2 hown hK hG ht_ld20 (by decide) tk_no rfl 2 (by decide) (htl _ mw_1420) (fun _ h9 => h9) rfl dX5_chooseFrom_94 (fun v9 hf909 hV9 => ?_)
            obtain ⟨b910, rfl, ht_b910⟩ := hV9
            have ht_b910 : t b910 = (21, 8, 0) := ht_b910
            refine lv_iload hx hb dX5_chooseFrom_97 (lv_at hl 0 rfl) ?_
            refine tk_iald hx hb hK hG ht_b910 (by decide) (fun _ h => h) tk_no rfl (by omega) (by omega) dX5_chooseFrom_99 (fun v911 hE9 _ => ?_)
            have he_v911 : 0 ≤ v911.toInt ∧ v911.toInt ≤ 1 := hE9
            refine lv_iconst (v := 1) hx hb dX5_chooseFrom_100 (by decide) ?_
            have hj939 : ∀ (H : Heap) (locs : List Loc), tk_G D cy ld t [] H → va_S (tk_w t [(20, 0, 0), (6, 0, 0)]) s.heap H locs → tk_f D H (ld 20) 2 0 (.int v3) → ∀ ls : Array Slot, lv_has ls 7 [(5, .int v491), (0, .ref a0), (1, .int 0), (2, .int p2), (3, .int p3), (4, .int p4)] → W p l e ({ frames := 12, cells := 0, slots := 0, locals := 770 }) s m args below meth c H locs 0 0 (MQ below (tv D cy ld t [] (fun H => True) (tk_w t [(20, 0, 0), (6, 0, 0)])) args s 0 0 (tk_w t [(20, 0, 0), (6, 0, 0)])) (F0 m 170 ls []) := by
              intro H locs hG hS hf2 ls hl
              obtain ⟨v940, h_v940, e_v940⟩ := tk_inc v491 1 (by decide) (by omega) (by omega)
              refine lv_iinc (v := v940) (lv' := [(5, .int v940), (0, .ref a0), (1, .int 0), (2, .int p2), (3, .int p3), (4, .int p4)]) hx hb dX5_chooseFrom_170 hl (k := 0) rfl e_v940 (by decide) rfl (fun ls hl => ?_)
              refine lv_goto (tgt := 78) hx hb dX5_chooseFrom_173 (by decide) ?_
              exact ih v940 _ _ (by omega) (by omega) (by omega) hG hS hf2 _ (lv_sub hl [0, 1, 2, 3, 4, 5] rfl)
            refine lv_icmp_ne (tgt := 170) hx hb dX5_chooseFrom_101 (by decide) (fun c9 => ?_) (fun c9 => ?_)
            · have hc912 : ¬ (v911.toInt = 1) := fun h9 => c9 ((fi_eq rfl (by decide)).mpr h9)
              exact hj939 _ _ hG hS hf2 _ (lv_sub hl [0, 1, 2, 3, 4, 5] rfl)
            · have hc912 : v911.toInt = 1 := (fi_eq rfl (by decide)).mp c9
              refine lv_iload_n hx hb dX5_chooseFrom_104 rfl (lv_at hl 3 rfl) ?_
              refine lv_iload hx hb dX5_chooseFrom_105 (lv_at hl 0 rfl) ?_
              refine lv_ishr hx hb dX5_chooseFrom_107 ?_
              refine tk_any (fun v941 => ?_)
              refine lv_iconst (v := 1) hx hb dX5_chooseFrom_108 (by decide) ?_
              refine lv_iand hx hb dX5_chooseFrom_109 ?_
              refine tk_say (P := fun z => 0 ≤ z.toInt ∧ z.toInt ≤ 1) (tk_and v941 1 (by decide) (by decide)) (fun v942 h_v942 => ?_)
              refine lv_if_ne (tgt := 170) hx hb dX5_chooseFrom_110 (by decide) (fun c9 => ?_) (fun c9 => ?_)
              · have hc943 : ¬ (v942.toInt = 0) := fun h9 => c9 ((fi_eq rfl (by decide)).mpr h9)
                exact hj939 _ _ hG hS hf2 _ (lv_sub hl [0, 1, 2, 3, 4, 5] rfl)
              · have hc943 : v942.toInt = 0 := (fi_eq rfl (by decide)).mp c9
                refine lv_aload_n hx hb dX5_chooseFrom_113 rfl (lv_at hl 1 rfl) ?_
                refine tk_get (ci := 5) (C := RX5) (T := TX5) (N := 11) (sp := (6, 30, 8, 0)) hx hb htl inX5 hown hK hG ht_a0 (by decide) tk_no rfl 6 (by decide) (htl _ mw_152) (fun _ h9 => h9) rfl dX5_chooseFrom_114 (fun v9 hf944 hV9 => ?_)
                obtain ⟨b945, rfl, ht_b945⟩ := hV9
                have ht_b945 : t b945 = (30, 8, 0) := ht_b945
                refine lv_iload_n hx hb dX5_chooseFrom_117 rfl (lv_at hl 2 rfl) ?_
                refine tk_aald hx hb hK hG 6 rfl rfl ht_b945 (by decide) (fun _ h => h) tk_no (I := 0) (by decide) (by decide) (by decide) dX5_chooseFrom_118 (fun o946 ht_o946 => ?_)
                obtain ⟨b947, rfl, ht_b947⟩ := ht_o946
                have ht_b947 : t b947 = (20, 8, 0) := ht_b947
                refine fx_top (v := .ref b947) rfl ?_
                refine lv_iload hx hb dX5_chooseFrom_119 (lv_at hl 0 rfl) ?_
                refine tk_iald hx hb hK hG ht_b947 (by decide) (fun _ h => h) tk_no rfl (by omega) (by omega) dX5_chooseFrom_121 (fun v948 _ _ => ?_)
                have hr_v948 := tk_rng v948
                refine lv_istore (lv' := [(6, .int v948), (5, .int v491), (0, .ref a0), (1, .int 0), (2, .int p2), (3, .int p3), (4, .int p4)]) hx hb dX5_chooseFrom_122 hl (by decide) rfl (fun ls hl => ?_)
                refine lv_aload_n hx hb dX5_chooseFrom_124 rfl (lv_at hl 2 rfl) ?_
                refine tk_get (ci := 5) (C := RX5) (T := TX5) (N := 11) (sp := (6, 20, 8, 0)) hx hb htl inX5 hown hK hG ht_a0 (by decide) tk_no rfl 7 (by decide) (htl _ mw_153) (fun _ h9 => h9) rfl dX5_chooseFrom_125 (fun v9 hf949 hV9 => ?_)
                obtain ⟨b950, rfl, ht_b950⟩ := hV9
                have ht_b950 : t b950 = (20, 8, 0) := ht_b950
                refine lv_iload_n hx hb dX5_chooseFrom_128 rfl (lv_at hl 3 rfl) ?_
                refine lv_iload hx hb dX5_chooseFrom_129 (lv_at hl 1 rfl) ?_
                refine tk_iast hx hb hK hG hS ht_b950 (by decide) (fun _ => Iff.rfl) tk_no (I := 0) (by decide) (by decide) (by decide) trivial (tk_w.of ht_b950 (by decide) (List.mem_of_getElem? (i := 0) rfl) (Nat.le_refl _) (Nat.le_refl _)) dX5_chooseFrom_131 (fun H locs hG hS hq9 => ?_)
                have hf2 := hf2.kept (hq9 _ (tk_ne ht_ld20 ht_b950 (Or.inl (by decide))))
                refine lv_aload_n hx hb dX5_chooseFrom_132 rfl (lv_at hl 2 rfl) ?_
                refine lv_iload_n hx hb dX5_chooseFrom_133 rfl (lv_at hl 3 rfl) ?_
                refine lv_iconst (v := 1) hx hb dX5_chooseFrom_134 (by decide) ?_
                refine lv_iadd hx hb dX5_chooseFrom_135 ?_
                refine fx_ti (v := 1) (by decide) ?_
                refine lv_iload_n hx hb dX5_chooseFrom_136 rfl (lv_at hl 4 rfl) ?_
                refine lv_iconst (v := 1) hx hb dX5_chooseFrom_137 (by decide) ?_
                refine lv_iload hx hb dX5_chooseFrom_138 (lv_at hl 1 rfl) ?_
                refine lv_ishl hx hb dX5_chooseFrom_140 ?_
                refine tk_say (P := fun z => 1 ≤ z.toInt ∧ z.toInt ≤ 1024) (tk_shl1 v491 (by omega) (by omega)) (fun v952 h_v952 => ?_)
                refine lv_ior hx hb dX5_chooseFrom_141 ?_
                refine tk_any (fun v953 => ?_)
                refine lv_iload_n hx hb dX5_chooseFrom_142 rfl (lv_at hl 5 rfl) ?_
                refine lv_iload hx hb dX5_chooseFrom_143 (lv_at hl 0 rfl) ?_
                have hj957 : ∀ (v956 : Int32), 0 ≤ v956.toInt → v956.toInt ≤ 1 → ∀ ls : Array Slot, lv_has ls 7 [(6, .int v948), (5, .int v491), (0, .ref a0), (1, .int 0), (2, .int p2), (3, .int p3), (4, .int p4)] → W p l e ({ frames := 12, cells := 0, slots := 0, locals := 770 }) s m args below meth c H locs 0 0 (MQ below (tv D cy ld t [] (fun H => True) (tk_w t [(20, 0, 0), (6, 0, 0)])) args s 0 0 (tk_w t [(20, 0, 0), (6, 0, 0)])) (F0 m 153 ls [.int v956, .int p3, .int v953, .int 1, .ref a0]) := by
                  intro v956 hq0_j957 hq1_j957 ls hl
                  refine lv_iadd hx hb dX5_chooseFrom_153 ?_
                  obtain ⟨v958, hm_v958⟩ : ∃ z : Int32, p3 + v956 = z := ⟨_, rfl⟩
                  refine fx_ti hm_v958 ?_
                  refine lv_iload hx hb dX5_chooseFrom_154 (lv_at hl 6 rfl) ?_
                  refine lv_iload hx hb dX5_chooseFrom_156 (lv_at hl 0 rfl) ?_
                  have hj962 : ∀ (v961 : Int32), 0 ≤ v961.toInt → v961.toInt ≤ 1 → ∀ ls : Array Slot, lv_has ls 7 [(5, .int v491), (0, .ref a0), (1, .int 0), (2, .int p2), (3, .int p3), (4, .int p4)] → W p l e ({ frames := 12, cells := 0, slots := 0, locals := 770 }) s m args below meth c H locs 0 0 (MQ below (tv D cy ld t [] (fun H => True) (tk_w t [(20, 0, 0), (6, 0, 0)])) args s 0 0 (tk_w t [(20, 0, 0), (6, 0, 0)])) (F0 m 166 ls [.int v961, .int p4, .int v958, .int v953, .int 1, .ref a0]) := by
                    intro v961 hq0_j962 hq1_j962 ls hl
                    refine lv_iadd hx hb dX5_chooseFrom_166 ?_
                    obtain ⟨v963, hm_v963⟩ : ∃ z : Int32, p4 + v961 = z := ⟨_, rfl⟩
                    refine fx_ti hm_v963 ?_
                    have hk_1 : (1 : Int32).toInt = 1 := by decide
                    refine tk_Vv (As := [.int 1, .int v953, .int v958, .int v963]) (rest := []) (ci := 5) ⟨hx, hb, hml, hown, hts⟩ hK hG hZ hS (k_X5_chooseFrom_1 l D cy ld t a0 v953 v958 v963 ht_a0) trivial ⟨callB_of 4 hts (wl_in mw_1427) rfl rfl rfl (htl _ mw_40) (htl _ mw_1424) hd_yX5_chooseFrom ⟨(Nat.le_of_ble_eq_true rfl), (Nat.le_of_ble_eq_true rfl)⟩, htl _ mw_1425, htl _ mw_1426⟩ ht_a0 (by decide) tk_no rfl (tk_w.pick [0, 1] rfl) rfl hl.1 rfl (Nat.le_of_ble_eq_true rfl) dX5_chooseFrom_167 ⟨(Nat.le_of_ble_eq_true rfl), (Nat.le_of_ble_eq_true rfl)⟩ (fun H locs hpo hG hS hq9 => ?_)
                    have hf2 := hf2.call hq9 (tk_w.no ht_ld20 (by decide))
                    exact hj939 _ _ hG hS hf2 _ (lv_sub hl [0, 1, 2, 3, 4, 5] rfl)
                  refine lv_if_ge (tgt := 165) hx hb dX5_chooseFrom_158 (by decide) (fun c9 => ?_) (fun c9 => ?_)
                  · have hc959 : 0 ≤ v948.toInt := (fi_le (by decide) rfl).mp c9
                    refine lv_iconst (v := 0) hx hb dX5_chooseFrom_165 (by decide) ?_
                    have hk_0 : (0 : Int32).toInt = 0 := by decide
                    exact hj962 0 (by omega) (by omega) _ (lv_sub hl [1, 2, 3, 4, 5, 6] rfl)
                  · have hc959 : ¬ (0 ≤ v948.toInt) := fun h9 => c9 ((fi_le (by decide) rfl).mpr h9)
                    refine lv_iconst (v := 1) hx hb dX5_chooseFrom_161 (by decide) ?_
                    refine lv_goto (tgt := 166) hx hb dX5_chooseFrom_162 (by decide) ?_
                    have hk_1 : (1 : Int32).toInt = 1 := by decide
                    exact hj962 1 (by omega) (by omega) _ (lv_sub hl [1, 2, 3, 4, 5, 6] rfl)
                refine lv_if_le (tgt := 152) hx hb dX5_chooseFrom_145 (by decide) (fun c9 => ?_) (fun c9 => ?_)
                · have hc954 : v948.toInt ≤ 0 := (fi_le rfl (by decide)).mp c9
                  refine lv_iconst (v := 0) hx hb dX5_chooseFrom_152 (by decide) ?_
                  have hk_0 : (0 : Int32).toInt = 0 := by decide
                  exact hj957 0 (by omega) (by omega) _ (lv_sub hl [0, 1, 2, 3, 4, 5, 6] rfl)
                · have hc954 : ¬ (v948.toInt ≤ 0) := fun h9 => c9 ((fi_le rfl (by decide)).mpr h9)
                  refine lv_iconst (v := 1) hx hb dX5_chooseFrom_148 (by decide) ?_
                  refine lv_goto (tgt := 153) hx hb dX5_chooseFrom_149 (by decide) ?_
                  have hk_1 : (1 : Int32).toInt = 1 := by decide
                  exact hj957 1 (by omega) (by omega) _ (lv_sub hl [0, 1, 2, 3, 4, 5, 6] rfl)
      have hk_0 : (0 : Int32).toInt = 0 := by decide
      exact hl905 9 0 _ _ (by omega) (by omega) (by omega) hG hS hf2 _ (lv_sub hl [0, 1, 2, 3, 4, 5] rfl)
  · have hc4 : ¬ (0 < v3.toInt) := fun h9 => c9 ((fi_lt (by decide) rfl).mpr h9)
    refine lv_iload_n hx hb dX5_chooseFrom_11 rfl (lv_at hl 3 rfl) ?_
    refine lv_aload_n hx hb dX5_chooseFrom_12 rfl (lv_at hl 0 rfl) ?_
    refine tk_get (ci := 5) (C := RX5) (T := TX5) (N := 11) (sp := (0, (-2147483648), 2147483647, 0)) hx hb htl inX5 hown hK hG ht_a0 (by decide) tk_no rfl 9 (by decide) (htl _ mw_1421) (fun _ h9 => h9) rfl dX5_chooseFrom_13 (fun v9 hf965 hV9 => ?_)
    obtain ⟨v966, rfl, ha_v966, hb_v966⟩ := hV9
    have hj994 : ∀ (H : Heap) (locs : List Loc), tk_G D cy ld t [] H → va_S (tk_w t [(20, 0, 0), (6, 0, 0)]) s.heap H locs → tk_f D H (ld 20) 2 0 (.int v3) → ∀ ls : Array Slot, lv_has ls 7 [] → W p l e ({ frames := 12, cells := 0, slots := 0, locals := 770 }) s m args below meth c H locs 0 0 (MQ below (tv D cy ld t [] (fun H => True) (tk_w t [(20, 0, 0), (6, 0, 0)])) args s 0 0 (tk_w t [(20, 0, 0), (6, 0, 0)])) (F0 m 62 ls []) := by
      intro H locs hG hS hf2 ls hl
      exact tk_vret hx hb hr hlocks trivial hG hS dX5_chooseFrom_62
    refine lv_icmp_gt (tgt := 36) hx hb dX5_chooseFrom_16 (by decide) (fun c9 => ?_) (fun c9 => ?_)
    · have hc967 : v966.toInt < p3.toInt := (fi_lt rfl rfl).mp c9
      refine lv_aload_n hx hb dX5_chooseFrom_36 rfl (lv_at hl 0 rfl) ?_
      refine lv_iload_n hx hb dX5_chooseFrom_37 rfl (lv_at hl 3 rfl) ?_
      refine tk_put (ci := 5) (v := .int p3) (ty := .int) (C := RX5) (T := TX5) (N := 11) (sp := (0, (-2147483648), 2147483647, 0)) hx hb htl inX5 tyX5 tyX5_ok nmX5 hown hK hG hS ht_a0 (by decide) tk_no rfl 9 (by decide) (htl _ mw_1421) (fun _ h9 => h9) rfl (tyX5_ok 9 (by decide)) rfl rfl rfl (tk_Vi (tk_rng _).1 (tk_rng _).2) (fun _ h => h) (tk_w.of ht_a0 (by decide) (List.mem_of_getElem? (i := 1) rfl) (Nat.le_refl _) (Nat.le_refl _)) dX5_chooseFrom_38 (fun H locs hG hS hf995 hq9 hj9 => ?_)
      have hf2 := hf2.kept (hq9 _ (tk_ne ht_ld20 ht_a0 (Or.inl (by decide))))
      refine lv_aload_n hx hb dX5_chooseFrom_41 rfl (lv_at hl 0 rfl) ?_
      refine lv_iload hx hb dX5_chooseFrom_42 (lv_at hl 4 rfl) ?_
      refine tk_put (ci := 5) (v := .int p4) (ty := .int) (C := RX5) (T := TX5) (N := 11) (sp := (0, (-2147483648), 2147483647, 0)) hx hb htl inX5 tyX5 tyX5_ok nmX5 hown hK hG hS ht_a0 (by decide) tk_no rfl 10 (by decide) (htl _ mw_1422) (fun _ h9 => h9) rfl (tyX5_ok 10 (by decide)) rfl rfl rfl (tk_Vi (tk_rng _).1 (tk_rng _).2) (fun _ h => h) (tk_w.of ht_a0 (by decide) (List.mem_of_getElem? (i := 1) rfl) (Nat.le_refl _) (Nat.le_refl _)) dX5_chooseFrom_44 (fun H locs hG hS hf997 hq9 hj9 => ?_)
      have hf2 := hf2.kept (hq9 _ (tk_ne ht_ld20 ht_a0 (Or.inl (by decide))))
      refine lv_aload_n hx hb dX5_chooseFrom_47 rfl (lv_at hl 0 rfl) ?_
      refine tk_get (ci := 5) (C := RX5) (T := TX5) (N := 11) (sp := (6, 20, 8, 0)) hx hb htl inX5 hown hK hG ht_a0 (by decide) tk_no rfl 7 (by decide) (htl _ mw_153) (fun _ h9 => h9) rfl dX5_chooseFrom_48 (fun v9 hf999 hV9 => ?_)
      obtain ⟨b1000, rfl, ht_b1000⟩ := hV9
      have ht_b1000 : t b1000 = (20, 8, 0) := ht_b1000
      refine lv_iconst (v := 0) hx hb dX5_chooseFrom_51 (by decide) ?_
      refine lv_aload_n hx hb dX5_chooseFrom_52 rfl (lv_at hl 0 rfl) ?_
      refine tk_get (ci := 5) (C := RX5) (T := TX5) (N := 11) (sp := (6, 20, 8, 0)) hx hb htl inX5 hown hK hG ht_a0 (by decide) tk_no rfl 8 (by decide) (htl _ mw_154) (fun _ h9 => h9) rfl dX5_chooseFrom_53 (fun v9 hf1001 hV9 => ?_)
      obtain ⟨b1002, rfl, ht_b1002⟩ := hV9
      have ht_b1002 : t b1002 = (20, 8, 0) := ht_b1002
      refine lv_iconst (v := 0) hx hb dX5_chooseFrom_56 (by decide) ?_
      refine lv_bipush (v := 8) hx hb dX5_chooseFrom_57 (by decide) ?_
      refine tk_copy (SP := 0) (DP := 0) (NC := 8) hx hb (by rw [hml]; exact hl.1.symm) hown (htl _ mw_1428) (htl _ mw_655) (htl _ mw_656) (htl _ mw_657) hK hG hS ht_b1000 ht_b1002 (by decide) (by decide) (fun _ h => h) (fun _ => Iff.rfl) tk_no tk_no (by decide) (by decide) (by decide) (by decide) (by decide) (by decide) (by decide) (by decide) (fun _ _ _ _ _ => trivial) (tk_w.of ht_b1002 (by decide) (List.mem_of_getElem? (i := 0) rfl) (Nat.le_refl _) (Nat.le_refl _)) (Nat.le_of_ble_eq_true rfl) (Nat.le_of_ble_eq_true rfl) dX5_chooseFrom_59 (fun H locs hG hS hq9 => ?_)
      have hf2 := hf2.kept (hq9 _ (tk_ne ht_ld20 ht_b1002 (Or.inl (by decide))))
      exact hj994 _ _ hG hS hf2 _ (lv_sub hl [] rfl)
    · have hc967 : ¬ (v966.toInt < p3.toInt) := fun h9 => c9 ((fi_lt rfl rfl).mpr h9)
      refine lv_iload_n hx hb dX5_chooseFrom_19 rfl (lv_at hl 3 rfl) ?_
      refine lv_aload_n hx hb dX5_chooseFrom_20 rfl (lv_at hl 0 rfl) ?_
      refine tk_get (ci := 5) (C := RX5) (T := TX5) (N := 11) (sp := (0, (-2147483648), 2147483647, 0)) hx hb htl inX5 hown hK hG ht_a0 (by decide) tk_no rfl 9 (by decide) (htl _ mw_1421) (fun _ h9 => h9) rfl dX5_chooseFrom_21 (fun v9 hf1004 hV9 => ?_)
      obtain ⟨v1005, rfl, ha_v1005, hb_v1005⟩ := hV9
      refine lv_icmp_ne (tgt := 62) hx hb dX5_chooseFrom_24 (by decide) (fun c9 => ?_) (fun c9 => ?_)
      · have hc1006 : ¬ (p3.toInt = v1005.toInt) := fun h9 => c9 ((fi_eq rfl rfl).mpr h9)
        exact hj994 _ _ hG hS hf2 _ (lv_sub hl [] rfl)
      · have hc1006 : p3.toInt = v1005.toInt := (fi_eq rfl rfl).mp c9
        refine lv_iload hx hb dX5_chooseFrom_27 (lv_at hl 4 rfl) ?_
        refine lv_aload_n hx hb dX5_chooseFrom_29 rfl (lv_at hl 0 rfl) ?_
        refine tk_get (ci := 5) (C := RX5) (T := TX5) (N := 11) (sp := (0, (-2147483648), 2147483647, 0)) hx hb htl inX5 hown hK hG ht_a0 (by decide) tk_no rfl 10 (by decide) (htl _ mw_1422) (fun _ h9 => h9) rfl dX5_chooseFrom_30 (fun v9 hf1007 hV9 => ?_)
        obtain ⟨v1008, rfl, ha_v1008, hb_v1008⟩ := hV9
        refine lv_icmp_ge (tgt := 62) hx hb dX5_chooseFrom_33 (by decide) (fun c9 => ?_) (fun c9 => ?_)
        · have hc1009 : v1008.toInt ≤ p4.toInt := (fi_le rfl rfl).mp c9
          exact hj994 _ _ hG hS hf2 _ (lv_sub hl [] rfl)
        · have hc1009 : ¬ (v1008.toInt ≤ p4.toInt) := fun h9 => c9 ((fi_le rfl rfl).mpr h9)
          refine lv_aload_n hx hb dX5_chooseFrom_36 rfl (lv_at hl 0 rfl) ?_
          refine lv_iload_n hx hb dX5_chooseFrom_37 rfl (lv_at hl 3 rfl) ?_
          refine tk_put (ci := 5) (v := .int p3) (ty := .int) (C := RX5) (T := TX5) (N := 11) (sp := (0, (-2147483648), 2147483647, 0)) hx hb htl inX5 tyX5 tyX5_ok nmX5 hown hK hG hS ht_a0 (by decide) tk_no rfl 9 (by decide) (htl _ mw_1421) (fun _ h9 => h9) rfl (tyX5_ok 9 (by decide)) rfl rfl rfl (tk_Vi (tk_rng _).1 (tk_rng _).2) (fun _ h => h) (tk_w.of ht_a0 (by decide) (List.mem_of_getElem? (i := 1) rfl) (Nat.le_refl _) (Nat.le_refl _)) dX5_chooseFrom_38 (fun H locs hG hS hf1010 hq9 hj9 => ?_)
          have hf2 := hf2.kept (hq9 _ (tk_ne ht_ld20 ht_a0 (Or.inl (by decide))))
          refine lv_aload_n hx hb dX5_chooseFrom_41 rfl (lv_at hl 0 rfl) ?_
          refine lv_iload hx hb dX5_chooseFrom_42 (lv_at hl 4 rfl) ?_
          refine tk_put (ci := 5) (v := .int p4) (ty := .int) (C := RX5) (T := TX5) (N := 11) (sp := (0, (-2147483648), 2147483647, 0)) hx hb htl inX5 tyX5 tyX5_ok nmX5 hown hK hG hS ht_a0 (by decide) tk_no rfl 10 (by decide) (htl _ mw_1422) (fun _ h9 => h9) rfl (tyX5_ok 10 (by decide)) rfl rfl rfl (tk_Vi (tk_rng _).1 (tk_rng _).2) (fun _ h => h) (tk_w.of ht_a0 (by decide) (List.mem_of_getElem? (i := 1) rfl) (Nat.le_refl _) (Nat.le_refl _)) dX5_chooseFrom_44 (fun H locs hG hS hf1012 hq9 hj9 => ?_)
          have hf2 := hf2.kept (hq9 _ (tk_ne ht_ld20 ht_a0 (Or.inl (by decide))))
          refine lv_aload_n hx hb dX5_chooseFrom_47 rfl (lv_at hl 0 rfl) ?_
          refine tk_get (ci := 5) (C := RX5) (T := TX5) (N := 11) (sp := (6, 20, 8, 0)) hx hb htl inX5 hown hK hG ht_a0 (by decide) tk_no rfl 7 (by decide) (htl _ mw_153) (fun _ h9 => h9) rfl dX5_chooseFrom_48 (fun v9 hf1014 hV9 => ?_)
          obtain ⟨b1015, rfl, ht_b1015⟩ := hV9
          have ht_b1015 : t b1015 = (20, 8, 0) := ht_b1015
          refine lv_iconst (v := 0) hx hb dX5_chooseFrom_51 (by decide) ?_
          refine lv_aload_n hx hb dX5_chooseFrom_52 rfl (lv_at hl 0 rfl) ?_
          refine tk_get (ci := 5) (C := RX5) (T := TX5) (N := 11) (sp := (6, 20, 8, 0)) hx hb htl inX5 hown hK hG ht_a0 (by decide) tk_no rfl 8 (by decide) (htl _ mw_154) (fun _ h9 => h9) rfl dX5_chooseFrom_53 (fun v9 hf1016 hV9 => ?_)
          obtain ⟨b1017, rfl, ht_b1017⟩ := hV9
          have ht_b1017 : t b1017 = (20, 8, 0) := ht_b1017
          refine lv_iconst (v := 0) hx hb dX5_chooseFrom_56 (by decide) ?_
          refine lv_bipush (v := 8) hx hb dX5_chooseFrom_57 (by decide) ?_
          refine tk_copy (SP := 0) (DP := 0) (NC := 8) hx hb (by rw [hml]; exact hl.1.symm) hown (htl _ mw_1428) (htl _ mw_655) (htl _ mw_656) (htl _ mw_657) hK hG hS ht_b1015 ht_b1017 (by decide) (by decide) (fun _ h => h) (fun _ => Iff.rfl) tk_no tk_no (by decide) (by decide) (by decide) (by decide) (by decide) (by decide) (by decide) (by decide) (fun _ _ _ _ _ => trivial) (tk_w.of ht_b1017 (by decide) (List.mem_of_getElem? (i := 0) rfl) (Nat.le_refl _) (Nat.le_refl _)) (Nat.le_of_ble_eq_true rfl) (Nat.le_of_ble_eq_true rfl) dX5_chooseFrom_59 (fun H locs hG hS hq9 => ?_)
          have hf2 := hf2.kept (hq9 _ (tk_ne ht_ld20 ht_b1017 (Or.inl (by decide))))
          exact hj994 _ _ hG hS hf2 _ (lv_sub hl [] rfl)
theorem dX5_chooseChampions_0 : decode cX5_chooseChampions 0 = .ok (.iconst 0, 1) := by decide +kernel
theorem dX5_chooseChampions_1 : decode cX5_chooseChampions 1 = .ok (.istore_n 2, 1) := by decide +kernel
theorem dX5_chooseChampions_2 : decode cX5_chooseChampions 2 = .ok (.iload_n 2, 1) := by decide +kernel
theorem dX5_chooseChampions_3 : decode cX5_chooseChampions 3 = .ok (.aload_n 0, 1) := by decide +kernel
theorem dX5_chooseChampions_4 : decode cX5_chooseChampions 4 = .ok (.getfield 34, 3) := by decide +kernel
theorem dX5_chooseChampions_7 : decode cX5_chooseChampions 7 = .ok (.getfield 127, 3) := by decide +kernel
theorem dX5_chooseChampions_10 : decode cX5_chooseChampions 10 = .ok (.if_icmp .ge 71, 3) := by decide +kernel
theorem dX5_chooseChampions_81 : decode cX5_chooseChampions 81 = .ok (.aload_n 0, 1) := by decide +kernel
theorem dX5_chooseChampions_82 : decode cX5_chooseChampions 82 = .ok (.iconst (-1), 1) := by decide +kernel
theorem dX5_chooseChampions_83 : decode cX5_chooseChampions 83 = .ok (.putfield 136, 3) := by decide +kernel
theorem dX5_chooseChampions_86 : decode cX5_chooseChampions 86 = .ok (.aload_n 0, 1) := by decide +kernel
theorem dX5_chooseChampions_87 : decode cX5_chooseChampions 87 = .ok (.iconst 0, 1) := by decide +kernel
theorem dX5_chooseChampions_88 : decode cX5_chooseChampions 88 = .ok (.putfield 139, 3) := by decide +kernel
theorem dX5_chooseChampions_91 : decode cX5_chooseChampions 91 = .ok (.aload_n 0, 1) := by decide +kernel
theorem dX5_chooseChampions_92 : decode cX5_chooseChampions 92 = .ok (.iconst 0, 1) := by decide +kernel
theorem dX5_chooseChampions_93 : decode cX5_chooseChampions 93 = .ok (.iconst 0, 1) := by decide +kernel
theorem dX5_chooseChampions_94 : decode cX5_chooseChampions 94 = .ok (.iconst 0, 1) := by decide +kernel
theorem dX5_chooseChampions_95 : decode cX5_chooseChampions 95 = .ok (.iconst 0, 1) := by decide +kernel
theorem dX5_chooseChampions_96 : decode cX5_chooseChampions 96 = .ok (.invokevirtual 142, 3) := by decide +kernel
theorem dX5_chooseChampions_99 : decode cX5_chooseChampions 99 = .ok (.iload_n 1, 1) := by decide +kernel
theorem dX5_chooseChampions_100 : decode cX5_chooseChampions 100 = .ok (.iconst 2, 1) := by decide +kernel
theorem dX5_chooseChampions_101 : decode cX5_chooseChampions 101 = .ok (.if_icmp .ge 19, 3) := by decide +kernel
theorem dX5_chooseChampions_120 : decode cX5_chooseChampions 120 = .ok (.iload_n 1, 1) := by decide +kernel
theorem dX5_chooseChampions_121 : decode cX5_chooseChampions 121 = .ok (.iconst 2, 1) := by decide +kernel
theorem dX5_chooseChampions_122 : decode cX5_chooseChampions 122 = .ok (.isub, 1) := by decide +kernel
theorem dX5_chooseChampions_123 : decode cX5_chooseChampions 123 = .ok (.bipush 8, 2) := by decide +kernel
theorem dX5_chooseChampions_140 : decode cX5_chooseChampions 140 = .ok (.ireturn, 1) := by decide +kernel
theorem dX5_chooseChampions_125 : decode cX5_chooseChampions 125 = .ok (.if_icmp .ge 14, 3) := by decide +kernel
theorem dX5_chooseChampions_139 : decode cX5_chooseChampions 139 = .ok (.iconst (-1), 1) := by decide +kernel
theorem dX5_chooseChampions_128 : decode cX5_chooseChampions 128 = .ok (.aload_n 0, 1) := by decide +kernel
theorem dX5_chooseChampions_129 : decode cX5_chooseChampions 129 = .ok (.getfield 31, 3) := by decide +kernel
theorem dX5_chooseChampions_132 : decode cX5_chooseChampions 132 = .ok (.iload_n 1, 1) := by decide +kernel
theorem dX5_chooseChampions_133 : decode cX5_chooseChampions 133 = .ok (.iconst 2, 1) := by decide +kernel
theorem dX5_chooseChampions_134 : decode cX5_chooseChampions 134 = .ok (.isub, 1) := by decide +kernel
theorem dX5_chooseChampions_135 : decode cX5_chooseChampions 135 = .ok (.iaload, 1) := by decide +kernel
theorem dX5_chooseChampions_136 : decode cX5_chooseChampions 136 = .ok (.goto 4, 3) := by decide +kernel
theorem dX5_chooseChampions_104 : decode cX5_chooseChampions 104 = .ok (.iload_n 1, 1) := by decide +kernel
theorem dX5_chooseChampions_119 : decode cX5_chooseChampions 119 = .ok (.ireturn, 1) := by decide +kernel
theorem dX5_chooseChampions_105 : decode cX5_chooseChampions 105 = .ok (.ifCond .ne 10, 3) := by decide +kernel
theorem dX5_chooseChampions_115 : decode cX5_chooseChampions 115 = .ok (.aload_n 0, 1) := by decide +kernel
theorem dX5_chooseChampions_116 : decode cX5_chooseChampions 116 = .ok (.getfield 139, 3) := by decide +kernel
theorem dX5_chooseChampions_108 : decode cX5_chooseChampions 108 = .ok (.aload_n 0, 1) := by decide +kernel
theorem dX5_chooseChampions_109 : decode cX5_chooseChampions 109 = .ok (.getfield 136, 3) := by decide +kernel
theorem dX5_chooseChampions_112 : decode cX5_chooseChampions 112 = .ok (.goto 7, 3) := by decide +kernel
theorem dX5_chooseChampions_13 : decode cX5_chooseChampions 13 = .ok (.iconst 0, 1) := by decide +kernel
theorem dX5_chooseChampions_14 : decode cX5_chooseChampions 14 = .ok (.istore_n 3, 1) := by decide +kernel
theorem dX5_chooseChampions_15 : decode cX5_chooseChampions 15 = .ok (.iload_n 3, 1) := by decide +kernel
theorem dX5_chooseChampions_16 : decode cX5_chooseChampions 16 = .ok (.aload_n 0, 1) := by decide +kernel
theorem dX5_chooseChampions_17 : decode cX5_chooseChampions 17 = .ok (.getfield 34, 3) := by decide +kernel
theorem dX5_chooseChampions_20 : decode cX5_chooseChampions 20 = .ok (.getfield 127, 3) := by decide +kernel
theorem dX5_chooseChampions_23 : decode cX5_chooseChampions 23 = .ok (.if_icmp .ge 52, 3) := by decide +kernel
theorem dX5_chooseChampions_75 : decode cX5_chooseChampions 75 = .ok (.iinc 2 1, 3) := by decide +kernel
theorem dX5_chooseChampions_78 : decode cX5_chooseChampions 78 = .ok (.goto (-76), 3) := by decide +kernel
theorem dX5_chooseChampions_26 : decode cX5_chooseChampions 26 = .ok (.aload_n 0, 1) := by decide +kernel
theorem dX5_chooseChampions_27 : decode cX5_chooseChampions 27 = .ok (.getfield 24, 3) := by decide +kernel
theorem dX5_chooseChampions_30 : decode cX5_chooseChampions 30 = .ok (.iload_n 2, 1) := by decide +kernel
theorem dX5_chooseChampions_31 : decode cX5_chooseChampions 31 = .ok (.aaload, 1) := by decide +kernel
theorem dX5_chooseChampions_32 : decode cX5_chooseChampions 32 = .ok (.iload_n 3, 1) := by decide +kernel
theorem dX5_chooseChampions_33 : decode cX5_chooseChampions 33 = .ok (.aload_n 0, 1) := by decide +kernel
theorem dX5_chooseChampions_34 : decode cX5_chooseChampions 34 = .ok (.getfield 34, 3) := by decide +kernel
theorem dX5_chooseChampions_37 : decode cX5_chooseChampions 37 = .ok (.getfield 130, 3) := by decide +kernel
theorem dX5_chooseChampions_40 : decode cX5_chooseChampions 40 = .ok (.iload_n 2, 1) := by decide +kernel
theorem dX5_chooseChampions_41 : decode cX5_chooseChampions 41 = .ok (.iaload, 1) := by decide +kernel
theorem dX5_chooseChampions_68 : decode cX5_chooseChampions 68 = .ok (.iastore, 1) := by decide +kernel
theorem dX5_chooseChampions_69 : decode cX5_chooseChampions 69 = .ok (.iinc 3 1, 3) := by decide +kernel
theorem dX5_chooseChampions_72 : decode cX5_chooseChampions 72 = .ok (.goto (-57), 3) := by decide +kernel
theorem dX5_chooseChampions_42 : decode cX5_chooseChampions 42 = .ok (.ifCond .ne 25, 3) := by decide +kernel
theorem dX5_chooseChampions_67 : decode cX5_chooseChampions 67 = .ok (.iconst 0, 1) := by decide +kernel
theorem dX5_chooseChampions_45 : decode cX5_chooseChampions 45 = .ok (.aload_n 0, 1) := by decide +kernel
theorem dX5_chooseChampions_46 : decode cX5_chooseChampions 46 = .ok (.getfield 34, 3) := by decide +kernel
theorem dX5_chooseChampions_49 : decode cX5_chooseChampions 49 = .ok (.getfield 130, 3) := by decide +kernel
theorem dX5_chooseChampions_52 : decode cX5_chooseChampions 52 = .ok (.iload_n 3, 1) := by decide +kernel
theorem dX5_chooseChampions_53 : decode cX5_chooseChampions 53 = .ok (.iaload, 1) := by decide +kernel
theorem dX5_chooseChampions_54 : decode cX5_chooseChampions 54 = .ok (.iconst 1, 1) := by decide +kernel
theorem dX5_chooseChampions_55 : decode cX5_chooseChampions 55 = .ok (.if_icmp .ne 12, 3) := by decide +kernel
theorem dX5_chooseChampions_58 : decode cX5_chooseChampions 58 = .ok (.aload_n 0, 1) := by decide +kernel
theorem dX5_chooseChampions_59 : decode cX5_chooseChampions 59 = .ok (.iload_n 2, 1) := by decide +kernel
theorem dX5_chooseChampions_60 : decode cX5_chooseChampions 60 = .ok (.iload_n 3, 1) := by decide +kernel
theorem dX5_chooseChampions_61 : decode cX5_chooseChampions 61 = .ok (.invokevirtual 133, 3) := by decide +kernel
theorem dX5_chooseChampions_64 : decode cX5_chooseChampions 64 = .ok (.goto 4, 3) := by decide +kernel
set_option maxHeartbeats 4000000 in
set_option maxRecDepth 100000 in
theorem k_X5_chooseChampions (l : Launch) (D : va_G) (cy : Nat → ClassId) (ld : Nat → Nat) (t : tk_T) (a0 : Nat) (p1 : Int32) (ht_a0 : t a0 = (6, 0, 0)) : Met l yX5_chooseChampions (wl yX5_chooseChampions cX5_chooseChampions 4 (some .int)) ({ frames := 13, cells := 0, slots := 0, locals := 840 }) (tp D cy ld t [] [.ref a0, .int p1] (fun H => True)) (ti D cy ld t [] (fun r H => True) (tk_w t [(20, 4, 4), (10, 4, 4), (20, 0, 0), (12, 0, 0), (9, 0, 0), (6, 0, 0)])) 0 0 (tk_w t [(20, 4, 4), (10, 4, 4), (20, 0, 0), (12, 0, 0), (9, 0, 0), (6, 0, 0)]) := by
  refine tk_met (y := yX5_chooseChampions) (cc := cX5_chooseChampions) (maxL := 4) (ret := (some .int)) (av := [.ref a0, .int p1]) _ _ (by decide) (Nat.le_of_ble_eq_true rfl) ?_
  intro p e s m args below meth c hx hb hr hml hts htl hown hlocks hK H locs hH hG hS hB hZ ls hl
  have hown : s.vm.findClass RX5 = some m.cls := hown
  have hl : lv_has ls 4 [(0, .ref a0), (1, .int p1)] := hl
  have hr_p1 := tk_rng p1
  refine lv_iconst (v := 0) hx hb dX5_chooseChampions_0 (by decide) ?_
  refine lv_istore_n (lv' := [(2, .int 0), (0, .ref a0), (1, .int p1)]) hx hb dX5_chooseChampions_1 rfl hl (by decide) rfl (fun ls hl => ?_)
  have hl7810 : ∀ (N : Nat) (v1 : Int32) (H : Heap) (locs : List Loc), v1.toInt ≤ 8 → 0 ≤ v1.toInt → (-1) * v1.toInt + 8 < (N : Int) → tk_G D cy ld t [] H → va_S (tk_w t [(20, 4, 4), (10, 4, 4), (20, 0, 0), (12, 0, 0), (9, 0, 0), (6, 0, 0)]) s.heap H locs → ∀ ls : Array Slot, lv_has ls 4 [(2, .int v1), (0, .ref a0), (1, .int p1)] → W p l e ({ frames := 13, cells := 0, slots := 0, locals := 840 }) s m args below meth c H locs 0 0 (MQ below (ti D cy ld t [] (fun r H => True) (tk_w t [(20, 4, 4), (10, 4, 4), (20, 0, 0), (12, 0, 0), (9, 0, 0), (6, 0, 0)])) args s 0 0 (tk_w t [(20, 4, 4), (10, 4, 4), (20, 0, 0), (12, 0, 0), (9, 0, 0), (6, 0, 0)])) (F0 m 2 ls []) := by
    intro N
    induction N with
    | zero => intro v1 H locs hq0_l7810 hq1_l7810 hm_l7810 hG hS ls hl; exfalso; omega
    | succ N ih =>
      intro v1 H locs hq0_l7810 hq1_l7810 hm_l7810 hG hS ls hl
      refine lv_iload_n hx hb dX5_chooseChampions_2 rfl (lv_at hl 0 rfl) ?_
      refine lv_aload_n hx hb dX5_chooseChampions_3 rfl (lv_at hl 1 rfl) ?_
      refine tk_get (ci := 5) (C := RX5) (T := TX5) (N := 11) (sp := (8, 20, 3, 0)) hx hb htl inX5 hown hK hG ht_a0 (by decide) tk_no rfl 0 (by decide) (htl _ mw_155) (fun _ h9 => h9) rfl dX5_chooseChampions_4 (fun v9 hf7811 hV9 => ?_)
      obtain ⟨rfl, ht_ld20⟩ := hV9
      have ht_ld20 : t (ld 20) = (3, 0, 0) := ht_ld20
      refine fx_top (v := .ref (ld 20)) rfl ?_
      refine tk_get (ci := 2) (C := RX2) (T := TX2) (N := 20) (sp := (0, 0, 8, 0)) hx hb htl inX2 hown hK hG ht_ld20 (by decide) tk_no rfl 0 (by decide) (htl _ mw_1419) (fun _ h9 => h9) rfl dX5_chooseChampions_7 (fun v9 hf7812 hV9 => ?_)
      obtain ⟨v7813, rfl, ha_v7813, hb_v7813⟩ := hV9
      refine lv_icmp_ge (tgt := 81) hx hb dX5_chooseChampions_10 (by decide) (fun c9 => ?_) (fun c9 => ?_)
      · have hc7814 : v7813.toInt ≤ v1.toInt := (fi_le rfl rfl).mp c9
        refine lv_aload_n hx hb dX5_chooseChampions_81 rfl (lv_at hl 1 rfl) ?_
        refine lv_iconst (v := (-1)) hx hb dX5_chooseChampions_82 (by decide) ?_
        refine tk_put (ci := 5) (v := .int (-1)) (ty := .int) (C := RX5) (T := TX5) (N := 11) (sp := (0, (-2147483648), 2147483647, 0)) hx hb htl inX5 tyX5 tyX5_ok nmX5 hown hK hG hS ht_a0 (by decide) tk_no rfl 9 (by decide) (htl _ mw_1421) (fun _ h9 => h9) rfl (tyX5_ok 9 (by decide)) rfl rfl rfl (tk_Vi (tk_rng _).1 (tk_rng _).2) (fun _ h => h) (tk_w.of ht_a0 (by decide) (List.mem_of_getElem? (i := 5) rfl) (Nat.le_refl _) (Nat.le_refl _)) dX5_chooseChampions_83 (fun H locs hG hS hf8350 hq9 hj9 => ?_)
        have hf7812 := hf7812.kept (hq9 _ (tk_ne ht_ld20 ht_a0 (Or.inl (by decide))))
        refine lv_aload_n hx hb dX5_chooseChampions_86 rfl (lv_at hl 1 rfl) ?_
        refine lv_iconst (v := 0) hx hb dX5_chooseChampions_87 (by decide) ?_
        refine tk_put (ci := 5) (v := .int 0) (ty := .int) (C := RX5) (T := TX5) (N := 11) (sp := (0, (-2147483648), 2147483647, 0)) hx hb htl inX5 tyX5 tyX5_ok nmX5 hown hK hG hS ht_a0 (by decide) tk_no rfl 10 (by decide) (htl _ mw_1422) (fun _ h9 => h9) rfl (tyX5_ok 10 (by decide)) rfl rfl rfl (tk_Vi (tk_rng _).1 (tk_rng _).2) (fun _ h => h) (tk_w.of ht_a0 (by decide) (List.mem_of_getElem? (i := 5) rfl) (Nat.le_refl _) (Nat.le_refl _)) dX5_chooseChampions_88 (fun H locs hG hS hf8352 hq9 hj9 => ?_)
        have hf7812 := hf7812.kept (hq9 _ (tk_ne ht_ld20 ht_a0 (Or.inl (by decide))))
        refine lv_aload_n hx hb dX5_chooseChampions_91 rfl (lv_at hl 1 rfl) ?_
        refine lv_iconst (v := 0) hx hb dX5_chooseChampions_92 (by decide) ?_
        refine lv_iconst (v := 0) hx hb dX5_chooseChampions_93 (by decide) ?_
        refine lv_iconst (v := 0) hx hb dX5_chooseChampions_94 (by decide) ?_
        refine lv_iconst (v := 0) hx hb dX5_chooseChampions_95 (by decide) ?_
        have hk_0 : (0 : Int32).toInt = 0 := by decide
        have hk_0 : (0 : Int32).toInt = 0 := by decide
        have hk_0 : (0 : Int32).toInt = 0 := by decide
        have hk_0 : (0 : Int32).toInt = 0 := by decide
        refine tk_Vv (As := [.int 0, .int 0, .int 0, .int 0]) (rest := []) (ci := 5) ⟨hx, hb, hml, hown, hts⟩ hK hG hZ hS (k_X5_chooseFrom_0 l D cy ld t a0 0 0 0 ht_a0) trivial ⟨callB_of 4 hts (wl_in mw_1427) rfl rfl rfl (htl _ mw_40) (htl _ mw_1424) hd_yX5_chooseFrom ⟨(Nat.le_of_ble_eq_true rfl), (Nat.le_of_ble_eq_true rfl)⟩, htl _ mw_1425, htl _ mw_1426⟩ ht_a0 (by decide) tk_no rfl (tk_w.pick [2, 5] rfl) rfl hl.1 rfl (Nat.le_of_ble_eq_true rfl) dX5_chooseChampions_96 ⟨(Nat.le_of_ble_eq_true rfl), (Nat.le_of_ble_eq_true rfl)⟩ (fun H locs hpo hG hS hq9 => ?_)
        have hf7812 := hf7812.call hq9 (tk_w.no ht_ld20 (by decide))
        refine lv_iload_n hx hb dX5_chooseChampions_99 rfl (lv_at hl 2 rfl) ?_
        refine lv_iconst (v := 2) hx hb dX5_chooseChampions_100 (by decide) ?_
        refine lv_icmp_ge (tgt := 120) hx hb dX5_chooseChampions_101 (by decide) (fun c9 => ?_) (fun c9 => ?_)
        · have hc8355 : 2 ≤ p1.toInt := (fi_le (by decide) rfl).mp c9
          refine lv_iload_n hx hb dX5_chooseChampions_120 rfl (lv_at hl 2 rfl) ?_
          refine lv_iconst (v := 2) hx hb dX5_chooseChampions_121 (by decide) ?_
          refine lv_isub hx hb dX5_chooseChampions_122 ?_
          refine tk_sub rfl (by decide) (by omega) (by omega) (fun v8356 h_v8356 => ?_)
          refine lv_bipush (v := 8) hx hb dX5_chooseChampions_123 (by decide) ?_
          have hj8364 : ∀ (v8363 : Int32), ∀ ls : Array Slot, lv_has ls 4 [] → W p l e ({ frames := 13, cells := 0, slots := 0, locals := 840 }) s m args below meth c H locs 0 0 (MQ below (ti D cy ld t [] (fun r H => True) (tk_w t [(20, 4, 4), (10, 4, 4), (20, 0, 0), (12, 0, 0), (9, 0, 0), (6, 0, 0)])) args s 0 0 (tk_w t [(20, 4, 4), (10, 4, 4), (20, 0, 0), (12, 0, 0), (9, 0, 0), (6, 0, 0)])) (F0 m 140 ls [.int v8363]) := by
            intro v8363  ls hl
            exact tk_iret (v := v8363) hx hb hr rfl hlocks trivial hG hS dX5_chooseChampions_140
          refine lv_icmp_ge (tgt := 139) hx hb dX5_chooseChampions_125 (by decide) (fun c9 => ?_) (fun c9 => ?_)
          · have hc8357 : 8 ≤ v8356.toInt := (fi_le (by decide) rfl).mp c9
            refine lv_iconst (v := (-1)) hx hb dX5_chooseChampions_139 (by decide) ?_
            have hk_m1 : ((-1) : Int32).toInt = (-1) := by decide
            exact hj8364 (-1) _ (lv_sub hl [] rfl)
          · have hc8357 : ¬ (8 ≤ v8356.toInt) := fun h9 => c9 ((fi_le (by decide) rfl).mpr h9)
            refine lv_aload_n hx hb dX5_chooseChampions_128 rfl (lv_at hl 1 rfl) ?_
            refine tk_get (ci := 5) (C := RX5) (T := TX5) (N := 11) (sp := (6, 20, 8, 0)) hx hb htl inX5 hown hK hG ht_a0 (by decide) tk_no rfl 8 (by decide) (htl _ mw_154) (fun _ h9 => h9) rfl dX5_chooseChampions_129 (fun v9 hf8365 hV9 => ?_)
            obtain ⟨b8366, rfl, ht_b8366⟩ := hV9
            have ht_b8366 : t b8366 = (20, 8, 0) := ht_b8366
            refine lv_iload_n hx hb dX5_chooseChampions_132 rfl (lv_at hl 2 rfl) ?_
            refine lv_iconst (v := 2) hx hb dX5_chooseChampions_133 (by decide) ?_
            refine lv_isub hx hb dX5_chooseChampions_134 ?_
            refine tk_sub rfl (by decide) (by omega) (by omega) (fun v8367 h_v8367 => ?_)
            refine tk_iald hx hb hK hG ht_b8366 (by decide) (fun _ h => h) tk_no rfl (by omega) (by omega) dX5_chooseChampions_135 (fun v8368 _ _ => ?_)
            have hr_v8368 := tk_rng v8368
            refine lv_goto (tgt := 140) hx hb dX5_chooseChampions_136 (by decide) ?_
            exact hj8364 v8368 _ (lv_sub hl [] rfl)
        · have hc8355 : ¬ (2 ≤ p1.toInt) := fun h9 => c9 ((fi_le (by decide) rfl).mpr h9)
          refine lv_iload_n hx hb dX5_chooseChampions_104 rfl (lv_at hl 2 rfl) ?_
          have hj8376 : ∀ (v8375 : Int32), ∀ ls : Array Slot, lv_has ls 4 [] → W p l e ({ frames := 13, cells := 0, slots := 0, locals := 840 }) s m args below meth c H locs 0 0 (MQ below (ti D cy ld t [] (fun r H => True) (tk_w t [(20, 4, 4), (10, 4, 4), (20, 0, 0), (12, 0, 0), (9, 0, 0), (6, 0, 0)])) args s 0 0 (tk_w t [(20, 4, 4), (10, 4, 4), (20, 0, 0), (12, 0, 0), (9, 0, 0), (6, 0, 0)])) (F0 m 119 ls [.int v8375]) := by
            intro v8375  ls hl
            exact tk_iret (v := v8375) hx hb hr rfl hlocks trivial hG hS dX5_chooseChampions_119
          refine lv_if_ne (tgt := 115) hx hb dX5_chooseChampions_105 (by decide) (fun c9 => ?_) (fun c9 => ?_)
          · have hc8369 : ¬ (p1.toInt = 0) := fun h9 => c9 ((fi_eq rfl (by decide)).mpr h9)
            refine lv_aload_n hx hb dX5_chooseChampions_115 rfl (lv_at hl 1 rfl) ?_
            refine tk_get (ci := 5) (C := RX5) (T := TX5) (N := 11) (sp := (0, (-2147483648), 2147483647, 0)) hx hb htl inX5 hown hK hG ht_a0 (by decide) tk_no rfl 10 (by decide) (htl _ mw_1422) (fun _ h9 => h9) rfl dX5_chooseChampions_116 (fun v9 hf8377 hV9 => ?_)
            obtain ⟨v8378, rfl, ha_v8378, hb_v8378⟩ := hV9
            exact hj8376 v8378 _ (lv_sub hl [] rfl)
          · have hc8369 : p1.toInt = 0 := (fi_eq rfl (by decide)).mp c9
            refine lv_aload_n hx hb dX5_chooseChampions_108 rfl (lv_at hl 1 rfl) ?_
            refine tk_get (ci := 5) (C := RX5) (T := TX5) (N := 11) (sp := (0, (-2147483648), 2147483647, 0)) hx hb htl inX5 hown hK hG ht_a0 (by decide) tk_no rfl 9 (by decide) (htl _ mw_1421) (fun _ h9 => h9) rfl dX5_chooseChampions_109 (fun v9 hf8379 hV9 => ?_)
            obtain ⟨v8380, rfl, ha_v8380, hb_v8380⟩ := hV9
            refine lv_goto (tgt := 119) hx hb dX5_chooseChampions_112 (by decide) ?_
            exact hj8376 v8380 _ (lv_sub hl [] rfl)
      · have hc7814 : ¬ (v7813.toInt ≤ v1.toInt) := fun h9 => c9 ((fi_le rfl rfl).mpr h9)
        refine lv_iconst (v := 0) hx hb dX5_chooseChampions_13 (by decide) ?_
        refine lv_istore_n (lv' := [(3, .int 0), (2, .int v1), (0, .ref a0), (1, .int p1)]) hx hb dX5_chooseChampions_14 rfl hl (by decide) rfl (fun ls hl => ?_)
        have hl8844 : ∀ (N : Nat) (v8381 : Int32) (H : Heap) (locs : List Loc), v8381.toInt ≤ 8 → 0 ≤ v8381.toInt → (-1) * v8381.toInt + 8 < (N : Int) → tk_G D cy ld t [] H → va_S (tk_w t [(20, 4, 4), (10, 4, 4), (20, 0, 0), (12, 0, 0), (9, 0, 0), (6, 0, 0)]) s.heap H locs → tk_f D H (ld 20) 2 0 (.int v7813) → ∀ ls : Array Slot, lv_has ls 4 [(3, .int v8381), (2, .int v1), (0, .ref a0), (1, .int p1)] → W p l e ({ frames := 13, cells := 0, slots := 0, locals := 840 }) s m args below meth c H locs 0 0 (MQ below (ti D cy ld t [] (fun r H => True) (tk_w t [(20, 4, 4), (10, 4, 4), (20, 0, 0), (12, 0, 0), (9, 0, 0), (6, 0, 0)])) args s 0 0 (tk_w t [(20, 4, 4), (10, 4, 4), (20, 0, 0), (12, 0, 0), (9, 0, 0), (6, 0, 0)])) (F0 m 15 ls []) := by
          intro N
          induction N with
          | zero => intro v8381 H locs hq0_l8844 hq1_l8844 hm_l8844 hG hS hf7812 ls hl; exfalso; omega
          | succ N ih =>
            intro v8381 H locs hq0_l8844 hq1_l8844 hm_l8844 hG hS hf7812 ls hl
            refine lv_iload_n hx hb dX5_chooseChampions_15 rfl (lv_at hl 0 rfl) ?_
            refine lv_aload_n hx hb dX5_chooseChampions_16 rfl (lv_at hl 2 rfl) ?_
            refine tk_get (ci := 5) (C := RX5) (T := TX5) (N := 11) (sp := (8, 20, 3, 0)) hx hb htl inX5 hown hK hG ht_a0 (by decide) tk_no rfl 0 (by decide) (htl _ mw_155) (fun _ h9 => h9) rfl dX5_chooseChampions_17 (fun v9 hf8845 hV9 => ?_)
            obtain ⟨rfl, ht_ld20⟩ := hV9
            have ht_ld20 : t (ld 20) = (3, 0, 0) := ht_ld20
            refine fx_top (v := .ref (ld 20)) rfl ?_
            refine tk_getk (ci := 2) (C := RX2) (T := TX2) (N := 20) (sp := (0, 0, 8, 0)) hx hb htl inX2 hown hK hG ht_ld20 (by decide) tk_no rfl 0 (by decide) (htl _ mw_1419) (fun _ h9 => h9) rfl hf7812 dX5_chooseChampions_20 ?_
            refine lv_icmp_ge (tgt := 75) hx hb dX5_chooseChampions_23 (by decide) (fun c9 => ?_) (fun c9 => ?_)
            · have hc8846 : v7813.toInt ≤ v8381.toInt := (fi_le rfl rfl).mp c9
              obtain ⟨v8881, h_v8881, e_v8881⟩ := tk_inc v1 1 (by decide) (by omega) (by omega)
              refine lv_iinc (v := v8881) (lv' := [(2, .int v8881), (3, .int v8381), (0, .ref a0), (1, .int p1)]) hx hb dX5_chooseChampions_75 hl (k := 1) rfl e_v8881 (by decide) rfl (fun ls hl => ?_)
              refine lv_goto (tgt := 2) hx hb dX5_chooseChampions_78 (by decide) ?_
              exact ih v8881 _ _ (by omega) (by omega) (by omega) hG hS _ (lv_sub hl [0, 2, 3] rfl)
            · have hc8846 : ¬ (v7813.toInt ≤ v8381.toInt) := fun h9 => c9 ((fi_le rfl rfl).mpr h9)
              refine lv_aload_n hx hb dX5_chooseChampions_26 rfl (lv_at hl 2 rfl) ?_
              refine tk_get (ci := 5) (C := RX5) (T := TX5) (N := 11) (sp := (6, 30, 8, 0)) hx hb htl inX5 hown hK hG ht_a0 (by decide) tk_no rfl 6 (by decide) (htl _ mw_152) (fun _ h9 => h9) rfl dX5_chooseChampions_27 (fun v9 hf8882 hV9 => ?_)
              obtain ⟨b8883, rfl, ht_b8883⟩ := hV9
              have ht_b8883 : t b8883 = (30, 8, 0) := ht_b8883
              refine lv_iload_n hx hb dX5_chooseChampions_30 rfl (lv_at hl 1 rfl) ?_
              refine tk_aald hx hb hK hG 6 rfl rfl ht_b8883 (by decide) (fun _ h => h) tk_no rfl (by omega) (by omega) dX5_chooseChampions_31 (fun o8884 ht_o8884 => ?_)
              obtain ⟨b8885, rfl, ht_b8885⟩ := ht_o8884
              have ht_b8885 : t b8885 = (20, 8, 0) := ht_b8885
              refine fx_top (v := .ref b8885) rfl ?_
              refine lv_iload_n hx hb dX5_chooseChampions_32 rfl (lv_at hl 0 rfl) ?_
              refine lv_aload_n hx hb dX5_chooseChampions_33 rfl (lv_at hl 2 rfl) ?_
              refine tk_get (ci := 5) (C := RX5) (T := TX5) (N := 11) (sp := (8, 20, 3, 0)) hx hb htl inX5 hown hK hG ht_a0 (by decide) tk_no rfl 0 (by decide) (htl _ mw_155) (fun _ h9 => h9) rfl dX5_chooseChampions_34 (fun v9 hf8886 hV9 => ?_)
              obtain ⟨rfl, ht_ld20⟩ := hV9
              have ht_ld20 : t (ld 20) = (3, 0, 0) := ht_ld20
              refine fx_top (v := .ref (ld 20)) rfl ?_
              refine tk_get (ci := 2) (C := RX2) (T := TX2) (N := 20) (sp := (1, 21, 8, 0)) hx hb htl inX2 hown hK hG ht_ld20 (by decide) tk_no rfl 2 (by decide) (htl _ mw_1420) (fun _ h9 => h9) rfl dX5_chooseChampions_37 (fun v9 hf8887 hV9 => ?_)
              obtain ⟨b8888, rfl, ht_b8888⟩ := hV9
              have ht_b8888 : t b8888 = (21, 8, 0) := ht_b8888
              refine lv_iload_n hx hb dX5_chooseChampions_40 rfl (lv_at hl 1 rfl) ?_
              refine tk_iald hx hb hK hG ht_b8888 (by decide) (fun _ h => h) tk_no rfl (by omega) (by omega) dX5_chooseChampions_41 (fun v8889 hE9 _ => ?_)
              have he_v8889 : 0 ≤ v8889.toInt ∧ v8889.toInt ≤ 1 := hE9
              have hj8904 : ∀ (v8902 : Int32) (H : Heap) (locs : List Loc), (-1) ≤ v8902.toInt → v8902.toInt ≤ 1 → tk_G D cy ld t [] H → va_S (tk_w t [(20, 4, 4), (10, 4, 4), (20, 0, 0), (12, 0, 0), (9, 0, 0), (6, 0, 0)]) s.heap H locs → tk_f D H (ld 20) 2 0 (.int v7813) → ∀ ls : Array Slot, lv_has ls 4 [(3, .int v8381), (2, .int v1), (0, .ref a0), (1, .int p1)] → W p l e ({ frames := 13, cells := 0, slots := 0, locals := 840 }) s m args below meth c H locs 0 0 (MQ below (ti D cy ld t [] (fun r H => True) (tk_w t [(20, 4, 4), (10, 4, 4), (20, 0, 0), (12, 0, 0), (9, 0, 0), (6, 0, 0)])) args s 0 0 (tk_w t [(20, 4, 4), (10, 4, 4), (20, 0, 0), (12, 0, 0), (9, 0, 0), (6, 0, 0)])) (F0 m 68 ls [.int v8902, .int v8381, .ref b8885]) := by
                intro v8902 H locs hq0_j8904 hq1_j8904 hG hS hf7812 ls hl
                refine tk_iast hx hb hK hG hS ht_b8885 (by decide) (fun _ => Iff.rfl) tk_no rfl (by omega) (by omega) trivial (tk_w.of ht_b8885 (by decide) (List.mem_of_getElem? (i := 2) rfl) (Nat.le_refl _) (Nat.le_refl _)) dX5_chooseChampions_68 (fun H locs hG hS hq9 => ?_)
                have hf7812 := hf7812.kept (hq9 _ (tk_ne ht_ld20 ht_b8885 (Or.inl (by decide))))
                obtain ⟨v8906, h_v8906, e_v8906⟩ := tk_inc v8381 1 (by decide) (by omega) (by omega)
                refine lv_iinc (v := v8906) (lv' := [(3, .int v8906), (2, .int v1), (0, .ref a0), (1, .int p1)]) hx hb dX5_chooseChampions_69 hl (k := 0) rfl e_v8906 (by decide) rfl (fun ls hl => ?_)
                refine lv_goto (tgt := 15) hx hb dX5_chooseChampions_72 (by decide) ?_
                exact ih v8906 _ _ (by omega) (by omega) (by omega) hG hS hf7812 _ (lv_sub hl [0, 1, 2, 3] rfl)
              refine lv_if_ne (tgt := 67) hx hb dX5_chooseChampions_42 (by decide) (fun c9 => ?_) (fun c9 => ?_)
              · have hc8890 : ¬ (v8889.toInt = 0) := fun h9 => c9 ((fi_eq rfl (by decide)).mpr h9)
                refine lv_iconst (v := 0) hx hb dX5_chooseChampions_67 (by decide) ?_
                have hk_0 : (0 : Int32).toInt = 0 := by decide
                exact hj8904 0 _ _ (by omega) (by omega) hG hS hf7812 _ (lv_sub hl [0, 1, 2, 3] rfl)
              · have hc8890 : v8889.toInt = 0 := (fi_eq rfl (by decide)).mp c9
                refine lv_aload_n hx hb dX5_chooseChampions_45 rfl (lv_at hl 2 rfl) ?_
                refine tk_get (ci := 5) (C := RX5) (T := TX5) (N := 11) (sp := (8, 20, 3, 0)) hx hb htl inX5 hown hK hG ht_a0 (by decide) tk_no rfl 0 (by decide) (htl _ mw_155) (fun _ h9 => h9) rfl dX5_chooseChampions_46 (fun v9 hf8907 hV9 => ?_)
                obtain ⟨rfl, ht_ld20⟩ := hV9
                have ht_ld20 : t (ld 20) = (3, 0, 0) := ht_ld20
                refine fx_top (v := .ref (ld 20)) rfl ?_
                refine tk_get (ci := 2) (C := RX2) (T := TX2) (N := 20) (sp := (1, 21, 8, 0)) hx hb htl inX2 hown hK hG ht_ld20 (by decide) tk_no rfl 2 (by decide) (htl _ mw_1420) (fun _ h9 => h9) rfl dX5_chooseChampions_49 (fun v9 hf8908 hV9 => ?_)
                obtain ⟨b8909, rfl, ht_b8909⟩ := hV9
                have ht_b8909 : t b8909 = (21, 8, 0) := ht_b8909
                refine lv_iload_n hx hb dX5_chooseChampions_52 rfl (lv_at hl 0 rfl) ?_
                refine tk_iald hx hb hK hG ht_b8909 (by decide) (fun _ h => h) tk_no rfl (by omega) (by omega) dX5_chooseChampions_53 (fun v8910 hE9 _ => ?_)
                have he_v8910 : 0 ≤ v8910.toInt ∧ v8910.toInt ≤ 1 := hE9
                refine lv_iconst (v := 1) hx hb dX5_chooseChampions_54 (by decide) ?_
                refine lv_icmp_ne (tgt := 67) hx hb dX5_chooseChampions_55 (by decide) (fun c9 => ?_) (fun c9 => ?_)
                · have hc8911 : ¬ (v8910.toInt = 1) := fun h9 => c9 ((fi_eq rfl (by decide)).mpr h9)
                  refine lv_iconst (v := 0) hx hb dX5_chooseChampions_67 (by decide) ?_
                  have hk_0 : (0 : Int32).toInt = 0 := by decide
                  exact hj8904 0 _ _ (by omega) (by omega) hG hS hf7812 _ (lv_sub hl [0, 1, 2, 3] rfl)
                · have hc8911 : v8910.toInt = 1 := (fi_eq rfl (by decide)).mp c9
                  refine lv_aload_n hx hb dX5_chooseChampions_58 rfl (lv_at hl 2 rfl) ?_
                  refine lv_iload_n hx hb dX5_chooseChampions_59 rfl (lv_at hl 1 rfl) ?_
                  refine lv_iload_n hx hb dX5_chooseChampions_60 rfl (lv_at hl 0 rfl) ?_
                  refine tk_Vi (As := [.int v1, .int v8381]) (rest := [.int v8381, .ref b8885]) (ci := 5) ⟨hx, hb, hml, hown, hts⟩ hK hG hZ hS (k_X5_resultByRule l D cy ld t a0 v1 v8381 ht_a0 (by omega) (by omega) (by omega) (by omega)) trivial ⟨callB_of 2 hts (wl_in mw_1397) rfl rfl rfl (htl _ mw_40) (htl _ mw_1423) hd_yX5_resultByRule ⟨(Nat.le_of_ble_eq_true rfl), (Nat.le_of_ble_eq_true rfl)⟩, htl _ mw_1395, htl _ mw_1396⟩ ht_a0 (by decide) tk_no rfl (tk_w.pick [0, 1, 2, 3, 4] rfl) rfl hl.1 rfl (Nat.le_of_ble_eq_true rfl) dX5_chooseChampions_61 ⟨(Nat.le_of_ble_eq_true rfl), (Nat.le_of_ble_eq_true rfl)⟩ (fun v8912 H locs hpo hG hS hq9 => ?_)
                  have hf7812 := hf7812.call hq9 (tk_w.no ht_ld20 (by decide))
                  obtain ⟨hpo8914, hpo8915⟩ := hpo
                  refine lv_goto (tgt := 68) hx hb dX5_chooseChampions_64 (by decide) ?_
                  exact hj8904 v8912 _ _ (by omega) (by omega) hG hS hf7812 _ (lv_sub hl [0, 1, 2, 3] rfl)
        have hk_0 : (0 : Int32).toInt = 0 := by decide
        exact hl8844 9 0 _ _ (by omega) (by omega) (by omega) hG hS hf7812 _ (lv_sub hl [0, 1, 2, 3] rfl)
  have hk_0 : (0 : Int32).toInt = 0 := by decide
  exact hl7810 9 0 _ _ (by omega) (by omega) (by omega) hG hS _ (lv_sub hl [0, 1, 2] rfl)
theorem dX6_fail_0 : decode cX6_fail 0 = .ok (.aload_n 0, 1) := by decide +kernel
theorem dX6_fail_1 : decode cX6_fail 1 = .ok (.aload_n 0, 1) := by decide +kernel
theorem dX6_fail_2 : decode cX6_fail 2 = .ok (.getfield 50, 3) := by decide +kernel
theorem dX6_fail_5 : decode cX6_fail 5 = .ok (.iconst (-1), 1) := by decide +kernel
theorem dX6_fail_20 : decode cX6_fail 20 = .ok (.putfield 50, 3) := by decide +kernel
theorem dX6_fail_23 : decode cX6_fail 23 = .ok (.return_, 1) := by decide +kernel
theorem dX6_fail_6 : decode cX6_fail 6 = .ok (.if_icmp .ne 10, 3) := by decide +kernel
theorem dX6_fail_16 : decode cX6_fail 16 = .ok (.aload_n 0, 1) := by decide +kernel
theorem dX6_fail_17 : decode cX6_fail 17 = .ok (.getfield 50, 3) := by decide +kernel
theorem dX6_fail_9 : decode cX6_fail 9 = .ok (.aload_n 0, 1) := by decide +kernel
theorem dX6_fail_10 : decode cX6_fail 10 = .ok (.getfield 73, 3) := by decide +kernel
theorem dX6_fail_13 : decode cX6_fail 13 = .ok (.goto 7, 3) := by decide +kernel
set_option maxHeartbeats 4000000 in
set_option maxRecDepth 100000 in
theorem k_X6_fail (l : Launch) (D : va_G) (cy : Nat → ClassId) (ld : Nat → Nat) (t : tk_T) (a0 : Nat) (g9 : Int32) (ht_a0 : t a0 = (7, 0, 0)) (hp_0 : 0 ≤ g9.toInt) (hp_1 : g9.toInt ≤ 8) : Met l yX6_fail (wl yX6_fail cX6_fail 1 none) ({ frames := 3, cells := 0, slots := 0, locals := 140 }) (tp D cy ld t [] [.ref a0] (fun H => tk_f D H a0 6 9 (.int g9))) (tv D cy ld t [] (fun H => tk_f D H a0 6 9 (.int g9)) (tk_w t [(7, 0, 0)])) 0 0 (tk_w t [(7, 0, 0)]) := by
  refine tk_met (y := yX6_fail) (cc := cX6_fail) (maxL := 1) (ret := none) (av := [.ref a0]) _ _ (by decide) (Nat.le_of_ble_eq_true rfl) ?_
  intro p e s m args below meth c hx hb hr hml hts htl hown hlocks hK H locs hH hG hS hB hZ ls hl
  have hown : s.vm.findClass RX6 = some m.cls := hown
  have hl : lv_has ls 1 [(0, .ref a0)] := hl
  have hg_0 := hB
  refine lv_aload_n hx hb dX6_fail_0 rfl (lv_at hl 0 rfl) ?_
  refine lv_aload_n hx hb dX6_fail_1 rfl (lv_at hl 0 rfl) ?_
  refine tk_get (ci := 6) (C := RX6) (T := TX6) (N := 11) (sp := (0, (-2147483648), 2147483647, 0)) hx hb htl inX6 hown hK hG ht_a0 (by decide) tk_no rfl 10 (by decide) (htl _ mw_481) (fun _ h9 => h9) rfl dX6_fail_2 (fun v9 hf1 hV9 => ?_)
  obtain ⟨v2, rfl, ha_v2, hb_v2⟩ := hV9
  refine lv_iconst (v := (-1)) hx hb dX6_fail_5 (by decide) ?_
  have hj8 : ∀ (v7 : Int32), ∀ ls : Array Slot, lv_has ls 1 [] → W p l e ({ frames := 3, cells := 0, slots := 0, locals := 140 }) s m args below meth c H locs 0 0 (MQ below (tv D cy ld t [] (fun H => tk_f D H a0 6 9 (.int g9)) (tk_w t [(7, 0, 0)])) args s 0 0 (tk_w t [(7, 0, 0)])) (F0 m 20 ls [.int v7, .ref a0]) := by
    intro v7  ls hl
    refine tk_put (ci := 6) (v := .int v7) (ty := .int) (C := RX6) (T := TX6) (N := 11) (sp := (0, (-2147483648), 2147483647, 0)) hx hb htl inX6 tyX6 tyX6_ok nmX6 hown hK hG hS ht_a0 (by decide) tk_no rfl 10 (by decide) (htl _ mw_481) (fun _ h9 => h9) rfl (tyX6_ok 10 (by decide)) rfl rfl rfl (tk_Vi (tk_rng _).1 (tk_rng _).2) (fun _ h => tk_X7 h (by decide) (by decide)) (tk_w.of ht_a0 (by decide) (List.mem_of_getElem? (i := 0) rfl) (Nat.le_refl _) (Nat.le_refl _)) dX6_fail_20 (fun H locs hG hS hf9 hq9 hj9 => ?_)
    have hg_0 := hj9 9 _ (by decide) (by decide) hg_0
    exact tk_vret hx hb hr hlocks (show tk_f D H a0 6 9 (.int g9) from hg_0) hG hS dX6_fail_23
  refine lv_icmp_ne (tgt := 16) hx hb dX6_fail_6 (by decide) (fun c9 => ?_) (fun c9 => ?_)
  · have hc3 : ¬ (v2.toInt = (-1)) := fun h9 => c9 ((fi_eq rfl (by decide)).mpr h9)
    refine lv_aload_n hx hb dX6_fail_16 rfl (lv_at hl 0 rfl) ?_
    refine tk_getk (ci := 6) (C := RX6) (T := TX6) (N := 11) (sp := (0, (-2147483648), 2147483647, 0)) hx hb htl inX6 hown hK hG ht_a0 (by decide) tk_no rfl 10 (by decide) (htl _ mw_481) (fun _ h9 => h9) rfl hf1 dX6_fail_17 ?_
    exact hj8 v2 _ (lv_sub hl [] rfl)
  · have hc3 : v2.toInt = (-1) := (fi_eq rfl (by decide)).mp c9
    refine lv_aload_n hx hb dX6_fail_9 rfl (lv_at hl 0 rfl) ?_
    refine tk_get (ci := 6) (C := RX6) (T := TX6) (N := 11) (sp := (0, 0, 400, 0)) hx hb htl inX6 hown hK hG ht_a0 (by decide) tk_no rfl 4 (by decide) (htl _ mw_495) (fun _ h9 => h9) rfl dX6_fail_10 (fun v9 hf11 hV9 => ?_)
    obtain ⟨v12, rfl, ha_v12, hb_v12⟩ := hV9
    refine lv_goto (tgt := 20) hx hb dX6_fail_13 (by decide) ?_
    exact hj8 v12 _ (lv_sub hl [] rfl)
theorem dX6_isGood_0 : decode cX6_isGood 0 = .ok (.aload_n 0, 1) := by decide +kernel
theorem dX6_isGood_1 : decode cX6_isGood 1 = .ok (.getfield 50, 3) := by decide +kernel
theorem dX6_isGood_4 : decode cX6_isGood 4 = .ok (.iconst (-1), 1) := by decide +kernel
theorem dX6_isGood_13 : decode cX6_isGood 13 = .ok (.ireturn, 1) := by decide +kernel
theorem dX6_isGood_5 : decode cX6_isGood 5 = .ok (.if_icmp .ne 7, 3) := by decide +kernel
theorem dX6_isGood_12 : decode cX6_isGood 12 = .ok (.iconst 0, 1) := by decide +kernel
theorem dX6_isGood_8 : decode cX6_isGood 8 = .ok (.iconst 1, 1) := by decide +kernel
theorem dX6_isGood_9 : decode cX6_isGood 9 = .ok (.goto 4, 3) := by decide +kernel
set_option maxHeartbeats 4000000 in
set_option maxRecDepth 100000 in
theorem k_X6_isGood (l : Launch) (D : va_G) (cy : Nat → ClassId) (ld : Nat → Nat) (t : tk_T) (a0 : Nat) (ht_a0 : t a0 = (7, 0, 0)) : Met l yX6_isGood (wl yX6_isGood cX6_isGood 1 (some .boolean)) ({ frames := 3, cells := 0, slots := 0, locals := 140 }) (tp D cy ld t [] [.ref a0] (fun H => True)) (ti D cy ld t [] (fun r H => 0 ≤ r.toInt ∧ r.toInt ≤ 1 ∧ 0 ≤ r.toInt ∧ r.toInt ≤ 1) (tk_w t [])) 0 0 (tk_w t []) := by
  refine tk_met (y := yX6_isGood) (cc := cX6_isGood) (maxL := 1) (ret := (some .boolean)) (av := [.ref a0]) _ _ (by decide) (Nat.le_of_ble_eq_true rfl) ?_
  intro p e s m args below meth c hx hb hr hml hts htl hown hlocks hK H locs hH hG hS hB hZ ls hl
  have hown : s.vm.findClass RX6 = some m.cls := hown
  have hl : lv_has ls 1 [(0, .ref a0)] := hl
  refine lv_aload_n hx hb dX6_isGood_0 rfl (lv_at hl 0 rfl) ?_
  refine tk_get (ci := 6) (C := RX6) (T := TX6) (N := 11) (sp := (0, (-2147483648), 2147483647, 0)) hx hb htl inX6 hown hK hG ht_a0 (by decide) tk_no rfl 10 (by decide) (htl _ mw_481) (fun _ h9 => h9) rfl dX6_isGood_1 (fun v9 hf1 hV9 => ?_)
  obtain ⟨v2, rfl, ha_v2, hb_v2⟩ := hV9
  refine lv_iconst (v := (-1)) hx hb dX6_isGood_4 (by decide) ?_
  have hj6 : ∀ (v5 : Int32), 0 ≤ v5.toInt → v5.toInt ≤ 1 → ∀ ls : Array Slot, lv_has ls 1 [] → W p l e ({ frames := 3, cells := 0, slots := 0, locals := 140 }) s m args below meth c H locs 0 0 (MQ below (ti D cy ld t [] (fun r H => 0 ≤ r.toInt ∧ r.toInt ≤ 1 ∧ 0 ≤ r.toInt ∧ r.toInt ≤ 1) (tk_w t [])) args s 0 0 (tk_w t [])) (F0 m 13 ls [.int v5]) := by
    intro v5 hq0_j6 hq1_j6 ls hl
    exact tk_iret (v := v5) hx hb hr (tk_nz (by omega) (by omega)) hlocks (show 0 ≤ v5.toInt ∧ v5.toInt ≤ 1 ∧ 0 ≤ v5.toInt ∧ v5.toInt ≤ 1 from ⟨(by omega), (by omega), (by omega), (by omega)⟩) hG hS dX6_isGood_13
  refine lv_icmp_ne (tgt := 12) hx hb dX6_isGood_5 (by decide) (fun c9 => ?_) (fun c9 => ?_)
  · have hc3 : ¬ (v2.toInt = (-1)) := fun h9 => c9 ((fi_eq rfl (by decide)).mpr h9)
    refine lv_iconst (v := 0) hx hb dX6_isGood_12 (by decide) ?_
    have hk_0 : (0 : Int32).toInt = 0 := by decide
    exact hj6 0 (by omega) (by omega) _ (lv_sub hl [] rfl)
  · have hc3 : v2.toInt = (-1) := (fi_eq rfl (by decide)).mp c9
    refine lv_iconst (v := 1) hx hb dX6_isGood_8 (by decide) ?_
    refine lv_goto (tgt := 13) hx hb dX6_isGood_9 (by decide) ?_
    have hk_1 : (1 : Int32).toInt = 1 := by decide
    exact hj6 1 (by omega) (by omega) _ (lv_sub hl [] rfl)
theorem dJ0_isLatin1_aae02_0 : decode cJ0_isLatin1_aae02 0 = .ok (.getstatic 38, 3) := by decide +kernel
theorem dJ0_isLatin1_aae02_3 : decode cJ0_isLatin1_aae02 3 = .ok (.ifCond .eq 14, 3) := by decide +kernel
theorem dJ0_isLatin1_aae02_6 : decode cJ0_isLatin1_aae02 6 = .ok (.aload_n 0, 1) := by decide +kernel
theorem dJ0_isLatin1_aae02_7 : decode cJ0_isLatin1_aae02 7 = .ok (.getfield 15, 3) := by decide +kernel
theorem dJ0_isLatin1_aae02_10 : decode cJ0_isLatin1_aae02 10 = .ok (.ifCond .ne 7, 3) := by decide +kernel
theorem dJ0_isLatin1_aae02_13 : decode cJ0_isLatin1_aae02 13 = .ok (.iconst 1, 1) := by decide +kernel
theorem dJ0_isLatin1_aae02_14 : decode cJ0_isLatin1_aae02 14 = .ok (.goto 4, 3) := by decide +kernel
theorem dJ0_isLatin1_aae02_18 : decode cJ0_isLatin1_aae02 18 = .ok (.ireturn, 1) := by decide +kernel
set_option maxHeartbeats 4000000 in
set_option maxRecDepth 100000 in
theorem k_J0_isLatin1_aae02_7 (l : Launch) (D : va_G) (cy : Nat → ClassId) (ld : Nat → Nat) (t : tk_T) : Met l yJ0_isLatin1_aae02 (wl yJ0_isLatin1_aae02 cJ0_isLatin1_aae02 1 (some .boolean)) ({ frames := 3, cells := 0, slots := 0, locals := 140 }) (tp D cy ld t [] [.ref (ld 7)] (fun H => True)) (ti D cy ld t [] (fun r H => r.toInt + (-1) = 0 ∧ 0 ≤ r.toInt ∧ r.toInt ≤ 1) (tk_w t [])) 0 0 (tk_w t []) := by
  refine tk_met (y := yJ0_isLatin1_aae02) (cc := cJ0_isLatin1_aae02) (maxL := 1) (ret := (some .boolean)) (av := [.ref (ld 7)]) _ _ (by decide) (Nat.le_of_ble_eq_true rfl) ?_
  intro p e s m args below meth c hx hb hr hml hts htl hown hlocks hK H locs hH hG hS hB hZ ls hl
  have hown : s.vm.findClass RJ0 = some m.cls := hown
  have hl : lv_has ls 1 [(0, .ref (ld 7))] := hl
  refine va_gets hx hb (hZ.2.1.narrow (fun _ h => h.1)) hS hown (htl _ mw_528) (fun _ h9 => h9) dJ0_isLatin1_aae02_0 ?_
  refine lv_if_eq (tgt := 17) hx hb dJ0_isLatin1_aae02_3 (by decide) (fun c9 => absurd c9 (by decide)) (fun _ => ?_)
  refine lv_aload_n hx hb dJ0_isLatin1_aae02_6 rfl (lv_at hl 0 rfl) ?_
  refine vk_getf hx hb ((hZ.1.1 7 (by decide)).2.1.narrow (fun _ h => h.1)) hS hown (htl _ mw_529) (fun _ h9 => h9) dJ0_isLatin1_aae02_7 ?_
  refine lv_if_ne (tgt := 17) hx hb dJ0_isLatin1_aae02_10 (by decide) (fun c9 => absurd (by decide) c9) (fun _ => ?_)
  refine lv_iconst (v := 1) hx hb dJ0_isLatin1_aae02_13 (by decide) ?_
  refine lv_goto (tgt := 18) hx hb dJ0_isLatin1_aae02_14 (by decide) ?_
  have hk_1 : (1 : Int32).toInt = 1 := by decide
  exact tk_iret (v := 1) hx hb hr rfl hlocks (show (1 : Int32).toInt + (-1) = 0 ∧ 0 ≤ (1 : Int32).toInt ∧ (1 : Int32).toInt ≤ 1 from ⟨(by omega), (by omega), (by omega)⟩) hG hS dJ0_isLatin1_aae02_18
theorem dJ3_checkIndex_8e157_0 : decode cJ3_checkIndex_8e157 0 = .ok (.iload_n 0, 1) := by decide +kernel
theorem dJ3_checkIndex_8e157_1 : decode cJ3_checkIndex_8e157 1 = .ok (.ifCond .lt 8, 3) := by decide +kernel
theorem dJ3_checkIndex_8e157_4 : decode cJ3_checkIndex_8e157 4 = .ok (.iload_n 0, 1) := by decide +kernel
theorem dJ3_checkIndex_8e157_5 : decode cJ3_checkIndex_8e157 5 = .ok (.iload_n 1, 1) := by decide +kernel
theorem dJ3_checkIndex_8e157_6 : decode cJ3_checkIndex_8e157 6 = .ok (.if_icmp .lt 10, 3) := by decide +kernel
theorem dJ3_checkIndex_8e157_16 : decode cJ3_checkIndex_8e157 16 = .ok (.iload_n 0, 1) := by decide +kernel
theorem dJ3_checkIndex_8e157_17 : decode cJ3_checkIndex_8e157 17 = .ok (.ireturn, 1) := by decide +kernel
set_option maxHeartbeats 4000000 in
set_option maxRecDepth 100000 in
theorem k_J3_checkIndex_8e157_0 (l : Launch) (D : va_G) (cy : Nat → ClassId) (ld : Nat → Nat) (t : tk_T) (p0 : Int32) (p1 : Int32) (hp_0 : 0 ≤ p0.toInt) (hp_1 : p0.toInt ≤ 1000) (hp_2 : 1 ≤ p1.toInt) (hp_3 : p1.toInt ≤ 1000) (hp_4 : 0 ≤ (-1) * p0.toInt + p1.toInt + (-1)) : Met l yJ3_checkIndex_8e157 (wl yJ3_checkIndex_8e157 cJ3_checkIndex_8e157 3 (some .int)) ({ frames := 3, cells := 0, slots := 0, locals := 140 }) (tp D cy ld t [] [.int p0, .int p1, .null] (fun H => True)) (ti D cy ld t [] (fun r H => 0 ≤ r.toInt ∧ r.toInt ≤ 999) (tk_w t [])) 0 0 (tk_w t []) := by
  refine tk_met (y := yJ3_checkIndex_8e157) (cc := cJ3_checkIndex_8e157) (maxL := 3) (ret := (some .int)) (av := [.int p0, .int p1, .null]) _ _ (by decide) (Nat.le_of_ble_eq_true rfl) ?_
  intro p e s m args below meth c hx hb hr hml hts htl hown hlocks hK H locs hH hG hS hB hZ ls hl
  have hown : s.vm.findClass RJ3 = some m.cls := hown
  have hl : lv_has ls 3 [(0, .int p0), (1, .int p1), (2, .null)] := hl
  have hr_p0 := tk_rng p0
  have hr_p1 := tk_rng p1
  refine lv_iload_n hx hb dJ3_checkIndex_8e157_0 rfl (lv_at hl 0 rfl) ?_
  refine lv_if_lt (tgt := 9) hx hb dJ3_checkIndex_8e157_1 (by decide) (fun c9 => absurd (show p0.toInt < 0 from (fi_lt rfl (by decide)).mp c9) (by omega)) (fun _ => ?_)
  refine lv_iload_n hx hb dJ3_checkIndex_8e157_4 rfl (lv_at hl 0 rfl) ?_
  refine lv_iload_n hx hb dJ3_checkIndex_8e157_5 rfl (lv_at hl 1 rfl) ?_
  refine lv_icmp_lt (tgt := 16) hx hb dJ3_checkIndex_8e157_6 (by decide) (fun _ => ?_) (fun c9 => absurd ((fi_lt rfl rfl).mpr (show p0.toInt < p1.toInt by omega)) c9)
  refine lv_iload_n hx hb dJ3_checkIndex_8e157_16 rfl (lv_at hl 0 rfl) ?_
  exact tk_iret (v := p0) hx hb hr rfl hlocks (show 0 ≤ p0.toInt ∧ p0.toInt ≤ 999 from ⟨(by omega), (by omega)⟩) hG hS dJ3_checkIndex_8e157_17
set_option maxHeartbeats 4000000 in
set_option maxRecDepth 100000 in
theorem k_J3_checkIndex_8e157_1 (l : Launch) (D : va_G) (cy : Nat → ClassId) (ld : Nat → Nat) (t : tk_T) (p0 : Int32) (p1 : Int32) (a2 : Nat) (hp_0 : 0 ≤ p0.toInt) (hp_1 : p0.toInt ≤ 1000) (hp_2 : 1 ≤ p1.toInt) (hp_3 : p1.toInt ≤ 1000) (hp_4 : 0 ≤ (-1) * p0.toInt + p1.toInt + (-1)) : Met l yJ3_checkIndex_8e157 (wl yJ3_checkIndex_8e157 cJ3_checkIndex_8e157 3 (some .int)) ({ frames := 3, cells := 0, slots := 0, locals := 140 }) (tp D cy ld t [] [.int p0, .int p1, .ref a2] (fun H => True)) (ti D cy ld t [] (fun r H => 0 ≤ r.toInt ∧ r.toInt ≤ 999) (tk_w t [])) 0 0 (tk_w t []) := by
  refine tk_met (y := yJ3_checkIndex_8e157) (cc := cJ3_checkIndex_8e157) (maxL := 3) (ret := (some .int)) (av := [.int p0, .int p1, .ref a2]) _ _ (by decide) (Nat.le_of_ble_eq_true rfl) ?_
  intro p e s m args below meth c hx hb hr hml hts htl hown hlocks hK H locs hH hG hS hB hZ ls hl
  have hown : s.vm.findClass RJ3 = some m.cls := hown
  have hl : lv_has ls 3 [(0, .int p0), (1, .int p1), (2, .ref a2)] := hl
  have hr_p0 := tk_rng p0
  have hr_p1 := tk_rng p1
  refine lv_iload_n hx hb dJ3_checkIndex_8e157_0 rfl (lv_at hl 0 rfl) ?_
  refine lv_if_lt (tgt := 9) hx hb dJ3_checkIndex_8e157_1 (by decide) (fun c9 => absurd (show p0.toInt < 0 from (fi_lt rfl (by decide)).mp c9) (by omega)) (fun _ => ?_)
  refine lv_iload_n hx hb dJ3_checkIndex_8e157_4 rfl (lv_at hl 0 rfl) ?_
  refine lv_iload_n hx hb dJ3_checkIndex_8e157_5 rfl (lv_at hl 1 rfl) ?_
  refine lv_icmp_lt (tgt := 16) hx hb dJ3_checkIndex_8e157_6 (by decide) (fun _ => ?_) (fun c9 => absurd ((fi_lt rfl rfl).mpr (show p0.toInt < p1.toInt by omega)) c9)
  refine lv_iload_n hx hb dJ3_checkIndex_8e157_16 rfl (lv_at hl 0 rfl) ?_
  exact tk_iret (v := p0) hx hb hr rfl hlocks (show 0 ≤ p0.toInt ∧ p0.toInt ≤ 999 from ⟨(by omega), (by omega)⟩) hG hS dJ3_checkIndex_8e157_17
theorem dJ0_checkIndex_df160_0 : decode cJ0_checkIndex_df160 0 = .ok (.iload_n 0, 1) := by decide +kernel
theorem dJ0_checkIndex_df160_1 : decode cJ0_checkIndex_df160 1 = .ok (.iload_n 1, 1) := by decide +kernel
theorem dJ0_checkIndex_df160_2 : decode cJ0_checkIndex_df160 2 = .ok (.getstatic 1053, 3) := by decide +kernel
theorem dJ0_checkIndex_df160_5 : decode cJ0_checkIndex_df160 5 = .ok (.invokestatic 1059, 3) := by decide +kernel
theorem dJ0_checkIndex_df160_8 : decode cJ0_checkIndex_df160 8 = .ok (.pop, 1) := by decide +kernel
theorem dJ0_checkIndex_df160_9 : decode cJ0_checkIndex_df160 9 = .ok (.return_, 1) := by decide +kernel
set_option maxHeartbeats 4000000 in
set_option maxRecDepth 100000 in
theorem k_J0_checkIndex_df160 (l : Launch) (D : va_G) (cy : Nat → ClassId) (ld : Nat → Nat) (t : tk_T) (p0 : Int32) (p1 : Int32) (hp_0 : 0 ≤ p0.toInt) (hp_1 : p0.toInt ≤ 1000) (hp_2 : 1 ≤ p1.toInt) (hp_3 : p1.toInt ≤ 1000) (hp_4 : 0 ≤ (-1) * p0.toInt + p1.toInt + (-1)) : Met l yJ0_checkIndex_df160 (wl yJ0_checkIndex_df160 cJ0_checkIndex_df160 2 none) ({ frames := 4, cells := 0, slots := 0, locals := 210 }) (tp D cy ld t [] [.int p0, .int p1] (fun H => True)) (tv D cy ld t [] (fun H => True) (tk_w t [])) 0 0 (tk_w t []) := by
  refine tk_met (y := yJ0_checkIndex_df160) (cc := cJ0_checkIndex_df160) (maxL := 2) (ret := none) (av := [.int p0, .int p1]) _ _ (by decide) (Nat.le_of_ble_eq_true rfl) ?_
  intro p e s m args below meth c hx hb hr hml hts htl hown hlocks hK H locs hH hG hS hB hZ ls hl
  have hown : s.vm.findClass RJ0 = some m.cls := hown
  have hl : lv_has ls 2 [(0, .int p0), (1, .int p1)] := hl
  have hr_p0 := tk_rng p0
  have hr_p1 := tk_rng p1
  refine lv_iload_n hx hb dJ0_checkIndex_df160_0 rfl (lv_at hl 0 rfl) ?_
  refine lv_iload_n hx hb dJ0_checkIndex_df160_1 rfl (lv_at hl 1 rfl) ?_
  rcases hZ.2.2 with hzz | ⟨b1, hzz⟩
  · refine va_gets hx hb (hzz.narrow (fun _ h => h.1)) hS hown (htl _ mw_545) (fun _ h9 => h9) dJ0_checkIndex_df160_2 ?_
    refine tk_Si (As := [.int p0, .int p1, .null]) (rest := []) ⟨hx, hb, hml, hown, hts⟩ hK hG hZ hS (k_J3_checkIndex_8e157_0 l D cy ld t p0 p1 (by omega) (by omega) (by omega) (by omega) (by omega)) trivial ⟨callB_of 3 hts (wl_in mw_549) rfl rfl rfl (htl _ mw_548) (htl _ mw_546) hd_yJ3_checkIndex_8e157 ⟨(Nat.le_of_ble_eq_true rfl), (Nat.le_of_ble_eq_true rfl)⟩, htl _ mw_547⟩ (tk_w.pick [] rfl) rfl hl.1 rfl (Nat.le_of_ble_eq_true rfl) dJ0_checkIndex_df160_5 ⟨(Nat.le_of_ble_eq_true rfl), (Nat.le_of_ble_eq_true rfl)⟩ (fun v2 H locs hpo hG hS hq9 => ?_)
    obtain ⟨hpo4, hpo5⟩ := hpo
    refine lv_pop hx hb dJ0_checkIndex_df160_8 rfl ?_
    exact tk_vret hx hb hr hlocks trivial hG hS dJ0_checkIndex_df160_9
  · refine va_gets hx hb (hzz.narrow (fun _ h => h.1)) hS hown (htl _ mw_545) (fun _ h9 => h9) dJ0_checkIndex_df160_2 ?_
    refine tk_Si (As := [.int p0, .int p1, .ref b1]) (rest := []) ⟨hx, hb, hml, hown, hts⟩ hK hG hZ hS (k_J3_checkIndex_8e157_1 l D cy ld t p0 p1 b1 (by omega) (by omega) (by omega) (by omega) (by omega)) trivial ⟨callB_of 3 hts (wl_in mw_549) rfl rfl rfl (htl _ mw_548) (htl _ mw_546) hd_yJ3_checkIndex_8e157 ⟨(Nat.le_of_ble_eq_true rfl), (Nat.le_of_ble_eq_true rfl)⟩, htl _ mw_547⟩ (tk_w.pick [] rfl) rfl hl.1 rfl (Nat.le_of_ble_eq_true rfl) dJ0_checkIndex_df160_5 ⟨(Nat.le_of_ble_eq_true rfl), (Nat.le_of_ble_eq_true rfl)⟩ (fun v6 H locs hpo hG hS hq9 => ?_)
    obtain ⟨hpo8, hpo9⟩ := hpo
    refine lv_pop hx hb dJ0_checkIndex_df160_8 rfl ?_
    exact tk_vret hx hb hr hlocks trivial hG hS dJ0_checkIndex_df160_9
theorem dJ1_charAt_3b067_0 : decode cJ1_charAt_3b067 0 = .ok (.iload_n 1, 1) := by decide +kernel
theorem dJ1_charAt_3b067_1 : decode cJ1_charAt_3b067 1 = .ok (.aload_n 0, 1) := by decide +kernel
theorem dJ1_charAt_3b067_2 : decode cJ1_charAt_3b067 2 = .ok (.arraylength, 1) := by decide +kernel
theorem dJ1_charAt_3b067_3 : decode cJ1_charAt_3b067 3 = .ok (.invokestatic 9, 3) := by decide +kernel
theorem dJ1_charAt_3b067_6 : decode cJ1_charAt_3b067 6 = .ok (.aload_n 0, 1) := by decide +kernel
theorem dJ1_charAt_3b067_7 : decode cJ1_charAt_3b067 7 = .ok (.iload_n 1, 1) := by decide +kernel
theorem dJ1_charAt_3b067_8 : decode cJ1_charAt_3b067 8 = .ok (.baload, 1) := by decide +kernel
theorem dJ1_charAt_3b067_9 : decode cJ1_charAt_3b067 9 = .ok (.sipush 255, 3) := by decide +kernel
theorem dJ1_charAt_3b067_12 : decode cJ1_charAt_3b067 12 = .ok (.iand, 1) := by decide +kernel
theorem dJ1_charAt_3b067_13 : decode cJ1_charAt_3b067 13 = .ok (.i2c, 1) := by decide +kernel
theorem dJ1_charAt_3b067_14 : decode cJ1_charAt_3b067 14 = .ok (.ireturn, 1) := by decide +kernel
set_option maxHeartbeats 4000000 in
set_option maxRecDepth 100000 in
theorem k_J1_charAt_3b067_7 (l : Launch) (D : va_G) (cy : Nat → ClassId) (ld : Nat → Nat) (t : tk_T) (p1 : Int32) (hp_0 : 0 ≤ p1.toInt) (hp_1 : p1.toInt ≤ 1) : Met l yJ1_charAt_3b067 (wl yJ1_charAt_3b067 cJ1_charAt_3b067 2 (some .char)) ({ frames := 5, cells := 0, slots := 0, locals := 280 }) (tp D cy ld t [] [.ref (ld 57), .int p1] (fun H => True)) (ti D cy ld t [] (fun r H => 0 ≤ r.toInt ∧ r.toInt ≤ 255) (tk_w t [])) 0 0 (tk_w t []) := by
  refine tk_met (y := yJ1_charAt_3b067) (cc := cJ1_charAt_3b067) (maxL := 2) (ret := (some .char)) (av := [.ref (ld 57), .int p1]) _ _ (by decide) (Nat.le_of_ble_eq_true rfl) ?_
  intro p e s m args below meth c hx hb hr hml hts htl hown hlocks hK H locs hH hG hS hB hZ ls hl
  have hown : s.vm.findClass RJ1 = some m.cls := hown
  have hl : lv_has ls 2 [(0, .ref (ld 57)), (1, .int p1)] := hl
  have hr_p1 := tk_rng p1
  refine lv_iload_n hx hb dJ1_charAt_3b067_0 rfl (lv_at hl 1 rfl) ?_
  refine lv_aload_n hx hb dJ1_charAt_3b067_1 rfl (lv_at hl 0 rfl) ?_
  refine va_tlen (v := 2) hx hb ((hZ.1.1 7 (by decide)).2.2.2.narrow (fun _ h => h.1)) hS rfl dJ1_charAt_3b067_2 ?_
  have hk_2 : (2 : Int32).toInt = 2 := by decide
  refine tk_Sv (As := [.int p1, .int 2]) (rest := []) ⟨hx, hb, hml, hown, hts⟩ hK hG hZ hS (k_J0_checkIndex_df160 l D cy ld t p1 2 (by omega) (by omega) (by omega) (by omega) (by omega)) trivial ⟨callB_of 2 hts (wl_in mw_544) rfl rfl rfl (htl _ mw_521) (htl _ mw_542) hd_yJ0_checkIndex_df160 ⟨(Nat.le_of_ble_eq_true rfl), (Nat.le_of_ble_eq_true rfl)⟩, htl _ mw_543⟩ (tk_w.pick [] rfl) rfl hl.1 rfl (Nat.le_of_ble_eq_true rfl) dJ1_charAt_3b067_3 ⟨(Nat.le_of_ble_eq_true rfl), (Nat.le_of_ble_eq_true rfl)⟩ (fun H locs hpo hG hS hq9 => ?_)
  refine lv_aload_n hx hb dJ1_charAt_3b067_6 rfl (lv_at hl 0 rfl) ?_
  refine lv_iload_n hx hb dJ1_charAt_3b067_7 rfl (lv_at hl 1 rfl) ?_
  refine va_tb hx hb ((hZ.1.1 7 (by decide)).2.2.2.narrow (fun _ h => h.1)) hS (vp_in_iff.mpr ⟨by omega, show _ < ((2 : Nat) : Int) by omega⟩) rfl dJ1_charAt_3b067_8 ?_
  refine tk_any (fun v2 => ?_)
  refine lv_sipush (v := 255) hx hb dJ1_charAt_3b067_9 (by decide) ?_
  refine lv_iand hx hb dJ1_charAt_3b067_12 ?_
  refine tk_say (P := fun z => 0 ≤ z.toInt ∧ z.toInt ≤ 255) (tk_and v2 8 (by decide) (by decide)) (fun v3 h_v3 => ?_)
  obtain ⟨v4, e_v4, h_v4⟩ := tk_i2c (x := v3) (by omega) (by omega)
  refine lv_i2c (v := v4) hx hb dJ1_charAt_3b067_13 e_v4 ?_
  exact tk_iret (v := v4) hx hb hr (tk_nc (by omega) (by omega)) hlocks (show 0 ≤ v4.toInt ∧ v4.toInt ≤ 255 from ⟨(by omega), (by omega)⟩) hG hS dJ1_charAt_3b067_14
theorem dJ0_charAt_5068e_0 : decode cJ0_charAt_5068e 0 = .ok (.aload_n 0, 1) := by decide +kernel
theorem dJ0_charAt_5068e_1 : decode cJ0_charAt_5068e 1 = .ok (.invokevirtual 492, 3) := by decide +kernel
theorem dJ0_charAt_5068e_4 : decode cJ0_charAt_5068e 4 = .ok (.ifCond .eq 12, 3) := by decide +kernel
theorem dJ0_charAt_5068e_7 : decode cJ0_charAt_5068e 7 = .ok (.aload_n 0, 1) := by decide +kernel
theorem dJ0_charAt_5068e_8 : decode cJ0_charAt_5068e 8 = .ok (.getfield 9, 3) := by decide +kernel
theorem dJ0_charAt_5068e_11 : decode cJ0_charAt_5068e 11 = .ok (.iload_n 1, 1) := by decide +kernel
theorem dJ0_charAt_5068e_12 : decode cJ0_charAt_5068e 12 = .ok (.invokestatic 495, 3) := by decide +kernel
theorem dJ0_charAt_5068e_15 : decode cJ0_charAt_5068e 15 = .ok (.ireturn, 1) := by decide +kernel
set_option maxHeartbeats 4000000 in
set_option maxRecDepth 100000 in
theorem k_J0_charAt_5068e_7 (l : Launch) (D : va_G) (cy : Nat → ClassId) (ld : Nat → Nat) (t : tk_T) (p1 : Int32) (hp_0 : 0 ≤ p1.toInt) (hp_1 : p1.toInt ≤ 1) : Met l yJ0_charAt_5068e (wl yJ0_charAt_5068e cJ0_charAt_5068e 2 (some .char)) ({ frames := 6, cells := 0, slots := 0, locals := 350 }) (tp D cy ld t [] [.ref (ld 7), .int p1] (fun H => True)) (ti D cy ld t [] (fun r H => 0 ≤ r.toInt ∧ r.toInt ≤ 255) (tk_w t [])) 0 0 (tk_w t []) := by
  refine tk_met (y := yJ0_charAt_5068e) (cc := cJ0_charAt_5068e) (maxL := 2) (ret := (some .char)) (av := [.ref (ld 7), .int p1]) _ _ (by decide) (Nat.le_of_ble_eq_true rfl) ?_
  intro p e s m args below meth c hx hb hr hml hts htl hown hlocks hK H locs hH hG hS hB hZ ls hl
  have hown : s.vm.findClass RJ0 = some m.cls := hown
  have hl : lv_has ls 2 [(0, .ref (ld 7)), (1, .int p1)] := hl
  have hr_p1 := tk_rng p1
  refine lv_aload_n hx hb dJ0_charAt_5068e_0 rfl (lv_at hl 0 rfl) ?_
  refine tk_Ti (As := []) (rest := []) (j := 7) ⟨hx, hb, hml, hown, hts⟩ hK hG hZ hS (k_J0_isLatin1_aae02_7 l D cy ld t) trivial ⟨callB_of 0 hts (wl_in mw_537) rfl rfl rfl (htl _ mw_521) (htl _ mw_534) hd_yJ0_isLatin1_aae02 ⟨(Nat.le_of_ble_eq_true rfl), (Nat.le_of_ble_eq_true rfl)⟩, htl _ mw_535, htl _ mw_536⟩ (by decide) (tk_w.pick [] rfl) rfl hl.1 rfl (Nat.le_of_ble_eq_true rfl) dJ0_charAt_5068e_1 ⟨(Nat.le_of_ble_eq_true rfl), (Nat.le_of_ble_eq_true rfl)⟩ (fun v1 H locs hpo hG hS hq9 => ?_)
  obtain ⟨hpo3, hpo4, hpo5⟩ := hpo
  refine lv_if_eq (tgt := 16) hx hb dJ0_charAt_5068e_4 (by decide) (fun c9 => absurd (show v1.toInt = 0 from (fi_eq rfl (by decide)).mp c9) (by omega)) (fun _ => ?_)
  refine lv_aload_n hx hb dJ0_charAt_5068e_7 rfl (lv_at hl 0 rfl) ?_
  refine vk_getf hx hb ((hZ.1.1 7 (by decide)).2.2.1.narrow (fun _ h => h.1)) hS hown (htl _ mw_523) (fun _ h9 => h9) dJ0_charAt_5068e_8 ?_
  refine lv_iload_n hx hb dJ0_charAt_5068e_11 rfl (lv_at hl 1 rfl) ?_
  refine tk_Si (As := [.ref (ld 57), .int p1]) (rest := []) ⟨hx, hb, hml, hown, hts⟩ hK hG hZ hS (k_J1_charAt_3b067_7 l D cy ld t p1 (by omega) (by omega)) trivial ⟨callB_of 2 hts (wl_in mw_541) rfl rfl rfl (htl _ mw_540) (htl _ mw_538) hd_yJ1_charAt_3b067 ⟨(Nat.le_of_ble_eq_true rfl), (Nat.le_of_ble_eq_true rfl)⟩, htl _ mw_539⟩ (tk_w.pick [] rfl) rfl hl.1 rfl (Nat.le_of_ble_eq_true rfl) dJ0_charAt_5068e_12 ⟨(Nat.le_of_ble_eq_true rfl), (Nat.le_of_ble_eq_true rfl)⟩ (fun v6 H locs hpo hG hS hq9 => ?_)
  obtain ⟨hpo8, hpo9⟩ := hpo
  exact tk_iret (v := v6) hx hb hr (tk_nc (by omega) (by omega)) hlocks (show 0 ≤ v6.toInt ∧ v6.toInt ≤ 255 from ⟨(by omega), (by omega)⟩) hG hS dJ0_charAt_5068e_15
theorem dJ0_coder_7d493_0 : decode cJ0_coder_7d493 0 = .ok (.getstatic 38, 3) := by decide +kernel
theorem dJ0_coder_7d493_3 : decode cJ0_coder_7d493 3 = .ok (.ifCond .eq 10, 3) := by decide +kernel
theorem dJ0_coder_7d493_6 : decode cJ0_coder_7d493 6 = .ok (.aload_n 0, 1) := by decide +kernel
theorem dJ0_coder_7d493_7 : decode cJ0_coder_7d493 7 = .ok (.getfield 15, 3) := by decide +kernel
theorem dJ0_coder_7d493_10 : decode cJ0_coder_7d493 10 = .ok (.goto 4, 3) := by decide +kernel
theorem dJ0_coder_7d493_14 : decode cJ0_coder_7d493 14 = .ok (.ireturn, 1) := by decide +kernel
set_option maxHeartbeats 4000000 in
set_option maxRecDepth 100000 in
theorem k_J0_coder_7d493_7 (l : Launch) (D : va_G) (cy : Nat → ClassId) (ld : Nat → Nat) (t : tk_T) : Met l yJ0_coder_7d493 (wl yJ0_coder_7d493 cJ0_coder_7d493 1 (some .byte)) ({ frames := 3, cells := 0, slots := 0, locals := 140 }) (tp D cy ld t [] [.ref (ld 7)] (fun H => True)) (ti D cy ld t [] (fun r H => r.toInt = 0) (tk_w t [])) 0 0 (tk_w t []) := by
  refine tk_met (y := yJ0_coder_7d493) (cc := cJ0_coder_7d493) (maxL := 1) (ret := (some .byte)) (av := [.ref (ld 7)]) _ _ (by decide) (Nat.le_of_ble_eq_true rfl) ?_
  intro p e s m args below meth c hx hb hr hml hts htl hown hlocks hK H locs hH hG hS hB hZ ls hl
  have hown : s.vm.findClass RJ0 = some m.cls := hown
  have hl : lv_has ls 1 [(0, .ref (ld 7))] := hl
  refine va_gets hx hb (hZ.2.1.narrow (fun _ h => h.1)) hS hown (htl _ mw_528) (fun _ h9 => h9) dJ0_coder_7d493_0 ?_
  refine lv_if_eq (tgt := 13) hx hb dJ0_coder_7d493_3 (by decide) (fun c9 => absurd c9 (by decide)) (fun _ => ?_)
  refine lv_aload_n hx hb dJ0_coder_7d493_6 rfl (lv_at hl 0 rfl) ?_
  refine vk_getf hx hb ((hZ.1.1 7 (by decide)).2.1.narrow (fun _ h => h.1)) hS hown (htl _ mw_529) (fun _ h9 => h9) dJ0_coder_7d493_7 ?_
  refine lv_goto (tgt := 14) hx hb dJ0_coder_7d493_10 (by decide) ?_
  have hk_0 : (0 : Int32).toInt = 0 := by decide
  exact tk_iret (v := 0) hx hb hr rfl hlocks (show (0 : Int32).toInt = 0 from (by omega)) hG hS dJ0_coder_7d493_14
theorem dX6_kindOf_0 : decode cX6_kindOf 0 = .ok (.iload_n 0, 1) := by decide +kernel
theorem dX6_kindOf_1 : decode cX6_kindOf 1 = .ok (.bipush 97, 2) := by decide +kernel
theorem dX6_kindOf_3 : decode cX6_kindOf 3 = .ok (.if_icmp .lt 11, 3) := by decide +kernel
theorem dX6_kindOf_14 : decode cX6_kindOf 14 = .ok (.iload_n 0, 1) := by decide +kernel
theorem dX6_kindOf_15 : decode cX6_kindOf 15 = .ok (.bipush 48, 2) := by decide +kernel
theorem dX6_kindOf_31 : decode cX6_kindOf 31 = .ok (.ireturn, 1) := by decide +kernel
theorem dX6_kindOf_17 : decode cX6_kindOf 17 = .ok (.if_icmp .lt 13, 3) := by decide +kernel
theorem dX6_kindOf_30 : decode cX6_kindOf 30 = .ok (.iconst 3, 1) := by decide +kernel
theorem dX6_kindOf_20 : decode cX6_kindOf 20 = .ok (.iload_n 0, 1) := by decide +kernel
theorem dX6_kindOf_21 : decode cX6_kindOf 21 = .ok (.bipush 57, 2) := by decide +kernel
theorem dX6_kindOf_23 : decode cX6_kindOf 23 = .ok (.if_icmp .gt 7, 3) := by decide +kernel
theorem dX6_kindOf_26 : decode cX6_kindOf 26 = .ok (.iconst 2, 1) := by decide +kernel
theorem dX6_kindOf_27 : decode cX6_kindOf 27 = .ok (.goto 4, 3) := by decide +kernel
theorem dX6_kindOf_6 : decode cX6_kindOf 6 = .ok (.iload_n 0, 1) := by decide +kernel
theorem dX6_kindOf_7 : decode cX6_kindOf 7 = .ok (.bipush 122, 2) := by decide +kernel
theorem dX6_kindOf_9 : decode cX6_kindOf 9 = .ok (.if_icmp .gt 5, 3) := by decide +kernel
theorem dX6_kindOf_12 : decode cX6_kindOf 12 = .ok (.iconst 1, 1) := by decide +kernel
theorem dX6_kindOf_13 : decode cX6_kindOf 13 = .ok (.ireturn, 1) := by decide +kernel
set_option maxHeartbeats 4000000 in
set_option maxRecDepth 100000 in
theorem k_X6_kindOf (l : Launch) (D : va_G) (cy : Nat → ClassId) (ld : Nat → Nat) (t : tk_T) (X : List Nat) (p0 : Int32) : Met l yX6_kindOf (wl yX6_kindOf cX6_kindOf 1 (some .int)) ({ frames := 3, cells := 0, slots := 0, locals := 140 }) (tp D cy ld t X [.int p0] (fun H => True)) (ti D cy ld t X (fun r H => 1 ≤ r.toInt ∧ r.toInt ≤ 3) (tk_w t [])) 0 0 (tk_w t []) := by
  refine tk_met (y := yX6_kindOf) (cc := cX6_kindOf) (maxL := 1) (ret := (some .int)) (av := [.int p0]) _ _ (by decide) (Nat.le_of_ble_eq_true rfl) ?_
  intro p e s m args below meth c hx hb hr hml hts htl hown hlocks hK H locs hH hG hS hB hZ ls hl
  have hown : s.vm.findClass RX6 = some m.cls := hown
  have hl : lv_has ls 1 [(0, .int p0)] := hl
  have hr_p0 := tk_rng p0
  refine lv_iload_n hx hb dX6_kindOf_0 rfl (lv_at hl 0 rfl) ?_
  refine lv_bipush (v := 97) hx hb dX6_kindOf_1 (by decide) ?_
  refine lv_icmp_lt (tgt := 14) hx hb dX6_kindOf_3 (by decide) (fun c9 => ?_) (fun c9 => ?_)
  · have hc1 : p0.toInt < 97 := (fi_lt rfl (by decide)).mp c9
    refine lv_iload_n hx hb dX6_kindOf_14 rfl (lv_at hl 0 rfl) ?_
    refine lv_bipush (v := 48) hx hb dX6_kindOf_15 (by decide) ?_
    have hj6 : ∀ (v5 : Int32), 2 ≤ v5.toInt → v5.toInt ≤ 3 → ∀ ls : Array Slot, lv_has ls 1 [] → W p l e ({ frames := 3, cells := 0, slots := 0, locals := 140 }) s m args below meth c H locs 0 0 (MQ below (ti D cy ld t X (fun r H => 1 ≤ r.toInt ∧ r.toInt ≤ 3) (tk_w t [])) args s 0 0 (tk_w t [])) (F0 m 31 ls [.int v5]) := by
      intro v5 hq0_j6 hq1_j6 ls hl
      exact tk_iret (v := v5) hx hb hr rfl hlocks (show 1 ≤ v5.toInt ∧ v5.toInt ≤ 3 from ⟨(by omega), (by omega)⟩) hG hS dX6_kindOf_31
    refine lv_icmp_lt (tgt := 30) hx hb dX6_kindOf_17 (by decide) (fun c9 => ?_) (fun c9 => ?_)
    · have hc2 : p0.toInt < 48 := (fi_lt rfl (by decide)).mp c9
      refine lv_iconst (v := 3) hx hb dX6_kindOf_30 (by decide) ?_
      have hk_3 : (3 : Int32).toInt = 3 := by decide
      exact hj6 3 (by omega) (by omega) _ (lv_sub hl [] rfl)
    · have hc2 : ¬ (p0.toInt < 48) := fun h9 => c9 ((fi_lt rfl (by decide)).mpr h9)
      refine lv_iload_n hx hb dX6_kindOf_20 rfl (lv_at hl 0 rfl) ?_
      refine lv_bipush (v := 57) hx hb dX6_kindOf_21 (by decide) ?_
      refine lv_icmp_gt (tgt := 30) hx hb dX6_kindOf_23 (by decide) (fun c9 => ?_) (fun c9 => ?_)
      · have hc7 : 57 < p0.toInt := (fi_lt (by decide) rfl).mp c9
        refine lv_iconst (v := 3) hx hb dX6_kindOf_30 (by decide) ?_
        have hk_3 : (3 : Int32).toInt = 3 := by decide
        exact hj6 3 (by omega) (by omega) _ (lv_sub hl [] rfl)
      · have hc7 : ¬ (57 < p0.toInt) := fun h9 => c9 ((fi_lt (by decide) rfl).mpr h9)
        refine lv_iconst (v := 2) hx hb dX6_kindOf_26 (by decide) ?_
        refine lv_goto (tgt := 31) hx hb dX6_kindOf_27 (by decide) ?_
        have hk_2 : (2 : Int32).toInt = 2 := by decide
        exact hj6 2 (by omega) (by omega) _ (lv_sub hl [] rfl)
  · have hc1 : ¬ (p0.toInt < 97) := fun h9 => c9 ((fi_lt rfl (by decide)).mpr h9)
    refine lv_iload_n hx hb dX6_kindOf_6 rfl (lv_at hl 0 rfl) ?_
    refine lv_bipush (v := 122) hx hb dX6_kindOf_7 (by decide) ?_
    refine lv_icmp_gt (tgt := 14) hx hb dX6_kindOf_9 (by decide) (fun c9 => ?_) (fun c9 => ?_)
    · have hc8 : 122 < p0.toInt := (fi_lt (by decide) rfl).mp c9
      refine lv_iload_n hx hb dX6_kindOf_14 rfl (lv_at hl 0 rfl) ?_
      refine lv_bipush (v := 48) hx hb dX6_kindOf_15 (by decide) ?_
      refine lv_icmp_lt (tgt := 30) hx hb dX6_kindOf_17 (by decide) (fun c9 => absurd (show p0.toInt < 48 from (fi_lt rfl (by decide)).mp c9) (by omega)) (fun _ => ?_)
      refine lv_iload_n hx hb dX6_kindOf_20 rfl (lv_at hl 0 rfl) ?_
      refine lv_bipush (v := 57) hx hb dX6_kindOf_21 (by decide) ?_
      refine lv_icmp_gt (tgt := 30) hx hb dX6_kindOf_23 (by decide) (fun _ => ?_) (fun c9 => absurd ((fi_lt (by decide) rfl).mpr (show 57 < p0.toInt by omega)) c9)
      refine lv_iconst (v := 3) hx hb dX6_kindOf_30 (by decide) ?_
      have hk_3 : (3 : Int32).toInt = 3 := by decide
      exact tk_iret (v := 3) hx hb hr rfl hlocks (show 1 ≤ (3 : Int32).toInt ∧ (3 : Int32).toInt ≤ 3 from ⟨(by omega), (by omega)⟩) hG hS dX6_kindOf_31
    · have hc8 : ¬ (122 < p0.toInt) := fun h9 => c9 ((fi_lt (by decide) rfl).mpr h9)
      refine lv_iconst (v := 1) hx hb dX6_kindOf_12 (by decide) ?_
      have hk_1 : (1 : Int32).toInt = 1 := by decide
      exact tk_iret (v := 1) hx hb hr rfl hlocks (show 1 ≤ (1 : Int32).toInt ∧ (1 : Int32).toInt ≤ 3 from ⟨(by omega), (by omega)⟩) hG hS dX6_kindOf_13
theorem dX6_step_0 : decode cX6_step 0 = .ok (.aload_n 0, 1) := by decide +kernel
theorem dX6_step_1 : decode cX6_step 1 = .ok (.getfield 41, 3) := by decide +kernel
theorem dX6_step_4 : decode cX6_step 4 = .ok (.istore_n 1, 1) := by decide +kernel
theorem dX6_step_5 : decode cX6_step 5 = .ok (.iload_n 1, 1) := by decide +kernel
theorem dX6_step_6 : decode cX6_step 6 = .ok (.aload_n 0, 1) := by decide +kernel
theorem dX6_step_7 : decode cX6_step 7 = .ok (.getfield 33, 3) := by decide +kernel
theorem dX6_step_30 : decode cX6_step 30 = .ok (.aload_n 0, 1) := by decide +kernel
theorem dX6_step_31 : decode cX6_step 31 = .ok (.iload_n 1, 1) := by decide +kernel
theorem dX6_step_32 : decode cX6_step 32 = .ok (.putfield 73, 3) := by decide +kernel
theorem dX6_step_35 : decode cX6_step 35 = .ok (.aload_n 0, 1) := by decide +kernel
theorem dX6_step_36 : decode cX6_step 36 = .ok (.iload_n 1, 1) := by decide +kernel
theorem dX6_step_37 : decode cX6_step 37 = .ok (.aload_n 0, 1) := by decide +kernel
theorem dX6_step_38 : decode cX6_step 38 = .ok (.getfield 33, 3) := by decide +kernel
theorem dX6_step_41 : decode cX6_step 41 = .ok (.if_icmp .ge 15, 3) := by decide +kernel
theorem dX6_step_56 : decode cX6_step 56 = .ok (.iconst 0, 1) := by decide +kernel
theorem dX6_step_57 : decode cX6_step 57 = .ok (.putfield 67, 3) := by decide +kernel
theorem dX6_step_60 : decode cX6_step 60 = .ok (.aload_n 0, 1) := by decide +kernel
theorem dX6_step_61 : decode cX6_step 61 = .ok (.iconst 0, 1) := by decide +kernel
theorem dX6_step_62 : decode cX6_step 62 = .ok (.putfield 80, 3) := by decide +kernel
theorem dX6_step_65 : decode cX6_step 65 = .ok (.iload_n 1, 1) := by decide +kernel
theorem dX6_step_66 : decode cX6_step 66 = .ok (.istore_n 2, 1) := by decide +kernel
theorem dX6_step_67 : decode cX6_step 67 = .ok (.iload_n 1, 1) := by decide +kernel
theorem dX6_step_68 : decode cX6_step 68 = .ok (.aload_n 0, 1) := by decide +kernel
theorem dX6_step_69 : decode cX6_step 69 = .ok (.getfield 33, 3) := by decide +kernel
theorem dX6_step_72 : decode cX6_step 72 = .ok (.if_icmp .ge 77, 3) := by decide +kernel
theorem dX6_step_149 : decode cX6_step 149 = .ok (.aload_n 0, 1) := by decide +kernel
theorem dX6_step_150 : decode cX6_step 150 = .ok (.iload_n 1, 1) := by decide +kernel
theorem dX6_step_151 : decode cX6_step 151 = .ok (.putfield 41, 3) := by decide +kernel
theorem dX6_step_154 : decode cX6_step 154 = .ok (.return_, 1) := by decide +kernel
theorem dX6_step_44 : decode cX6_step 44 = .ok (.aload_n 0, 1) := by decide +kernel
theorem dX6_step_45 : decode cX6_step 45 = .ok (.getfield 20, 3) := by decide +kernel
theorem dX6_step_48 : decode cX6_step 48 = .ok (.iload_n 1, 1) := by decide +kernel
theorem dX6_step_49 : decode cX6_step 49 = .ok (.iaload, 1) := by decide +kernel
theorem dX6_step_50 : decode cX6_step 50 = .ok (.invokestatic 76, 3) := by decide +kernel
theorem dX6_step_53 : decode cX6_step 53 = .ok (.goto 4, 3) := by decide +kernel
theorem dX6_step_75 : decode cX6_step 75 = .ok (.iload_n 1, 1) := by decide +kernel
theorem dX6_step_76 : decode cX6_step 76 = .ok (.iload_n 2, 1) := by decide +kernel
theorem dX6_step_77 : decode cX6_step 77 = .ok (.if_icmp .eq 11, 3) := by decide +kernel
theorem dX6_step_88 : decode cX6_step 88 = .ok (.aload_n 0, 1) := by decide +kernel
theorem dX6_step_89 : decode cX6_step 89 = .ok (.getfield 20, 3) := by decide +kernel
theorem dX6_step_92 : decode cX6_step 92 = .ok (.iload_n 1, 1) := by decide +kernel
theorem dX6_step_93 : decode cX6_step 93 = .ok (.iaload, 1) := by decide +kernel
theorem dX6_step_94 : decode cX6_step 94 = .ok (.invokestatic 76, 3) := by decide +kernel
theorem dX6_step_97 : decode cX6_step 97 = .ok (.aload_n 0, 1) := by decide +kernel
theorem dX6_step_98 : decode cX6_step 98 = .ok (.getfield 67, 3) := by decide +kernel
theorem dX6_step_101 : decode cX6_step 101 = .ok (.if_icmp .ne 48, 3) := by decide +kernel
theorem dX6_step_104 : decode cX6_step 104 = .ok (.aload_n 0, 1) := by decide +kernel
theorem dX6_step_105 : decode cX6_step 105 = .ok (.aload_n 0, 1) := by decide +kernel
theorem dX6_step_106 : decode cX6_step 106 = .ok (.getfield 67, 3) := by decide +kernel
theorem dX6_step_109 : decode cX6_step 109 = .ok (.iconst 2, 1) := by decide +kernel
theorem dX6_step_140 : decode cX6_step 140 = .ok (.putfield 80, 3) := by decide +kernel
theorem dX6_step_143 : decode cX6_step 143 = .ok (.iinc 1 1, 3) := by decide +kernel
theorem dX6_step_146 : decode cX6_step 146 = .ok (.goto (-79), 3) := by decide +kernel
theorem dX6_step_110 : decode cX6_step 110 = .ok (.if_icmp .ne 29, 3) := by decide +kernel
theorem dX6_step_139 : decode cX6_step 139 = .ok (.iconst 0, 1) := by decide +kernel
theorem dX6_step_113 : decode cX6_step 113 = .ok (.aload_n 0, 1) := by decide +kernel
theorem dX6_step_114 : decode cX6_step 114 = .ok (.getfield 80, 3) := by decide +kernel
theorem dX6_step_117 : decode cX6_step 117 = .ok (.bipush 10, 2) := by decide +kernel
theorem dX6_step_119 : decode cX6_step 119 = .ok (.imul, 1) := by decide +kernel
theorem dX6_step_120 : decode cX6_step 120 = .ok (.aload_n 0, 1) := by decide +kernel
theorem dX6_step_121 : decode cX6_step 121 = .ok (.getfield 20, 3) := by decide +kernel
theorem dX6_step_124 : decode cX6_step 124 = .ok (.iload_n 1, 1) := by decide +kernel
theorem dX6_step_125 : decode cX6_step 125 = .ok (.iaload, 1) := by decide +kernel
theorem dX6_step_126 : decode cX6_step 126 = .ok (.iadd, 1) := by decide +kernel
theorem dX6_step_127 : decode cX6_step 127 = .ok (.bipush 48, 2) := by decide +kernel
theorem dX6_step_129 : decode cX6_step 129 = .ok (.isub, 1) := by decide +kernel
theorem dX6_step_130 : decode cX6_step 130 = .ok (.sipush 1001, 3) := by decide +kernel
theorem dX6_step_133 : decode cX6_step 133 = .ok (.invokestatic 27, 3) := by decide +kernel
theorem dX6_step_136 : decode cX6_step 136 = .ok (.goto 4, 3) := by decide +kernel
theorem dX6_step_80 : decode cX6_step 80 = .ok (.aload_n 0, 1) := by decide +kernel
theorem dX6_step_81 : decode cX6_step 81 = .ok (.getfield 67, 3) := by decide +kernel
theorem dX6_step_84 : decode cX6_step 84 = .ok (.iconst 3, 1) := by decide +kernel
theorem dX6_step_85 : decode cX6_step 85 = .ok (.if_icmp .eq 64, 3) := by decide +kernel
theorem dX6_step_10 : decode cX6_step 10 = .ok (.if_icmp .ge 20, 3) := by decide +kernel
theorem dX6_step_13 : decode cX6_step 13 = .ok (.aload_n 0, 1) := by decide +kernel
theorem dX6_step_14 : decode cX6_step 14 = .ok (.getfield 20, 3) := by decide +kernel
theorem dX6_step_17 : decode cX6_step 17 = .ok (.iload_n 1, 1) := by decide +kernel
theorem dX6_step_18 : decode cX6_step 18 = .ok (.iaload, 1) := by decide +kernel
theorem dX6_step_19 : decode cX6_step 19 = .ok (.bipush 32, 2) := by decide +kernel
theorem dX6_step_21 : decode cX6_step 21 = .ok (.if_icmp .ne 9, 3) := by decide +kernel
theorem dX6_step_24 : decode cX6_step 24 = .ok (.iinc 1 1, 3) := by decide +kernel
theorem dX6_step_27 : decode cX6_step 27 = .ok (.goto (-22), 3) := by decide +kernel
set_option maxHeartbeats 4000000 in
set_option maxRecDepth 100000 in
theorem k_X6_step (l : Launch) (D : va_G) (cy : Nat → ClassId) (ld : Nat → Nat) (t : tk_T) (a0 : Nat) (g9 : Int32) (ht_a0 : t a0 = (7, 0, 0)) (hp_0 : 0 ≤ g9.toInt) (hp_1 : g9.toInt ≤ 8) : Met l yX6_step (wl yX6_step cX6_step 3 none) ({ frames := 4, cells := 0, slots := 0, locals := 210 }) (tp D cy ld t [] [.ref a0] (fun H => tk_f D H a0 6 9 (.int g9))) (tv D cy ld t [] (fun H => tk_f D H a0 6 9 (.int g9)) (tk_w t [(7, 0, 0)])) 0 0 (tk_w t [(7, 0, 0)]) := by
  refine tk_met (y := yX6_step) (cc := cX6_step) (maxL := 3) (ret := none) (av := [.ref a0]) _ _ (by decide) (Nat.le_of_ble_eq_true rfl) ?_
  intro p e s m args below meth c hx hb hr hml hts htl hown hlocks hK H locs hH hG hS hB hZ ls hl
  have hown : s.vm.findClass RX6 = some m.cls := hown
  have hl : lv_has ls 3 [(0, .ref a0)] := hl
  have hg_0 := hB
  obtain ⟨b1, b2, v3, v4, v5, v6, v7, v8, v9, v10, v11, hat, ht_b1, ht_b2, ha_v3, hb_v3, ha_v4, hb_v4, ha_v5, hb_v5, ha_v6, hb_v6, ha_v7, hb_v7, ha_v8, hb_v8, ha_v9, hb_v9, ha_v10, hb_v10, ha_v11, hb_v11, hxx9⟩ := tk_op6 hG ht_a0
  have e9 : g9 = v10 := by have h9 := hg_0.same (tk_f.of (C := RX6) (T := TX6) (N := 11) hat rfl (by decide) rfl); injection h9
  subst e9
  have hG := hG.hole (a := a0)
  refine lv_aload_n hx hb dX6_step_0 rfl (lv_at hl 0 rfl) ?_
  refine va_get (ci := 6) (v := .int v6) (C := RX6) (T := TX6) (N := 11) hx hb htl inX6 hown hK.1 (tk_one hat) 0 rfl rfl 5 (by decide) (htl _ mw_478) (fun _ h9 => h9) rfl dX6_step_1 ?_
  refine lv_istore_n (lv' := [(1, .int v6), (0, .ref a0)]) hx hb dX6_step_4 rfl hl (by decide) rfl (fun ls hl => ?_)
  have hl5776 : ∀ (N : Nat) (v837 : Int32), 0 ≤ (-1) * v6.toInt + v837.toInt → v837.toInt ≤ 400 → (-1) * v837.toInt + 400 < (N : Int) → ∀ ls : Array Slot, lv_has ls 3 [(1, .int v837), (0, .ref a0)] → W p l e ({ frames := 4, cells := 0, slots := 0, locals := 210 }) s m args below meth c H locs 0 0 (MQ below (tv D cy ld t [] (fun H => tk_f D H a0 6 9 (.int g9)) (tk_w t [(7, 0, 0)])) args s 0 0 (tk_w t [(7, 0, 0)])) (F0 m 5 ls []) := by
    intro N
    induction N with
    | zero => intro v837 hq0_l5776 hq1_l5776 hm_l5776 ls hl; exfalso; omega
    | succ N ih =>
      intro v837 hq0_l5776 hq1_l5776 hm_l5776 ls hl
      refine lv_iload_n hx hb dX6_step_5 rfl (lv_at hl 0 rfl) ?_
      refine lv_aload_n hx hb dX6_step_6 rfl (lv_at hl 1 rfl) ?_
      refine va_get (ci := 6) (v := .int v3) (C := RX6) (T := TX6) (N := 11) hx hb htl inX6 hown hK.1 (tk_one hat) 0 rfl rfl 2 (by decide) (htl _ mw_476) (fun _ h9 => h9) rfl dX6_step_7 ?_
      have hj5781 : ∀ (_ : Unit), ∀ ls : Array Slot, lv_has ls 3 [(1, .int v837), (0, .ref a0)] → W p l e ({ frames := 4, cells := 0, slots := 0, locals := 210 }) s m args below meth c H locs 0 0 (MQ below (tv D cy ld t [] (fun H => tk_f D H a0 6 9 (.int g9)) (tk_w t [(7, 0, 0)])) args s 0 0 (tk_w t [(7, 0, 0)])) (F0 m 30 ls []) := by
        intro _  ls hl
        refine lv_aload_n hx hb dX6_step_30 rfl (lv_at hl 1 rfl) ?_
        refine lv_iload_n hx hb dX6_step_31 rfl (lv_at hl 0 rfl) ?_
        refine tk_put0 (ci := 6) (v := .int v837) (ty := .int) (C := RX6) (T := TX6) (N := 11) hx hb htl inX6 tyX6 tyX6_ok nmX6 hown hK hat rfl 4 (by decide) (htl _ mw_495) (fun _ h9 => h9) rfl (tyX6_ok 4 (by decide)) rfl rfl (Nat.le_of_ble_eq_true rfl) dX6_step_32 (fun H j9 hat z9 hq9 => ?_)
        have hS := hS.put (k := j9) z9 hq9 (tk_w.of ht_a0 (by decide) (List.mem_of_getElem? (i := 0) rfl) (Nat.le_refl _) (Nat.le_refl _))
        have hG := hG.open (List.mem_singleton.mpr rfl) hq9
        have hat : va_at D vwCl (a0, .inr (6, [.ref b1, .ref b2, .int v3, .int v4, .int v837, .int v6, .int v7, .int v8, .int v9, .int g9, .int v11])) H := hat
        generalize locs ++ [_] = locs at hS ⊢
        refine lv_aload_n hx hb dX6_step_35 rfl (lv_at hl 1 rfl) ?_
        refine lv_iload_n hx hb dX6_step_36 rfl (lv_at hl 0 rfl) ?_
        refine lv_aload_n hx hb dX6_step_37 rfl (lv_at hl 1 rfl) ?_
        refine va_get (ci := 6) (v := .int v3) (C := RX6) (T := TX6) (N := 11) hx hb htl inX6 hown hK.1 (tk_one hat) 0 rfl rfl 2 (by decide) (htl _ mw_476) (fun _ h9 => h9) rfl dX6_step_38 ?_
        refine lv_icmp_ge (tgt := 56) hx hb dX6_step_41 (by decide) (fun c9 => ?_) (fun c9 => ?_)
        · have hc5783 : v3.toInt ≤ v837.toInt := (fi_le rfl rfl).mp c9
          refine lv_iconst (v := 0) hx hb dX6_step_56 (by decide) ?_
          refine tk_put0 (ci := 6) (v := .int 0) (ty := .int) (C := RX6) (T := TX6) (N := 11) hx hb htl inX6 tyX6 tyX6_ok nmX6 hown hK hat rfl 6 (by decide) (htl _ mw_482) (fun _ h9 => h9) rfl (tyX6_ok 6 (by decide)) rfl rfl (Nat.le_of_ble_eq_true rfl) dX6_step_57 (fun H j9 hat z9 hq9 => ?_)
          have hS := hS.put (k := j9) z9 hq9 (tk_w.of ht_a0 (by decide) (List.mem_of_getElem? (i := 0) rfl) (Nat.le_refl _) (Nat.le_refl _))
          have hG := hG.open (List.mem_singleton.mpr rfl) hq9
          have hat : va_at D vwCl (a0, .inr (6, [.ref b1, .ref b2, .int v3, .int v4, .int v837, .int v6, .int 0, .int v8, .int v9, .int g9, .int v11])) H := hat
          generalize locs ++ [_] = locs at hS ⊢
          refine lv_aload_n hx hb dX6_step_60 rfl (lv_at hl 1 rfl) ?_
          refine lv_iconst (v := 0) hx hb dX6_step_61 (by decide) ?_
          refine tk_put0 (ci := 6) (v := .int 0) (ty := .int) (C := RX6) (T := TX6) (N := 11) hx hb htl inX6 tyX6 tyX6_ok nmX6 hown hK hat rfl 7 (by decide) (htl _ mw_496) (fun _ h9 => h9) rfl (tyX6_ok 7 (by decide)) rfl rfl (Nat.le_of_ble_eq_true rfl) dX6_step_62 (fun H j9 hat z9 hq9 => ?_)
          have hS := hS.put (k := j9) z9 hq9 (tk_w.of ht_a0 (by decide) (List.mem_of_getElem? (i := 0) rfl) (Nat.le_refl _) (Nat.le_refl _))
          have hG := hG.open (List.mem_singleton.mpr rfl) hq9
          have hat : va_at D vwCl (a0, .inr (6, [.ref b1, .ref b2, .int v3, .int v4, .int v837, .int v6, .int 0, .int 0, .int v9, .int g9, .int v11])) H := hat
          generalize locs ++ [_] = locs at hS ⊢
          refine lv_iload_n hx hb dX6_step_65 rfl (lv_at hl 0 rfl) ?_
          refine lv_istore_n (lv' := [(2, .int v837), (1, .int v837), (0, .ref a0)]) hx hb dX6_step_66 rfl hl (by decide) rfl (fun ls hl => ?_)
          refine lv_iload_n hx hb dX6_step_67 rfl (lv_at hl 1 rfl) ?_
          refine lv_aload_n hx hb dX6_step_68 rfl (lv_at hl 2 rfl) ?_
          refine va_get (ci := 6) (v := .int v3) (C := RX6) (T := TX6) (N := 11) hx hb htl inX6 hown hK.1 (tk_one hat) 0 rfl rfl 2 (by decide) (htl _ mw_476) (fun _ h9 => h9) rfl dX6_step_69 ?_
          refine lv_icmp_ge (tgt := 149) hx hb dX6_step_72 (by decide) (fun _ => ?_) (fun c9 => absurd ((fi_le rfl rfl).mpr (show v3.toInt ≤ v837.toInt by omega)) c9)
          refine lv_aload_n hx hb dX6_step_149 rfl (lv_at hl 2 rfl) ?_
          refine lv_iload_n hx hb dX6_step_150 rfl (lv_at hl 1 rfl) ?_
          refine tk_put0 (ci := 6) (v := .int v837) (ty := .int) (C := RX6) (T := TX6) (N := 11) hx hb htl inX6 tyX6 tyX6_ok nmX6 hown hK hat rfl 5 (by decide) (htl _ mw_478) (fun _ h9 => h9) rfl (tyX6_ok 5 (by decide)) rfl rfl (Nat.le_of_ble_eq_true rfl) dX6_step_151 (fun H j9 hat z9 hq9 => ?_)
          have hS := hS.put (k := j9) z9 hq9 (tk_w.of ht_a0 (by decide) (List.mem_of_getElem? (i := 0) rfl) (Nat.le_refl _) (Nat.le_refl _))
          have hG := hG.open (List.mem_singleton.mpr rfl) hq9
          have hat : va_at D vwCl (a0, .inr (6, [.ref b1, .ref b2, .int v3, .int v4, .int v837, .int v837, .int 0, .int 0, .int v9, .int g9, .int v11])) H := hat
          generalize locs ++ [_] = locs at hS ⊢
          have hk_0 : (0 : Int32).toInt = 0 := by decide
          have hk_0 : (0 : Int32).toInt = 0 := by decide
          have hG := tk_cl6 hG ht_a0 hat ht_b1 ht_b2 (by omega) (by omega) (by omega) (by omega) (by omega) (by omega) (by omega) (by omega) (tk_rng _).1 (tk_rng _).2 (tk_rng _).1 (tk_rng _).2 (tk_rng _).1 (tk_rng _).2 (by omega) (by omega) (tk_rng _).1 (tk_rng _).2 (by omega)
          have hf5811 : tk_f D H a0 6 2 (.int v3) := tk_f.of hat (C := RX6) (T := TX6) (N := 11) rfl (by decide) rfl
          have hf5812 : tk_f D H a0 6 4 (.int v837) := tk_f.of hat (C := RX6) (T := TX6) (N := 11) rfl (by decide) rfl
          have hf5813 : tk_f D H a0 6 5 (.int v837) := tk_f.of hat (C := RX6) (T := TX6) (N := 11) rfl (by decide) rfl
          have hf5814 : tk_f D H a0 6 6 (.int 0) := tk_f.of hat (C := RX6) (T := TX6) (N := 11) rfl (by decide) rfl
          have hf5815 : tk_f D H a0 6 7 (.int 0) := tk_f.of hat (C := RX6) (T := TX6) (N := 11) rfl (by decide) rfl
          have hf5816 : tk_f D H a0 6 9 (.int g9) := tk_f.of hat (C := RX6) (T := TX6) (N := 11) rfl (by decide) rfl
          have hf5817 : tk_f D H a0 6 10 (.int v11) := tk_f.of hat (C := RX6) (T := TX6) (N := 11) rfl (by decide) rfl
          exact tk_vret hx hb hr hlocks (show tk_f D H a0 6 9 (.int g9) from hf5816) hG hS dX6_step_154
        · have hc5783 : ¬ (v3.toInt ≤ v837.toInt) := fun h9 => c9 ((fi_le rfl rfl).mpr h9)
          refine lv_aload_n hx hb dX6_step_44 rfl (lv_at hl 1 rfl) ?_
          refine va_get (ci := 6) (v := .ref b2) (C := RX6) (T := TX6) (N := 11) hx hb htl inX6 hown hK.1 (tk_one hat) 0 rfl rfl 1 (by decide) (htl _ mw_133) (fun _ h9 => h9) rfl dX6_step_45 ?_
          refine lv_iload_n hx hb dX6_step_48 rfl (lv_at hl 0 rfl) ?_
          refine tk_iald hx hb hK hG ht_b2 (by decide) (fun _ h => h) (tk_out (tk_ne ht_b2 ht_a0 (Or.inl (by decide)))) rfl (by omega) (by omega) dX6_step_49 (fun v5818 _ _ => ?_)
          have hr_v5818 := tk_rng v5818
          refine tk_Si (As := [.int v5818]) (rest := [.ref a0]) ⟨hx, hb, hml, hown, hts⟩ hK hG hZ hS (k_X6_kindOf l D cy ld t _ v5818) trivial ⟨callB_of 1 hts (wl_in mw_499) rfl rfl rfl (htl _ mw_36) (htl _ mw_497) hd_yX6_kindOf ⟨(Nat.le_of_ble_eq_true rfl), (Nat.le_of_ble_eq_true rfl)⟩, htl _ mw_498⟩ (tk_w.pick [] rfl) rfl hl.1 rfl (Nat.le_of_ble_eq_true rfl) dX6_step_50 ⟨(Nat.le_of_ble_eq_true rfl), (Nat.le_of_ble_eq_true rfl)⟩ (fun v5819 H locs hpo hG hS hq9 => ?_)
          obtain ⟨hpo5821, hpo5822⟩ := hpo
          refine lv_goto (tgt := 57) hx hb dX6_step_53 (by decide) ?_
          refine tk_put0 (ci := 6) (v := .int v5819) (ty := .int) (C := RX6) (T := TX6) (N := 11) hx hb htl inX6 tyX6 tyX6_ok nmX6 hown hK hat rfl 6 (by decide) (htl _ mw_482) (fun _ h9 => h9) rfl (tyX6_ok 6 (by decide)) rfl rfl (Nat.le_of_ble_eq_true rfl) dX6_step_57 (fun H j9 hat z9 hq9 => ?_)
          have hS := hS.put (k := j9) z9 hq9 (tk_w.of ht_a0 (by decide) (List.mem_of_getElem? (i := 0) rfl) (Nat.le_refl _) (Nat.le_refl _))
          have hG := hG.open (List.mem_singleton.mpr rfl) hq9
          have hat : va_at D vwCl (a0, .inr (6, [.ref b1, .ref b2, .int v3, .int v4, .int v837, .int v6, .int v5819, .int v8, .int v9, .int g9, .int v11])) H := hat
          generalize locs ++ [_] = locs at hS ⊢
          refine lv_aload_n hx hb dX6_step_60 rfl (lv_at hl 1 rfl) ?_
          refine lv_iconst (v := 0) hx hb dX6_step_61 (by decide) ?_
          refine tk_put0 (ci := 6) (v := .int 0) (ty := .int) (C := RX6) (T := TX6) (N := 11) hx hb htl inX6 tyX6 tyX6_ok nmX6 hown hK hat rfl 7 (by decide) (htl _ mw_496) (fun _ h9 => h9) rfl (tyX6_ok 7 (by decide)) rfl rfl (Nat.le_of_ble_eq_true rfl) dX6_step_62 (fun H j9 hat z9 hq9 => ?_)
          have hS := hS.put (k := j9) z9 hq9 (tk_w.of ht_a0 (by decide) (List.mem_of_getElem? (i := 0) rfl) (Nat.le_refl _) (Nat.le_refl _))
          have hG := hG.open (List.mem_singleton.mpr rfl) hq9
          have hat : va_at D vwCl (a0, .inr (6, [.ref b1, .ref b2, .int v3, .int v4, .int v837, .int v6, .int v5819, .int 0, .int v9, .int g9, .int v11])) H := hat
          generalize locs ++ [_] = locs at hS ⊢
          refine lv_iload_n hx hb dX6_step_65 rfl (lv_at hl 0 rfl) ?_
          refine lv_istore_n (lv' := [(2, .int v837), (1, .int v837), (0, .ref a0)]) hx hb dX6_step_66 rfl hl (by decide) rfl (fun ls hl => ?_)
          have hl6492 : ∀ (N : Nat) (v5923 : Int32) (v5924 : Int32) (H : Heap) (locs : List Loc), v5924.toInt ≤ 1001 → 0 ≤ v5923.toInt + (-1) * v837.toInt → v5923.toInt ≤ 400 → (-1) * v5923.toInt + 400 < (N : Int) → va_at D vwCl (a0, .inr (6, [.ref b1, .ref b2, .int v3, .int v4, .int v837, .int v6, .int v5819, .int v5924, .int v9, .int g9, .int v11])) H → tk_G D cy ld t [a0] H → va_S (tk_w t [(7, 0, 0)]) s.heap H locs → ∀ ls : Array Slot, lv_has ls 3 [(2, .int v837), (1, .int v5923), (0, .ref a0)] → W p l e ({ frames := 4, cells := 0, slots := 0, locals := 210 }) s m args below meth c H locs 0 0 (MQ below (tv D cy ld t [] (fun H => tk_f D H a0 6 9 (.int g9)) (tk_w t [(7, 0, 0)])) args s 0 0 (tk_w t [(7, 0, 0)])) (F0 m 67 ls []) := by
            intro N
            induction N with
            | zero => intro v5923 v5924 H locs hq0_l6492 hq1_l6492 hq2_l6492 hm_l6492 hat hG hS ls hl; exfalso; omega
            | succ N ih =>
              intro v5923 v5924 H locs hq0_l6492 hq1_l6492 hq2_l6492 hm_l6492 hat hG hS ls hl
              refine lv_iload_n hx hb dX6_step_67 rfl (lv_at hl 1 rfl) ?_
              refine lv_aload_n hx hb dX6_step_68 rfl (lv_at hl 2 rfl) ?_
              refine va_get (ci := 6) (v := .int v3) (C := RX6) (T := TX6) (N := 11) hx hb htl inX6 hown hK.1 (tk_one hat) 0 rfl rfl 2 (by decide) (htl _ mw_476) (fun _ h9 => h9) rfl dX6_step_69 ?_
              have hj6542 : ∀ (H : Heap) (locs : List Loc), va_at D vwCl (a0, .inr (6, [.ref b1, .ref b2, .int v3, .int v4, .int v837, .int v6, .int v5819, .int v5924, .int v9, .int g9, .int v11])) H → tk_G D cy ld t [a0] H → va_S (tk_w t [(7, 0, 0)]) s.heap H locs → ∀ ls : Array Slot, lv_has ls 3 [(1, .int v5923), (0, .ref a0)] → W p l e ({ frames := 4, cells := 0, slots := 0, locals := 210 }) s m args below meth c H locs 0 0 (MQ below (tv D cy ld t [] (fun H => tk_f D H a0 6 9 (.int g9)) (tk_w t [(7, 0, 0)])) args s 0 0 (tk_w t [(7, 0, 0)])) (F0 m 149 ls []) := by
                intro H locs hat hG hS ls hl
                refine lv_aload_n hx hb dX6_step_149 rfl (lv_at hl 1 rfl) ?_
                refine lv_iload_n hx hb dX6_step_150 rfl (lv_at hl 0 rfl) ?_
                refine tk_put0 (ci := 6) (v := .int v5923) (ty := .int) (C := RX6) (T := TX6) (N := 11) hx hb htl inX6 tyX6 tyX6_ok nmX6 hown hK hat rfl 5 (by decide) (htl _ mw_478) (fun _ h9 => h9) rfl (tyX6_ok 5 (by decide)) rfl rfl (Nat.le_of_ble_eq_true rfl) dX6_step_151 (fun H j9 hat z9 hq9 => ?_)
                have hS := hS.put (k := j9) z9 hq9 (tk_w.of ht_a0 (by decide) (List.mem_of_getElem? (i := 0) rfl) (Nat.le_refl _) (Nat.le_refl _))
                have hG := hG.open (List.mem_singleton.mpr rfl) hq9
                have hat : va_at D vwCl (a0, .inr (6, [.ref b1, .ref b2, .int v3, .int v4, .int v837, .int v5923, .int v5819, .int v5924, .int v9, .int g9, .int v11])) H := hat
                generalize locs ++ [_] = locs at hS ⊢
                have hG := tk_cl6 hG ht_a0 hat ht_b1 ht_b2 (by omega) (by omega) (by omega) (by omega) (by omega) (by omega) (by omega) (by omega) (tk_rng _).1 (tk_rng _).2 (tk_rng _).1 (tk_rng _).2 (tk_rng _).1 (tk_rng _).2 (by omega) (by omega) (tk_rng _).1 (tk_rng _).2 (by omega)
                have hf6544 : tk_f D H a0 6 2 (.int v3) := tk_f.of hat (C := RX6) (T := TX6) (N := 11) rfl (by decide) rfl
                have hf6545 : tk_f D H a0 6 4 (.int v837) := tk_f.of hat (C := RX6) (T := TX6) (N := 11) rfl (by decide) rfl
                have hf6546 : tk_f D H a0 6 5 (.int v5923) := tk_f.of hat (C := RX6) (T := TX6) (N := 11) rfl (by decide) rfl
                have hf6547 : tk_f D H a0 6 6 (.int v5819) := tk_f.of hat (C := RX6) (T := TX6) (N := 11) rfl (by decide) rfl
                have hf6548 : tk_f D H a0 6 7 (.int v5924) := tk_f.of hat (C := RX6) (T := TX6) (N := 11) rfl (by decide) rfl
                have hf6549 : tk_f D H a0 6 9 (.int g9) := tk_f.of hat (C := RX6) (T := TX6) (N := 11) rfl (by decide) rfl
                have hf6550 : tk_f D H a0 6 10 (.int v11) := tk_f.of hat (C := RX6) (T := TX6) (N := 11) rfl (by decide) rfl
                exact tk_vret hx hb hr hlocks (show tk_f D H a0 6 9 (.int g9) from hf6549) hG hS dX6_step_154
              refine lv_icmp_ge (tgt := 149) hx hb dX6_step_72 (by decide) (fun c9 => ?_) (fun c9 => ?_)
              · have hc6493 : v3.toInt ≤ v5923.toInt := (fi_le rfl rfl).mp c9
                exact hj6542 _ _ hat hG hS _ (lv_sub hl [1, 2] rfl)
              · have hc6493 : ¬ (v3.toInt ≤ v5923.toInt) := fun h9 => c9 ((fi_le rfl rfl).mpr h9)
                refine lv_iload_n hx hb dX6_step_75 rfl (lv_at hl 1 rfl) ?_
                refine lv_iload_n hx hb dX6_step_76 rfl (lv_at hl 0 rfl) ?_
                refine lv_icmp_eq (tgt := 88) hx hb dX6_step_77 (by decide) (fun c9 => ?_) (fun c9 => ?_)
                · have hc6551 : v5923.toInt = v837.toInt := (fi_eq rfl rfl).mp c9
                  refine lv_aload_n hx hb dX6_step_88 rfl (lv_at hl 2 rfl) ?_
                  refine va_get (ci := 6) (v := .ref b2) (C := RX6) (T := TX6) (N := 11) hx hb htl inX6 hown hK.1 (tk_one hat) 0 rfl rfl 1 (by decide) (htl _ mw_133) (fun _ h9 => h9) rfl dX6_step_89 ?_
                  refine lv_iload_n hx hb dX6_step_92 rfl (lv_at hl 1 rfl) ?_
                  refine tk_iald hx hb hK hG ht_b2 (by decide) (fun _ h => h) (tk_out (tk_ne ht_b2 ht_a0 (Or.inl (by decide)))) rfl (by omega) (by omega) dX6_step_93 (fun v6552 _ _ => ?_)
                  have hr_v6552 := tk_rng v6552
                  refine tk_Si (As := [.int v6552]) (rest := []) ⟨hx, hb, hml, hown, hts⟩ hK hG hZ hS (k_X6_kindOf l D cy ld t _ v6552) trivial ⟨callB_of 1 hts (wl_in mw_499) rfl rfl rfl (htl _ mw_36) (htl _ mw_497) hd_yX6_kindOf ⟨(Nat.le_of_ble_eq_true rfl), (Nat.le_of_ble_eq_true rfl)⟩, htl _ mw_498⟩ (tk_w.pick [] rfl) rfl hl.1 rfl (Nat.le_of_ble_eq_true rfl) dX6_step_94 ⟨(Nat.le_of_ble_eq_true rfl), (Nat.le_of_ble_eq_true rfl)⟩ (fun v6553 H locs hpo hG hS hq9 => ?_)
                  obtain ⟨hpo6555, hpo6556⟩ := hpo
                  refine lv_aload_n hx hb dX6_step_97 rfl (lv_at hl 2 rfl) ?_
                  refine va_get (ci := 6) (v := .int v5819) (C := RX6) (T := TX6) (N := 11) hx hb htl inX6 hown hK.1 (tk_one hat) 0 rfl rfl 6 (by decide) (htl _ mw_482) (fun _ h9 => h9) rfl dX6_step_98 ?_
                  refine lv_icmp_ne (tgt := 149) hx hb dX6_step_101 (by decide) (fun c9 => ?_) (fun c9 => ?_)
                  · have hc6557 : ¬ (v6553.toInt = v5819.toInt) := fun h9 => c9 ((fi_eq rfl rfl).mpr h9)
                    exact hj6542 _ _ hat hG hS _ (lv_sub hl [1, 2] rfl)
                  · have hc6557 : v6553.toInt = v5819.toInt := (fi_eq rfl rfl).mp c9
                    refine lv_aload_n hx hb dX6_step_104 rfl (lv_at hl 2 rfl) ?_
                    refine lv_aload_n hx hb dX6_step_105 rfl (lv_at hl 2 rfl) ?_
                    refine va_get (ci := 6) (v := .int v5819) (C := RX6) (T := TX6) (N := 11) hx hb htl inX6 hown hK.1 (tk_one hat) 0 rfl rfl 6 (by decide) (htl _ mw_482) (fun _ h9 => h9) rfl dX6_step_106 ?_
                    refine lv_iconst (v := 2) hx hb dX6_step_109 (by decide) ?_
                    have hj6566 : ∀ (v6565 : Int32), v6565.toInt ≤ 1001 → ∀ ls : Array Slot, lv_has ls 3 [(2, .int v837), (1, .int v5923), (0, .ref a0)] → W p l e ({ frames := 4, cells := 0, slots := 0, locals := 210 }) s m args below meth c H locs 0 0 (MQ below (tv D cy ld t [] (fun H => tk_f D H a0 6 9 (.int g9)) (tk_w t [(7, 0, 0)])) args s 0 0 (tk_w t [(7, 0, 0)])) (F0 m 140 ls [.int v6565, .ref a0]) := by
                      intro v6565 hq0_j6566 ls hl
                      refine tk_put0 (ci := 6) (v := .int v6565) (ty := .int) (C := RX6) (T := TX6) (N := 11) hx hb htl inX6 tyX6 tyX6_ok nmX6 hown hK hat rfl 7 (by decide) (htl _ mw_496) (fun _ h9 => h9) rfl (tyX6_ok 7 (by decide)) rfl rfl (Nat.le_of_ble_eq_true rfl) dX6_step_140 (fun H j9 hat z9 hq9 => ?_)
                      have hS := hS.put (k := j9) z9 hq9 (tk_w.of ht_a0 (by decide) (List.mem_of_getElem? (i := 0) rfl) (Nat.le_refl _) (Nat.le_refl _))
                      have hG := hG.open (List.mem_singleton.mpr rfl) hq9
                      have hat : va_at D vwCl (a0, .inr (6, [.ref b1, .ref b2, .int v3, .int v4, .int v837, .int v6, .int v5819, .int v6565, .int v9, .int g9, .int v11])) H := hat
                      generalize locs ++ [_] = locs at hS ⊢
                      obtain ⟨v6568, h_v6568, e_v6568⟩ := tk_inc v5923 1 (by decide) (by omega) (by omega)
                      refine lv_iinc (v := v6568) (lv' := [(1, .int v6568), (2, .int v837), (0, .ref a0)]) hx hb dX6_step_143 hl (k := 1) rfl e_v6568 (by decide) rfl (fun ls hl => ?_)
                      refine lv_goto (tgt := 67) hx hb dX6_step_146 (by decide) ?_
                      exact ih v6568 v6565 _ _ (by omega) (by omega) (by omega) (by omega) hat hG hS _ (lv_sub hl [1, 0, 2] rfl)
                    refine lv_icmp_ne (tgt := 139) hx hb dX6_step_110 (by decide) (fun c9 => ?_) (fun c9 => ?_)
                    · have hc6558 : ¬ (v5819.toInt = 2) := fun h9 => c9 ((fi_eq rfl (by decide)).mpr h9)
                      refine lv_iconst (v := 0) hx hb dX6_step_139 (by decide) ?_
                      have hk_0 : (0 : Int32).toInt = 0 := by decide
                      exact hj6566 0 (by omega) _ (lv_sub hl [0, 1, 2] rfl)
                    · have hc6558 : v5819.toInt = 2 := (fi_eq rfl (by decide)).mp c9
                      refine lv_aload_n hx hb dX6_step_113 rfl (lv_at hl 2 rfl) ?_
                      refine va_get (ci := 6) (v := .int v5924) (C := RX6) (T := TX6) (N := 11) hx hb htl inX6 hown hK.1 (tk_one hat) 0 rfl rfl 7 (by decide) (htl _ mw_496) (fun _ h9 => h9) rfl dX6_step_114 ?_
                      refine lv_bipush (v := 10) hx hb dX6_step_117 (by decide) ?_
                      refine lv_imul hx hb dX6_step_119 ?_
                      obtain ⟨v6569, hm_v6569⟩ : ∃ z : Int32, v5924 * 10 = z := ⟨_, rfl⟩
                      refine fx_ti hm_v6569 ?_
                      refine lv_aload_n hx hb dX6_step_120 rfl (lv_at hl 2 rfl) ?_
                      refine va_get (ci := 6) (v := .ref b2) (C := RX6) (T := TX6) (N := 11) hx hb htl inX6 hown hK.1 (tk_one hat) 0 rfl rfl 1 (by decide) (htl _ mw_133) (fun _ h9 => h9) rfl dX6_step_121 ?_
                      refine lv_iload_n hx hb dX6_step_124 rfl (lv_at hl 1 rfl) ?_
                      refine tk_iald hx hb hK hG ht_b2 (by decide) (fun _ h => h) (tk_out (tk_ne ht_b2 ht_a0 (Or.inl (by decide)))) rfl (by omega) (by omega) dX6_step_125 (fun v6570 _ _ => ?_)
                      have hr_v6570 := tk_rng v6570
                      refine lv_iadd hx hb dX6_step_126 ?_
                      obtain ⟨v6571, hm_v6571⟩ : ∃ z : Int32, v6569 + v6570 = z := ⟨_, rfl⟩
                      refine fx_ti hm_v6571 ?_
                      refine lv_bipush (v := 48) hx hb dX6_step_127 (by decide) ?_
                      refine lv_isub hx hb dX6_step_129 ?_
                      obtain ⟨v6572, hm_v6572⟩ : ∃ z : Int32, v6571 - 48 = z := ⟨_, rfl⟩
                      refine fx_ti hm_v6572 ?_
                      refine lv_sipush (v := 1001) hx hb dX6_step_130 (by decide) ?_
                      refine va_mmin hx hb (by rw [hml]; exact hl.1.symm) hown (htl _ mw_472) (htl _ mw_473) (htl _ mw_474) (htl _ mw_475) (Nat.le_of_ble_eq_true rfl) (Nat.le_of_ble_eq_true rfl) (Nat.le_of_ble_eq_true rfl) (Nat.le_of_ble_eq_true rfl) dX6_step_133 ?_
                      refine tk_say (P := fun z => z.toInt ≤ v6572.toInt ∧ z.toInt ≤ 1001 ∧ (z.toInt = v6572.toInt ∨ z.toInt = 1001)) (tk_min rfl (by decide)) (fun v6573 h_v6573 => ?_)
                      refine lv_goto (tgt := 140) hx hb dX6_step_136 (by decide) ?_
                      exact hj6566 v6573 (by omega) _ (lv_sub hl [0, 1, 2] rfl)
                · have hc6551 : ¬ (v5923.toInt = v837.toInt) := fun h9 => c9 ((fi_eq rfl rfl).mpr h9)
                  refine lv_aload_n hx hb dX6_step_80 rfl (lv_at hl 2 rfl) ?_
                  refine va_get (ci := 6) (v := .int v5819) (C := RX6) (T := TX6) (N := 11) hx hb htl inX6 hown hK.1 (tk_one hat) 0 rfl rfl 6 (by decide) (htl _ mw_482) (fun _ h9 => h9) rfl dX6_step_81 ?_
                  refine lv_iconst (v := 3) hx hb dX6_step_84 (by decide) ?_
                  refine lv_icmp_eq (tgt := 149) hx hb dX6_step_85 (by decide) (fun c9 => ?_) (fun c9 => ?_)
                  · have hc6574 : v5819.toInt = 3 := (fi_eq rfl (by decide)).mp c9
                    exact hj6542 _ _ hat hG hS _ (lv_sub hl [1, 2] rfl)
                  · have hc6574 : ¬ (v5819.toInt = 3) := fun h9 => c9 ((fi_eq rfl (by decide)).mpr h9)
                    refine lv_aload_n hx hb dX6_step_88 rfl (lv_at hl 2 rfl) ?_
                    refine va_get (ci := 6) (v := .ref b2) (C := RX6) (T := TX6) (N := 11) hx hb htl inX6 hown hK.1 (tk_one hat) 0 rfl rfl 1 (by decide) (htl _ mw_133) (fun _ h9 => h9) rfl dX6_step_89 ?_
                    refine lv_iload_n hx hb dX6_step_92 rfl (lv_at hl 1 rfl) ?_
                    refine tk_iald hx hb hK hG ht_b2 (by decide) (fun _ h => h) (tk_out (tk_ne ht_b2 ht_a0 (Or.inl (by decide)))) rfl (by omega) (by omega) dX6_step_93 (fun v6575 _ _ => ?_)
                    have hr_v6575 := tk_rng v6575
                    refine tk_Si (As := [.int v6575]) (rest := []) ⟨hx, hb, hml, hown, hts⟩ hK hG hZ hS (k_X6_kindOf l D cy ld t _ v6575) trivial ⟨callB_of 1 hts (wl_in mw_499) rfl rfl rfl (htl _ mw_36) (htl _ mw_497) hd_yX6_kindOf ⟨(Nat.le_of_ble_eq_true rfl), (Nat.le_of_ble_eq_true rfl)⟩, htl _ mw_498⟩ (tk_w.pick [] rfl) rfl hl.1 rfl (Nat.le_of_ble_eq_true rfl) dX6_step_94 ⟨(Nat.le_of_ble_eq_true rfl), (Nat.le_of_ble_eq_true rfl)⟩ (fun v6576 H locs hpo hG hS hq9 => ?_)
                    obtain ⟨hpo6578, hpo6579⟩ := hpo
                    refine lv_aload_n hx hb dX6_step_97 rfl (lv_at hl 2 rfl) ?_
                    refine va_get (ci := 6) (v := .int v5819) (C := RX6) (T := TX6) (N := 11) hx hb htl inX6 hown hK.1 (tk_one hat) 0 rfl rfl 6 (by decide) (htl _ mw_482) (fun _ h9 => h9) rfl dX6_step_98 ?_
                    refine lv_icmp_ne (tgt := 149) hx hb dX6_step_101 (by decide) (fun c9 => ?_) (fun c9 => ?_)
                    · have hc6580 : ¬ (v6576.toInt = v5819.toInt) := fun h9 => c9 ((fi_eq rfl rfl).mpr h9)
                      exact hj6542 _ _ hat hG hS _ (lv_sub hl [1, 2] rfl)
                    · have hc6580 : v6576.toInt = v5819.toInt := (fi_eq rfl rfl).mp c9
                      refine lv_aload_n hx hb dX6_step_104 rfl (lv_at hl 2 rfl) ?_
                      refine lv_aload_n hx hb dX6_step_105 rfl (lv_at hl 2 rfl) ?_
                      refine va_get (ci := 6) (v := .int v5819) (C := RX6) (T := TX6) (N := 11) hx hb htl inX6 hown hK.1 (tk_one hat) 0 rfl rfl 6 (by decide) (htl _ mw_482) (fun _ h9 => h9) rfl dX6_step_106 ?_
                      refine lv_iconst (v := 2) hx hb dX6_step_109 (by decide) ?_
                      have hj6589 : ∀ (v6588 : Int32), v6588.toInt ≤ 1001 → ∀ ls : Array Slot, lv_has ls 3 [(2, .int v837), (1, .int v5923), (0, .ref a0)] → W p l e ({ frames := 4, cells := 0, slots := 0, locals := 210 }) s m args below meth c H locs 0 0 (MQ below (tv D cy ld t [] (fun H => tk_f D H a0 6 9 (.int g9)) (tk_w t [(7, 0, 0)])) args s 0 0 (tk_w t [(7, 0, 0)])) (F0 m 140 ls [.int v6588, .ref a0]) := by
                        intro v6588 hq0_j6589 ls hl
                        refine tk_put0 (ci := 6) (v := .int v6588) (ty := .int) (C := RX6) (T := TX6) (N := 11) hx hb htl inX6 tyX6 tyX6_ok nmX6 hown hK hat rfl 7 (by decide) (htl _ mw_496) (fun _ h9 => h9) rfl (tyX6_ok 7 (by decide)) rfl rfl (Nat.le_of_ble_eq_true rfl) dX6_step_140 (fun H j9 hat z9 hq9 => ?_)
                        have hS := hS.put (k := j9) z9 hq9 (tk_w.of ht_a0 (by decide) (List.mem_of_getElem? (i := 0) rfl) (Nat.le_refl _) (Nat.le_refl _))
                        have hG := hG.open (List.mem_singleton.mpr rfl) hq9
                        have hat : va_at D vwCl (a0, .inr (6, [.ref b1, .ref b2, .int v3, .int v4, .int v837, .int v6, .int v5819, .int v6588, .int v9, .int g9, .int v11])) H := hat
                        generalize locs ++ [_] = locs at hS ⊢
                        obtain ⟨v6591, h_v6591, e_v6591⟩ := tk_inc v5923 1 (by decide) (by omega) (by omega)
                        refine lv_iinc (v := v6591) (lv' := [(1, .int v6591), (2, .int v837), (0, .ref a0)]) hx hb dX6_step_143 hl (k := 1) rfl e_v6591 (by decide) rfl (fun ls hl => ?_)
                        refine lv_goto (tgt := 67) hx hb dX6_step_146 (by decide) ?_
                        exact ih v6591 v6588 _ _ (by omega) (by omega) (by omega) (by omega) hat hG hS _ (lv_sub hl [1, 0, 2] rfl)
                      refine lv_icmp_ne (tgt := 139) hx hb dX6_step_110 (by decide) (fun c9 => ?_) (fun c9 => ?_)
                      · have hc6581 : ¬ (v5819.toInt = 2) := fun h9 => c9 ((fi_eq rfl (by decide)).mpr h9)
                        refine lv_iconst (v := 0) hx hb dX6_step_139 (by decide) ?_
                        have hk_0 : (0 : Int32).toInt = 0 := by decide
                        exact hj6589 0 (by omega) _ (lv_sub hl [0, 1, 2] rfl)
                      · have hc6581 : v5819.toInt = 2 := (fi_eq rfl (by decide)).mp c9
                        refine lv_aload_n hx hb dX6_step_113 rfl (lv_at hl 2 rfl) ?_
                        refine va_get (ci := 6) (v := .int v5924) (C := RX6) (T := TX6) (N := 11) hx hb htl inX6 hown hK.1 (tk_one hat) 0 rfl rfl 7 (by decide) (htl _ mw_496) (fun _ h9 => h9) rfl dX6_step_114 ?_
                        refine lv_bipush (v := 10) hx hb dX6_step_117 (by decide) ?_
                        refine lv_imul hx hb dX6_step_119 ?_
                        obtain ⟨v6592, hm_v6592⟩ : ∃ z : Int32, v5924 * 10 = z := ⟨_, rfl⟩
                        refine fx_ti hm_v6592 ?_
                        refine lv_aload_n hx hb dX6_step_120 rfl (lv_at hl 2 rfl) ?_
                        refine va_get (ci := 6) (v := .ref b2) (C := RX6) (T := TX6) (N := 11) hx hb htl inX6 hown hK.1 (tk_one hat) 0 rfl rfl 1 (by decide) (htl _ mw_133) (fun _ h9 => h9) rfl dX6_step_121 ?_
                        refine lv_iload_n hx hb dX6_step_124 rfl (lv_at hl 1 rfl) ?_
                        refine tk_iald hx hb hK hG ht_b2 (by decide) (fun _ h => h) (tk_out (tk_ne ht_b2 ht_a0 (Or.inl (by decide)))) rfl (by omega) (by omega) dX6_step_125 (fun v6593 _ _ => ?_)
                        have hr_v6593 := tk_rng v6593
                        refine lv_iadd hx hb dX6_step_126 ?_
                        obtain ⟨v6594, hm_v6594⟩ : ∃ z : Int32, v6592 + v6593 = z := ⟨_, rfl⟩
                        refine fx_ti hm_v6594 ?_
                        refine lv_bipush (v := 48) hx hb dX6_step_127 (by decide) ?_
                        refine lv_isub hx hb dX6_step_129 ?_
                        obtain ⟨v6595, hm_v6595⟩ : ∃ z : Int32, v6594 - 48 = z := ⟨_, rfl⟩
                        refine fx_ti hm_v6595 ?_
                        refine lv_sipush (v := 1001) hx hb dX6_step_130 (by decide) ?_
                        refine va_mmin hx hb (by rw [hml]; exact hl.1.symm) hown (htl _ mw_472) (htl _ mw_473) (htl _ mw_474) (htl _ mw_475) (Nat.le_of_ble_eq_true rfl) (Nat.le_of_ble_eq_true rfl) (Nat.le_of_ble_eq_true rfl) (Nat.le_of_ble_eq_true rfl) dX6_step_133 ?_
                        refine tk_say (P := fun z => z.toInt ≤ v6595.toInt ∧ z.toInt ≤ 1001 ∧ (z.toInt = v6595.toInt ∨ z.toInt = 1001)) (tk_min rfl (by decide)) (fun v6596 h_v6596 => ?_)
                        refine lv_goto (tgt := 140) hx hb dX6_step_136 (by decide) ?_
                        exact hj6589 v6596 (by omega) _ (lv_sub hl [0, 1, 2] rfl)
          have hk_0 : (0 : Int32).toInt = 0 := by decide
          exact hl6492 401 v837 0 _ _ (by omega) (by omega) (by omega) (by omega) hat hG hS _ (lv_sub hl [0, 1, 2] rfl)
      refine lv_icmp_ge (tgt := 30) hx hb dX6_step_10 (by decide) (fun c9 => ?_) (fun c9 => ?_)
      · have hc5777 : v3.toInt ≤ v837.toInt := (fi_le rfl rfl).mp c9
        exact hj5781 () _ (lv_sub hl [0, 1] rfl)
      · have hc5777 : ¬ (v3.toInt ≤ v837.toInt) := fun h9 => c9 ((fi_le rfl rfl).mpr h9)
        refine lv_aload_n hx hb dX6_step_13 rfl (lv_at hl 1 rfl) ?_
        refine va_get (ci := 6) (v := .ref b2) (C := RX6) (T := TX6) (N := 11) hx hb htl inX6 hown hK.1 (tk_one hat) 0 rfl rfl 1 (by decide) (htl _ mw_133) (fun _ h9 => h9) rfl dX6_step_14 ?_
        refine lv_iload_n hx hb dX6_step_17 rfl (lv_at hl 0 rfl) ?_
        refine tk_iald hx hb hK hG ht_b2 (by decide) (fun _ h => h) (tk_out (tk_ne ht_b2 ht_a0 (Or.inl (by decide)))) rfl (by omega) (by omega) dX6_step_18 (fun v6597 _ _ => ?_)
        have hr_v6597 := tk_rng v6597
        refine lv_bipush (v := 32) hx hb dX6_step_19 (by decide) ?_
        refine lv_icmp_ne (tgt := 30) hx hb dX6_step_21 (by decide) (fun c9 => ?_) (fun c9 => ?_)
        · have hc6598 : ¬ (v6597.toInt = 32) := fun h9 => c9 ((fi_eq rfl (by decide)).mpr h9)
          exact hj5781 () _ (lv_sub hl [0, 1] rfl)
        · have hc6598 : v6597.toInt = 32 := (fi_eq rfl (by decide)).mp c9
          obtain ⟨v6599, h_v6599, e_v6599⟩ := tk_inc v837 1 (by decide) (by omega) (by omega)
          refine lv_iinc (v := v6599) (lv' := [(1, .int v6599), (0, .ref a0)]) hx hb dX6_step_24 hl (k := 0) rfl e_v6599 (by decide) rfl (fun ls hl => ?_)
          refine lv_goto (tgt := 5) hx hb dX6_step_27 (by decide) ?_
          exact ih v6599 (by omega) (by omega) (by omega) _ (lv_sub hl [0, 1] rfl)
  exact hl5776 401 v6 (by omega) (by omega) (by omega) _ (lv_sub hl [0, 1] rfl)
theorem dX6_isSign_0 : decode cX6_isSign 0 = .ok (.aload_n 0, 1) := by decide +kernel
theorem dX6_isSign_1 : decode cX6_isSign 1 = .ok (.invokevirtual 56, 3) := by decide +kernel
theorem dX6_isSign_33 : decode cX6_isSign 33 = .ok (.ireturn, 1) := by decide +kernel
theorem dX6_isSign_4 : decode cX6_isSign 4 = .ok (.ifCond .eq 28, 3) := by decide +kernel
theorem dX6_isSign_32 : decode cX6_isSign 32 = .ok (.iconst 0, 1) := by decide +kernel
theorem dX6_isSign_7 : decode cX6_isSign 7 = .ok (.aload_n 0, 1) := by decide +kernel
theorem dX6_isSign_8 : decode cX6_isSign 8 = .ok (.getfield 67, 3) := by decide +kernel
theorem dX6_isSign_11 : decode cX6_isSign 11 = .ok (.iconst 3, 1) := by decide +kernel
theorem dX6_isSign_12 : decode cX6_isSign 12 = .ok (.if_icmp .ne 20, 3) := by decide +kernel
theorem dX6_isSign_15 : decode cX6_isSign 15 = .ok (.aload_n 0, 1) := by decide +kernel
theorem dX6_isSign_16 : decode cX6_isSign 16 = .ok (.getfield 20, 3) := by decide +kernel
theorem dX6_isSign_19 : decode cX6_isSign 19 = .ok (.aload_n 0, 1) := by decide +kernel
theorem dX6_isSign_20 : decode cX6_isSign 20 = .ok (.getfield 73, 3) := by decide +kernel
theorem dX6_isSign_23 : decode cX6_isSign 23 = .ok (.iaload, 1) := by decide +kernel
theorem dX6_isSign_24 : decode cX6_isSign 24 = .ok (.iload_n 1, 1) := by decide +kernel
theorem dX6_isSign_25 : decode cX6_isSign 25 = .ok (.if_icmp .ne 7, 3) := by decide +kernel
theorem dX6_isSign_28 : decode cX6_isSign 28 = .ok (.iconst 1, 1) := by decide +kernel
theorem dX6_isSign_29 : decode cX6_isSign 29 = .ok (.goto 4, 3) := by decide +kernel
set_option maxHeartbeats 4000000 in
set_option maxRecDepth 100000 in
theorem k_X6_isSign (l : Launch) (D : va_G) (cy : Nat → ClassId) (ld : Nat → Nat) (t : tk_T) (a0 : Nat) (p1 : Int32) (ht_a0 : t a0 = (7, 0, 0)) : Met l yX6_isSign (wl yX6_isSign cX6_isSign 2 (some .boolean)) ({ frames := 4, cells := 0, slots := 0, locals := 210 }) (tp D cy ld t [] [.ref a0, .int p1] (fun H => True)) (ti D cy ld t [] (fun r H => 0 ≤ r.toInt ∧ r.toInt ≤ 1 ∧ 0 ≤ r.toInt ∧ r.toInt ≤ 1) (tk_w t [])) 0 0 (tk_w t []) := by
  refine tk_met (y := yX6_isSign) (cc := cX6_isSign) (maxL := 2) (ret := (some .boolean)) (av := [.ref a0, .int p1]) _ _ (by decide) (Nat.le_of_ble_eq_true rfl) ?_
  intro p e s m args below meth c hx hb hr hml hts htl hown hlocks hK H locs hH hG hS hB hZ ls hl
  have hown : s.vm.findClass RX6 = some m.cls := hown
  have hl : lv_has ls 2 [(0, .ref a0), (1, .int p1)] := hl
  have hr_p1 := tk_rng p1
  refine lv_aload_n hx hb dX6_isSign_0 rfl (lv_at hl 0 rfl) ?_
  refine tk_Vi (As := []) (rest := []) (ci := 6) ⟨hx, hb, hml, hown, hts⟩ hK hG hZ hS (k_X6_isGood l D cy ld t a0 ht_a0) trivial ⟨callB_of 0 hts (wl_in mw_503) rfl rfl rfl (htl _ mw_36) (htl _ mw_500) hd_yX6_isGood ⟨(Nat.le_of_ble_eq_true rfl), (Nat.le_of_ble_eq_true rfl)⟩, htl _ mw_501, htl _ mw_502⟩ ht_a0 (by decide) tk_no rfl (tk_w.pick [] rfl) rfl hl.1 rfl (Nat.le_of_ble_eq_true rfl) dX6_isSign_1 ⟨(Nat.le_of_ble_eq_true rfl), (Nat.le_of_ble_eq_true rfl)⟩ (fun v1 H locs hpo hG hS hq9 => ?_)
  obtain ⟨hpo3, hpo4, hpo5, hpo6⟩ := hpo
  have hj19 : ∀ (v18 : Int32), 0 ≤ v18.toInt → v18.toInt ≤ 1 → ∀ ls : Array Slot, lv_has ls 2 [] → W p l e ({ frames := 4, cells := 0, slots := 0, locals := 210 }) s m args below meth c H locs 0 0 (MQ below (ti D cy ld t [] (fun r H => 0 ≤ r.toInt ∧ r.toInt ≤ 1 ∧ 0 ≤ r.toInt ∧ r.toInt ≤ 1) (tk_w t [])) args s 0 0 (tk_w t [])) (F0 m 33 ls [.int v18]) := by
    intro v18 hq0_j19 hq1_j19 ls hl
    exact tk_iret (v := v18) hx hb hr (tk_nz (by omega) (by omega)) hlocks (show 0 ≤ v18.toInt ∧ v18.toInt ≤ 1 ∧ 0 ≤ v18.toInt ∧ v18.toInt ≤ 1 from ⟨(by omega), (by omega), (by omega), (by omega)⟩) hG hS dX6_isSign_33
  refine lv_if_eq (tgt := 32) hx hb dX6_isSign_4 (by decide) (fun c9 => ?_) (fun c9 => ?_)
  · have hc7 : v1.toInt = 0 := (fi_eq rfl (by decide)).mp c9
    refine lv_iconst (v := 0) hx hb dX6_isSign_32 (by decide) ?_
    have hk_0 : (0 : Int32).toInt = 0 := by decide
    exact hj19 0 (by omega) (by omega) _ (lv_sub hl [] rfl)
  · have hc7 : ¬ (v1.toInt = 0) := fun h9 => c9 ((fi_eq rfl (by decide)).mpr h9)
    refine lv_aload_n hx hb dX6_isSign_7 rfl (lv_at hl 0 rfl) ?_
    refine tk_get (ci := 6) (C := RX6) (T := TX6) (N := 11) (sp := (0, (-2147483648), 2147483647, 0)) hx hb htl inX6 hown hK hG ht_a0 (by decide) tk_no rfl 6 (by decide) (htl _ mw_482) (fun _ h9 => h9) rfl dX6_isSign_8 (fun v9 hf20 hV9 => ?_)
    obtain ⟨v21, rfl, ha_v21, hb_v21⟩ := hV9
    refine lv_iconst (v := 3) hx hb dX6_isSign_11 (by decide) ?_
    refine lv_icmp_ne (tgt := 32) hx hb dX6_isSign_12 (by decide) (fun c9 => ?_) (fun c9 => ?_)
    · have hc22 : ¬ (v21.toInt = 3) := fun h9 => c9 ((fi_eq rfl (by decide)).mpr h9)
      refine lv_iconst (v := 0) hx hb dX6_isSign_32 (by decide) ?_
      have hk_0 : (0 : Int32).toInt = 0 := by decide
      exact hj19 0 (by omega) (by omega) _ (lv_sub hl [] rfl)
    · have hc22 : v21.toInt = 3 := (fi_eq rfl (by decide)).mp c9
      refine lv_aload_n hx hb dX6_isSign_15 rfl (lv_at hl 0 rfl) ?_
      refine tk_get (ci := 6) (C := RX6) (T := TX6) (N := 11) (sp := (6, 20, 400, 9)) hx hb htl inX6 hown hK hG ht_a0 (by decide) tk_no rfl 1 (by decide) (htl _ mw_133) (fun _ h9 => h9) rfl dX6_isSign_16 (fun v9 hf23 hV9 => ?_)
      obtain ⟨b24, rfl, ht_b24⟩ := hV9
      have ht_b24 : t b24 = (20, 400, 9) := ht_b24
      refine lv_aload_n hx hb dX6_isSign_19 rfl (lv_at hl 0 rfl) ?_
      refine tk_get (ci := 6) (C := RX6) (T := TX6) (N := 11) (sp := (0, 0, 400, 0)) hx hb htl inX6 hown hK hG ht_a0 (by decide) tk_no rfl 4 (by decide) (htl _ mw_495) (fun _ h9 => h9) rfl dX6_isSign_20 (fun v9 hf25 hV9 => ?_)
      obtain ⟨v26, rfl, ha_v26, hb_v26⟩ := hV9
      have hs_v26 := tk_plc hG ht_a0 tk_no hf25 hf20
      refine tk_iald hx hb hK hG ht_b24 (by decide) (fun _ h => h) tk_no rfl (by omega) (by omega) dX6_isSign_23 (fun v27 _ _ => ?_)
      have hr_v27 := tk_rng v27
      refine lv_iload_n hx hb dX6_isSign_24 rfl (lv_at hl 1 rfl) ?_
      refine lv_icmp_ne (tgt := 32) hx hb dX6_isSign_25 (by decide) (fun c9 => ?_) (fun c9 => ?_)
      · have hc28 : ¬ (v27.toInt = p1.toInt) := fun h9 => c9 ((fi_eq rfl rfl).mpr h9)
        refine lv_iconst (v := 0) hx hb dX6_isSign_32 (by decide) ?_
        have hk_0 : (0 : Int32).toInt = 0 := by decide
        exact hj19 0 (by omega) (by omega) _ (lv_sub hl [] rfl)
      · have hc28 : v27.toInt = p1.toInt := (fi_eq rfl rfl).mp c9
        refine lv_iconst (v := 1) hx hb dX6_isSign_28 (by decide) ?_
        refine lv_goto (tgt := 33) hx hb dX6_isSign_29 (by decide) ?_
        have hk_1 : (1 : Int32).toInt = 1 := by decide
        exact hj19 1 (by omega) (by omega) _ (lv_sub hl [] rfl)
theorem dX6_take_0 : decode cX6_take 0 = .ok (.aload_n 0, 1) := by decide +kernel
theorem dX6_take_1 : decode cX6_take 1 = .ok (.iload_n 1, 1) := by decide +kernel
theorem dX6_take_2 : decode cX6_take 2 = .ok (.invokevirtual 83, 3) := by decide +kernel
theorem dX6_take_19 : decode cX6_take 19 = .ok (.return_, 1) := by decide +kernel
theorem dX6_take_5 : decode cX6_take 5 = .ok (.ifCond .eq 10, 3) := by decide +kernel
theorem dX6_take_15 : decode cX6_take 15 = .ok (.aload_n 0, 1) := by decide +kernel
theorem dX6_take_16 : decode cX6_take 16 = .ok (.invokevirtual 60, 3) := by decide +kernel
theorem dX6_take_8 : decode cX6_take 8 = .ok (.aload_n 0, 1) := by decide +kernel
theorem dX6_take_9 : decode cX6_take 9 = .ok (.invokevirtual 53, 3) := by decide +kernel
theorem dX6_take_12 : decode cX6_take 12 = .ok (.goto 7, 3) := by decide +kernel
set_option maxHeartbeats 4000000 in
set_option maxRecDepth 100000 in
theorem k_X6_take (l : Launch) (D : va_G) (cy : Nat → ClassId) (ld : Nat → Nat) (t : tk_T) (a0 : Nat) (p1 : Int32) (g9 : Int32) (ht_a0 : t a0 = (7, 0, 0)) (hp_0 : 0 ≤ g9.toInt) (hp_1 : g9.toInt ≤ 8) : Met l yX6_take (wl yX6_take cX6_take 2 none) ({ frames := 5, cells := 0, slots := 0, locals := 280 }) (tp D cy ld t [] [.ref a0, .int p1] (fun H => tk_f D H a0 6 9 (.int g9))) (tv D cy ld t [] (fun H => tk_f D H a0 6 9 (.int g9)) (tk_w t [(7, 0, 0)])) 0 0 (tk_w t [(7, 0, 0)]) := by
  refine tk_met (y := yX6_take) (cc := cX6_take) (maxL := 2) (ret := none) (av := [.ref a0, .int p1]) _ _ (by decide) (Nat.le_of_ble_eq_true rfl) ?_
  intro p e s m args below meth c hx hb hr hml hts htl hown hlocks hK H locs hH hG hS hB hZ ls hl
  have hown : s.vm.findClass RX6 = some m.cls := hown
  have hl : lv_has ls 2 [(0, .ref a0), (1, .int p1)] := hl
  have hg_0 := hB
  have hr_p1 := tk_rng p1
  refine lv_aload_n hx hb dX6_take_0 rfl (lv_at hl 0 rfl) ?_
  refine lv_iload_n hx hb dX6_take_1 rfl (lv_at hl 1 rfl) ?_
  refine tk_Vi (As := [.int p1]) (rest := []) (ci := 6) ⟨hx, hb, hml, hown, hts⟩ hK hG hZ hS (k_X6_isSign l D cy ld t a0 p1 ht_a0) trivial ⟨callB_of 1 hts (wl_in mw_590) rfl rfl rfl (htl _ mw_36) (htl _ mw_587) hd_yX6_isSign ⟨(Nat.le_of_ble_eq_true rfl), (Nat.le_of_ble_eq_true rfl)⟩, htl _ mw_588, htl _ mw_589⟩ ht_a0 (by decide) tk_no rfl (tk_w.pick [] rfl) rfl hl.1 rfl (Nat.le_of_ble_eq_true rfl) dX6_take_2 ⟨(Nat.le_of_ble_eq_true rfl), (Nat.le_of_ble_eq_true rfl)⟩ (fun v1 H locs hpo hG hS hq9 => ?_)
  have hg_0 := hg_0.call hq9 tk_w.nil
  obtain ⟨hpo3, hpo4, hpo5, hpo6⟩ := hpo
  have hj14 : ∀ (H : Heap) (locs : List Loc), tk_G D cy ld t [] H → va_S (tk_w t [(7, 0, 0)]) s.heap H locs → tk_f D H a0 6 9 (.int g9) → ∀ ls : Array Slot, lv_has ls 2 [] → W p l e ({ frames := 5, cells := 0, slots := 0, locals := 280 }) s m args below meth c H locs 0 0 (MQ below (tv D cy ld t [] (fun H => tk_f D H a0 6 9 (.int g9)) (tk_w t [(7, 0, 0)])) args s 0 0 (tk_w t [(7, 0, 0)])) (F0 m 19 ls []) := by
    intro H locs hG hS hf9 ls hl
    exact tk_vret hx hb hr hlocks (show tk_f D H a0 6 9 (.int g9) from hf9) hG hS dX6_take_19
  refine lv_if_eq (tgt := 15) hx hb dX6_take_5 (by decide) (fun c9 => ?_) (fun c9 => ?_)
  · have hc7 : v1.toInt = 0 := (fi_eq rfl (by decide)).mp c9
    refine lv_aload_n hx hb dX6_take_15 rfl (lv_at hl 0 rfl) ?_
    refine tk_Vv (As := []) (rest := []) (ci := 6) ⟨hx, hb, hml, hown, hts⟩ hK hG hZ hS (k_X6_fail l D cy ld t a0 g9 ht_a0 (by omega) (by omega)) hg_0 ⟨callB_of 0 hts (wl_in mw_507) rfl rfl rfl (htl _ mw_36) (htl _ mw_504) hd_yX6_fail ⟨(Nat.le_of_ble_eq_true rfl), (Nat.le_of_ble_eq_true rfl)⟩, htl _ mw_505, htl _ mw_506⟩ ht_a0 (by decide) tk_no rfl (tk_w.pick [0] rfl) rfl hl.1 rfl (Nat.le_of_ble_eq_true rfl) dX6_take_16 ⟨(Nat.le_of_ble_eq_true rfl), (Nat.le_of_ble_eq_true rfl)⟩ (fun H locs hpo hG hS hq9 => ?_)
    have hf16 := hpo
    exact hj14 _ _ hG hS hf16 _ (lv_sub hl [] rfl)
  · have hc7 : ¬ (v1.toInt = 0) := fun h9 => c9 ((fi_eq rfl (by decide)).mpr h9)
    refine lv_aload_n hx hb dX6_take_8 rfl (lv_at hl 0 rfl) ?_
    refine tk_Vv (As := []) (rest := []) (ci := 6) ⟨hx, hb, hml, hown, hts⟩ hK hG hZ hS (k_X6_step l D cy ld t a0 g9 ht_a0 (by omega) (by omega)) hg_0 ⟨callB_of 0 hts (wl_in mw_494) rfl rfl rfl (htl _ mw_36) (htl _ mw_491) hd_yX6_step ⟨(Nat.le_of_ble_eq_true rfl), (Nat.le_of_ble_eq_true rfl)⟩, htl _ mw_492, htl _ mw_493⟩ ht_a0 (by decide) tk_no rfl (tk_w.pick [0] rfl) rfl hl.1 rfl (Nat.le_of_ble_eq_true rfl) dX6_take_9 ⟨(Nat.le_of_ble_eq_true rfl), (Nat.le_of_ble_eq_true rfl)⟩ (fun H locs hpo hG hS hq9 => ?_)
    have hf18 := hpo
    refine lv_goto (tgt := 19) hx hb dX6_take_12 (by decide) ?_
    exact hj14 _ _ hG hS hf18 _ (lv_sub hl [] rfl)
set_option maxHeartbeats 4000000 in
set_option maxRecDepth 100000 in
theorem k_J0_isLatin1_aae02_6 (l : Launch) (D : va_G) (cy : Nat → ClassId) (ld : Nat → Nat) (t : tk_T) : Met l yJ0_isLatin1_aae02 (wl yJ0_isLatin1_aae02 cJ0_isLatin1_aae02 1 (some .boolean)) ({ frames := 3, cells := 0, slots := 0, locals := 140 }) (tp D cy ld t [] [.ref (ld 6)] (fun H => True)) (ti D cy ld t [] (fun r H => r.toInt + (-1) = 0 ∧ 0 ≤ r.toInt ∧ r.toInt ≤ 1) (tk_w t [])) 0 0 (tk_w t []) := by
  refine tk_met (y := yJ0_isLatin1_aae02) (cc := cJ0_isLatin1_aae02) (maxL := 1) (ret := (some .boolean)) (av := [.ref (ld 6)]) _ _ (by decide) (Nat.le_of_ble_eq_true rfl) ?_
  intro p e s m args below meth c hx hb hr hml hts htl hown hlocks hK H locs hH hG hS hB hZ ls hl
  have hown : s.vm.findClass RJ0 = some m.cls := hown
  have hl : lv_has ls 1 [(0, .ref (ld 6))] := hl
  refine va_gets hx hb (hZ.2.1.narrow (fun _ h => h.1)) hS hown (htl _ mw_528) (fun _ h9 => h9) dJ0_isLatin1_aae02_0 ?_
  refine lv_if_eq (tgt := 17) hx hb dJ0_isLatin1_aae02_3 (by decide) (fun c9 => absurd c9 (by decide)) (fun _ => ?_)
  refine lv_aload_n hx hb dJ0_isLatin1_aae02_6 rfl (lv_at hl 0 rfl) ?_
  refine vk_getf hx hb ((hZ.1.1 6 (by decide)).2.1.narrow (fun _ h => h.1)) hS hown (htl _ mw_529) (fun _ h9 => h9) dJ0_isLatin1_aae02_7 ?_
  refine lv_if_ne (tgt := 17) hx hb dJ0_isLatin1_aae02_10 (by decide) (fun c9 => absurd (by decide) c9) (fun _ => ?_)
  refine lv_iconst (v := 1) hx hb dJ0_isLatin1_aae02_13 (by decide) ?_
  refine lv_goto (tgt := 18) hx hb dJ0_isLatin1_aae02_14 (by decide) ?_
  have hk_1 : (1 : Int32).toInt = 1 := by decide
  exact tk_iret (v := 1) hx hb hr rfl hlocks (show (1 : Int32).toInt + (-1) = 0 ∧ 0 ≤ (1 : Int32).toInt ∧ (1 : Int32).toInt ≤ 1 from ⟨(by omega), (by omega), (by omega)⟩) hG hS dJ0_isLatin1_aae02_18
set_option maxHeartbeats 4000000 in
set_option maxRecDepth 100000 in
theorem k_J1_charAt_3b067_6 (l : Launch) (D : va_G) (cy : Nat → ClassId) (ld : Nat → Nat) (t : tk_T) (p1 : Int32) (hp_0 : 0 ≤ p1.toInt) (hp_1 : p1.toInt ≤ 4) : Met l yJ1_charAt_3b067 (wl yJ1_charAt_3b067 cJ1_charAt_3b067 2 (some .char)) ({ frames := 5, cells := 0, slots := 0, locals := 280 }) (tp D cy ld t [] [.ref (ld 56), .int p1] (fun H => True)) (ti D cy ld t [] (fun r H => 0 ≤ r.toInt ∧ r.toInt ≤ 255) (tk_w t [])) 0 0 (tk_w t []) := by
  refine tk_met (y := yJ1_charAt_3b067) (cc := cJ1_charAt_3b067) (maxL := 2) (ret := (some .char)) (av := [.ref (ld 56), .int p1]) _ _ (by decide) (Nat.le_of_ble_eq_true rfl) ?_
  intro p e s m args below meth c hx hb hr hml hts htl hown hlocks hK H locs hH hG hS hB hZ ls hl
  have hown : s.vm.findClass RJ1 = some m.cls := hown
  have hl : lv_has ls 2 [(0, .ref (ld 56)), (1, .int p1)] := hl
  have hr_p1 := tk_rng p1
  refine lv_iload_n hx hb dJ1_charAt_3b067_0 rfl (lv_at hl 1 rfl) ?_
  refine lv_aload_n hx hb dJ1_charAt_3b067_1 rfl (lv_at hl 0 rfl) ?_
  refine va_tlen (v := 5) hx hb ((hZ.1.1 6 (by decide)).2.2.2.narrow (fun _ h => h.1)) hS rfl dJ1_charAt_3b067_2 ?_
  have hk_5 : (5 : Int32).toInt = 5 := by decide
  refine tk_Sv (As := [.int p1, .int 5]) (rest := []) ⟨hx, hb, hml, hown, hts⟩ hK hG hZ hS (k_J0_checkIndex_df160 l D cy ld t p1 5 (by omega) (by omega) (by omega) (by omega) (by omega)) trivial ⟨callB_of 2 hts (wl_in mw_544) rfl rfl rfl (htl _ mw_521) (htl _ mw_542) hd_yJ0_checkIndex_df160 ⟨(Nat.le_of_ble_eq_true rfl), (Nat.le_of_ble_eq_true rfl)⟩, htl _ mw_543⟩ (tk_w.pick [] rfl) rfl hl.1 rfl (Nat.le_of_ble_eq_true rfl) dJ1_charAt_3b067_3 ⟨(Nat.le_of_ble_eq_true rfl), (Nat.le_of_ble_eq_true rfl)⟩ (fun H locs hpo hG hS hq9 => ?_)
  refine lv_aload_n hx hb dJ1_charAt_3b067_6 rfl (lv_at hl 0 rfl) ?_
  refine lv_iload_n hx hb dJ1_charAt_3b067_7 rfl (lv_at hl 1 rfl) ?_
  refine va_tb hx hb ((hZ.1.1 6 (by decide)).2.2.2.narrow (fun _ h => h.1)) hS (vp_in_iff.mpr ⟨by omega, show _ < ((5 : Nat) : Int) by omega⟩) rfl dJ1_charAt_3b067_8 ?_
  refine tk_any (fun v2 => ?_)
  refine lv_sipush (v := 255) hx hb dJ1_charAt_3b067_9 (by decide) ?_
  refine lv_iand hx hb dJ1_charAt_3b067_12 ?_
  refine tk_say (P := fun z => 0 ≤ z.toInt ∧ z.toInt ≤ 255) (tk_and v2 8 (by decide) (by decide)) (fun v3 h_v3 => ?_)
  obtain ⟨v4, e_v4, h_v4⟩ := tk_i2c (x := v3) (by omega) (by omega)
  refine lv_i2c (v := v4) hx hb dJ1_charAt_3b067_13 e_v4 ?_
  exact tk_iret (v := v4) hx hb hr (tk_nc (by omega) (by omega)) hlocks (show 0 ≤ v4.toInt ∧ v4.toInt ≤ 255 from ⟨(by omega), (by omega)⟩) hG hS dJ1_charAt_3b067_14
set_option maxHeartbeats 4000000 in
set_option maxRecDepth 100000 in
theorem k_J0_charAt_5068e_6 (l : Launch) (D : va_G) (cy : Nat → ClassId) (ld : Nat → Nat) (t : tk_T) (p1 : Int32) (hp_0 : 0 ≤ p1.toInt) (hp_1 : p1.toInt ≤ 4) : Met l yJ0_charAt_5068e (wl yJ0_charAt_5068e cJ0_charAt_5068e 2 (some .char)) ({ frames := 6, cells := 0, slots := 0, locals := 350 }) (tp D cy ld t [] [.ref (ld 6), .int p1] (fun H => True)) (ti D cy ld t [] (fun r H => 0 ≤ r.toInt ∧ r.toInt ≤ 255) (tk_w t [])) 0 0 (tk_w t []) := by
  refine tk_met (y := yJ0_charAt_5068e) (cc := cJ0_charAt_5068e) (maxL := 2) (ret := (some .char)) (av := [.ref (ld 6), .int p1]) _ _ (by decide) (Nat.le_of_ble_eq_true rfl) ?_
  intro p e s m args below meth c hx hb hr hml hts htl hown hlocks hK H locs hH hG hS hB hZ ls hl
  have hown : s.vm.findClass RJ0 = some m.cls := hown
  have hl : lv_has ls 2 [(0, .ref (ld 6)), (1, .int p1)] := hl
  have hr_p1 := tk_rng p1
  refine lv_aload_n hx hb dJ0_charAt_5068e_0 rfl (lv_at hl 0 rfl) ?_
  refine tk_Ti (As := []) (rest := []) (j := 6) ⟨hx, hb, hml, hown, hts⟩ hK hG hZ hS (k_J0_isLatin1_aae02_6 l D cy ld t) trivial ⟨callB_of 0 hts (wl_in mw_537) rfl rfl rfl (htl _ mw_521) (htl _ mw_534) hd_yJ0_isLatin1_aae02 ⟨(Nat.le_of_ble_eq_true rfl), (Nat.le_of_ble_eq_true rfl)⟩, htl _ mw_535, htl _ mw_536⟩ (by decide) (tk_w.pick [] rfl) rfl hl.1 rfl (Nat.le_of_ble_eq_true rfl) dJ0_charAt_5068e_1 ⟨(Nat.le_of_ble_eq_true rfl), (Nat.le_of_ble_eq_true rfl)⟩ (fun v1 H locs hpo hG hS hq9 => ?_)
  obtain ⟨hpo3, hpo4, hpo5⟩ := hpo
  refine lv_if_eq (tgt := 16) hx hb dJ0_charAt_5068e_4 (by decide) (fun c9 => absurd (show v1.toInt = 0 from (fi_eq rfl (by decide)).mp c9) (by omega)) (fun _ => ?_)
  refine lv_aload_n hx hb dJ0_charAt_5068e_7 rfl (lv_at hl 0 rfl) ?_
  refine vk_getf hx hb ((hZ.1.1 6 (by decide)).2.2.1.narrow (fun _ h => h.1)) hS hown (htl _ mw_523) (fun _ h9 => h9) dJ0_charAt_5068e_8 ?_
  refine lv_iload_n hx hb dJ0_charAt_5068e_11 rfl (lv_at hl 1 rfl) ?_
  refine tk_Si (As := [.ref (ld 56), .int p1]) (rest := []) ⟨hx, hb, hml, hown, hts⟩ hK hG hZ hS (k_J1_charAt_3b067_6 l D cy ld t p1 (by omega) (by omega)) trivial ⟨callB_of 2 hts (wl_in mw_541) rfl rfl rfl (htl _ mw_540) (htl _ mw_538) hd_yJ1_charAt_3b067 ⟨(Nat.le_of_ble_eq_true rfl), (Nat.le_of_ble_eq_true rfl)⟩, htl _ mw_539⟩ (tk_w.pick [] rfl) rfl hl.1 rfl (Nat.le_of_ble_eq_true rfl) dJ0_charAt_5068e_12 ⟨(Nat.le_of_ble_eq_true rfl), (Nat.le_of_ble_eq_true rfl)⟩ (fun v6 H locs hpo hG hS hq9 => ?_)
  obtain ⟨hpo8, hpo9⟩ := hpo
  exact tk_iret (v := v6) hx hb hr (tk_nc (by omega) (by omega)) hlocks (show 0 ≤ v6.toInt ∧ v6.toInt ≤ 255 from ⟨(by omega), (by omega)⟩) hG hS dJ0_charAt_5068e_15
set_option maxHeartbeats 4000000 in
set_option maxRecDepth 100000 in
theorem k_J0_coder_7d493_6 (l : Launch) (D : va_G) (cy : Nat → ClassId) (ld : Nat → Nat) (t : tk_T) : Met l yJ0_coder_7d493 (wl yJ0_coder_7d493 cJ0_coder_7d493 1 (some .byte)) ({ frames := 3, cells := 0, slots := 0, locals := 140 }) (tp D cy ld t [] [.ref (ld 6)] (fun H => True)) (ti D cy ld t [] (fun r H => r.toInt = 0) (tk_w t [])) 0 0 (tk_w t []) := by
  refine tk_met (y := yJ0_coder_7d493) (cc := cJ0_coder_7d493) (maxL := 1) (ret := (some .byte)) (av := [.ref (ld 6)]) _ _ (by decide) (Nat.le_of_ble_eq_true rfl) ?_
  intro p e s m args below meth c hx hb hr hml hts htl hown hlocks hK H locs hH hG hS hB hZ ls hl
  have hown : s.vm.findClass RJ0 = some m.cls := hown
  have hl : lv_has ls 1 [(0, .ref (ld 6))] := hl
  refine va_gets hx hb (hZ.2.1.narrow (fun _ h => h.1)) hS hown (htl _ mw_528) (fun _ h9 => h9) dJ0_coder_7d493_0 ?_
  refine lv_if_eq (tgt := 13) hx hb dJ0_coder_7d493_3 (by decide) (fun c9 => absurd c9 (by decide)) (fun _ => ?_)
  refine lv_aload_n hx hb dJ0_coder_7d493_6 rfl (lv_at hl 0 rfl) ?_
  refine vk_getf hx hb ((hZ.1.1 6 (by decide)).2.1.narrow (fun _ h => h.1)) hS hown (htl _ mw_529) (fun _ h9 => h9) dJ0_coder_7d493_7 ?_
  refine lv_goto (tgt := 14) hx hb dJ0_coder_7d493_10 (by decide) ?_
  have hk_0 : (0 : Int32).toInt = 0 := by decide
  exact tk_iret (v := 0) hx hb hr rfl hlocks (show (0 : Int32).toInt = 0 from (by omega)) hG hS dJ0_coder_7d493_14
theorem dX6_landHere_0 : decode cX6_landHere 0 = .ok (.iload_n 1, 1) := by decide +kernel
theorem dX6_landHere_1 : decode cX6_landHere 1 = .ok (.aload_n 0, 1) := by decide +kernel
theorem dX6_landHere_2 : decode cX6_landHere 2 = .ok (.getfield 16, 3) := by decide +kernel
theorem dX6_landHere_5 : decode cX6_landHere 5 = .ok (.getfield 170, 3) := by decide +kernel
theorem dX6_landHere_8 : decode cX6_landHere 8 = .ok (.arraylength, 1) := by decide +kernel
theorem dX6_landHere_28 : decode cX6_landHere 28 = .ok (.return_, 1) := by decide +kernel
theorem dX6_landHere_9 : decode cX6_landHere 9 = .ok (.if_icmp .ge 19, 3) := by decide +kernel
theorem dX6_landHere_12 : decode cX6_landHere 12 = .ok (.aload_n 0, 1) := by decide +kernel
theorem dX6_landHere_13 : decode cX6_landHere 13 = .ok (.getfield 16, 3) := by decide +kernel
theorem dX6_landHere_16 : decode cX6_landHere 16 = .ok (.getfield 170, 3) := by decide +kernel
theorem dX6_landHere_19 : decode cX6_landHere 19 = .ok (.iload_n 1, 1) := by decide +kernel
theorem dX6_landHere_20 : decode cX6_landHere 20 = .ok (.aload_n 0, 1) := by decide +kernel
theorem dX6_landHere_21 : decode cX6_landHere 21 = .ok (.getfield 16, 3) := by decide +kernel
theorem dX6_landHere_24 : decode cX6_landHere 24 = .ok (.getfield 136, 3) := by decide +kernel
theorem dX6_landHere_27 : decode cX6_landHere 27 = .ok (.iastore, 1) := by decide +kernel
set_option maxHeartbeats 4000000 in
set_option maxRecDepth 100000 in
theorem k_X6_landHere (l : Launch) (D : va_G) (cy : Nat → ClassId) (ld : Nat → Nat) (t : tk_T) (a0 : Nat) (p1 : Int32) (ht_a0 : t a0 = (7, 0, 0)) (hp_0 : 0 ≤ p1.toInt) (hp_1 : p1.toInt ≤ 2147483647) : Met l yX6_landHere (wl yX6_landHere cX6_landHere 2 none) ({ frames := 3, cells := 0, slots := 0, locals := 140 }) (tp D cy ld t [] [.ref a0, .int p1] (fun H => True)) (tv D cy ld t [] (fun H => True) (tk_w t [(20, 0, 0)])) 0 0 (tk_w t [(20, 0, 0)]) := by
  refine tk_met (y := yX6_landHere) (cc := cX6_landHere) (maxL := 2) (ret := none) (av := [.ref a0, .int p1]) _ _ (by decide) (Nat.le_of_ble_eq_true rfl) ?_
  intro p e s m args below meth c hx hb hr hml hts htl hown hlocks hK H locs hH hG hS hB hZ ls hl
  have hown : s.vm.findClass RX6 = some m.cls := hown
  have hl : lv_has ls 2 [(0, .ref a0), (1, .int p1)] := hl
  have hr_p1 := tk_rng p1
  refine lv_iload_n hx hb dX6_landHere_0 rfl (lv_at hl 1 rfl) ?_
  refine lv_aload_n hx hb dX6_landHere_1 rfl (lv_at hl 0 rfl) ?_
  refine tk_get (ci := 6) (C := RX6) (T := TX6) (N := 11) (sp := (6, 8, 512, 12)) hx hb htl inX6 hown hK hG ht_a0 (by decide) tk_no rfl 0 (by decide) (htl _ mw_132) (fun _ h9 => h9) rfl dX6_landHere_2 (fun v9 hf1 hV9 => ?_)
  obtain ⟨b2, rfl, ht_b2⟩ := hV9
  have ht_b2 : t b2 = (8, 512, 12) := ht_b2
  refine tk_get (ci := 7) (C := RX7) (T := TX7) (N := 10) (sp := (2, 20, 0, 0)) hx hb htl inX7 hown hK hG ht_b2 (by decide) tk_no rfl 1 (by decide) (htl _ mw_643) (fun _ h9 => h9) rfl dX6_landHere_5 (fun v9 hf3 hV9 => ?_)
  obtain ⟨b4, rfl, ht_b4⟩ := hV9
  have ht_b4 : t b4 = (20, 512, 0) := ht_b4
  refine tk_alen hx hb hK hG 0 rfl ht_b4 (by decide) (fun _ h => by obtain ⟨f, h, _⟩ := h; exact ⟨_, h⟩) tk_no (by decide) dX6_landHere_8 (fun z hz => ?_)
  obtain rfl : z = 512 := (fi_eq hz (by decide)).mpr rfl
  have hj17 : ∀ (H : Heap) (locs : List Loc), tk_G D cy ld t [] H → va_S (tk_w t [(20, 0, 0)]) s.heap H locs → ∀ ls : Array Slot, lv_has ls 2 [] → W p l e ({ frames := 3, cells := 0, slots := 0, locals := 140 }) s m args below meth c H locs 0 0 (MQ below (tv D cy ld t [] (fun H => True) (tk_w t [(20, 0, 0)])) args s 0 0 (tk_w t [(20, 0, 0)])) (F0 m 28 ls []) := by
    intro H locs hG hS ls hl
    exact tk_vret hx hb hr hlocks trivial hG hS dX6_landHere_28
  refine lv_icmp_ge (tgt := 28) hx hb dX6_landHere_9 (by decide) (fun c9 => ?_) (fun c9 => ?_)
  · have hc5 : 512 ≤ p1.toInt := (fi_le (by decide) rfl).mp c9
    exact hj17 _ _ hG hS _ (lv_sub hl [] rfl)
  · have hc5 : ¬ (512 ≤ p1.toInt) := fun h9 => c9 ((fi_le (by decide) rfl).mpr h9)
    refine lv_aload_n hx hb dX6_landHere_12 rfl (lv_at hl 0 rfl) ?_
    refine tk_get (ci := 6) (C := RX6) (T := TX6) (N := 11) (sp := (6, 8, 512, 12)) hx hb htl inX6 hown hK hG ht_a0 (by decide) tk_no rfl 0 (by decide) (htl _ mw_132) (fun _ h9 => h9) rfl dX6_landHere_13 (fun v9 hf18 hV9 => ?_)
    obtain ⟨b19, rfl, ht_b19⟩ := hV9
    have ht_b19 : t b19 = (8, 512, 12) := ht_b19
    refine tk_get (ci := 7) (C := RX7) (T := TX7) (N := 10) (sp := (2, 20, 0, 0)) hx hb htl inX7 hown hK hG ht_b19 (by decide) tk_no rfl 1 (by decide) (htl _ mw_643) (fun _ h9 => h9) rfl dX6_landHere_16 (fun v9 hf20 hV9 => ?_)
    obtain ⟨b21, rfl, ht_b21⟩ := hV9
    have ht_b21 : t b21 = (20, 512, 0) := ht_b21
    refine lv_iload_n hx hb dX6_landHere_19 rfl (lv_at hl 1 rfl) ?_
    refine lv_aload_n hx hb dX6_landHere_20 rfl (lv_at hl 0 rfl) ?_
    refine tk_get (ci := 6) (C := RX6) (T := TX6) (N := 11) (sp := (6, 8, 512, 12)) hx hb htl inX6 hown hK hG ht_a0 (by decide) tk_no rfl 0 (by decide) (htl _ mw_132) (fun _ h9 => h9) rfl dX6_landHere_21 (fun v9 hf22 hV9 => ?_)
    obtain ⟨b23, rfl, ht_b23⟩ := hV9
    have ht_b23 : t b23 = (8, 512, 12) := ht_b23
    refine tk_get (ci := 7) (C := RX7) (T := TX7) (N := 10) (sp := (4, 0, 0, 0)) hx hb htl inX7 hown hK hG ht_b23 (by decide) tk_no rfl 6 (by decide) (htl _ mw_513) (fun _ h9 => h9) rfl dX6_landHere_24 (fun v9 hf24 hV9 => ?_)
    obtain ⟨v25, rfl, ha_v25, hb_v25⟩ := hV9
    refine tk_iast hx hb hK hG hS ht_b21 (by decide) (fun _ => Iff.rfl) tk_no rfl (by omega) (by omega) trivial (tk_w.of ht_b21 (by decide) (List.mem_of_getElem? (i := 0) rfl) (Nat.le_refl _) (Nat.le_refl _)) dX6_landHere_27 (fun H locs hG hS hq9 => ?_)
    have hf24 := hf24.kept (hq9 _ (tk_ne ht_b23 ht_b21 (Or.inl (by decide))))
    exact hj17 _ _ hG hS _ (lv_sub hl [] rfl)
theorem dX6_noteLawWord_0 : decode cX6_noteLawWord 0 = .ok (.aload_n 0, 1) := by decide +kernel
theorem dX6_noteLawWord_1 : decode cX6_noteLawWord 1 = .ok (.getfield 16, 3) := by decide +kernel
theorem dX6_noteLawWord_4 : decode cX6_noteLawWord 4 = .ok (.getfield 194, 3) := by decide +kernel
theorem dX6_noteLawWord_7 : decode cX6_noteLawWord 7 = .ok (.iconst 1, 1) := by decide +kernel
theorem dX6_noteLawWord_8 : decode cX6_noteLawWord 8 = .ok (.isub, 1) := by decide +kernel
theorem dX6_noteLawWord_9 : decode cX6_noteLawWord 9 = .ok (.istore_n 2, 1) := by decide +kernel
theorem dX6_noteLawWord_10 : decode cX6_noteLawWord 10 = .ok (.iload_n 1, 1) := by decide +kernel
theorem dX6_noteLawWord_11 : decode cX6_noteLawWord 11 = .ok (.iconst 5, 1) := by decide +kernel
theorem dX6_noteLawWord_39 : decode cX6_noteLawWord 39 = .ok (.iload_n 1, 1) := by decide +kernel
theorem dX6_noteLawWord_40 : decode cX6_noteLawWord 40 = .ok (.ireturn, 1) := by decide +kernel
theorem dX6_noteLawWord_12 : decode cX6_noteLawWord 12 = .ok (.if_icmp .ne 27, 3) := by decide +kernel
theorem dX6_noteLawWord_15 : decode cX6_noteLawWord 15 = .ok (.iload_n 2, 1) := by decide +kernel
theorem dX6_noteLawWord_16 : decode cX6_noteLawWord 16 = .ok (.ifCond .lt 23, 3) := by decide +kernel
theorem dX6_noteLawWord_19 : decode cX6_noteLawWord 19 = .ok (.aload_n 0, 1) := by decide +kernel
theorem dX6_noteLawWord_20 : decode cX6_noteLawWord 20 = .ok (.getfield 16, 3) := by decide +kernel
theorem dX6_noteLawWord_23 : decode cX6_noteLawWord 23 = .ok (.getfield 199, 3) := by decide +kernel
theorem dX6_noteLawWord_26 : decode cX6_noteLawWord 26 = .ok (.iload_n 2, 1) := by decide +kernel
theorem dX6_noteLawWord_27 : decode cX6_noteLawWord 27 = .ok (.iaload, 1) := by decide +kernel
theorem dX6_noteLawWord_28 : decode cX6_noteLawWord 28 = .ok (.ifCond .ne 11, 3) := by decide +kernel
theorem dX6_noteLawWord_31 : decode cX6_noteLawWord 31 = .ok (.aload_n 0, 1) := by decide +kernel
theorem dX6_noteLawWord_32 : decode cX6_noteLawWord 32 = .ok (.getfield 16, 3) := by decide +kernel
theorem dX6_noteLawWord_35 : decode cX6_noteLawWord 35 = .ok (.iconst 1, 1) := by decide +kernel
theorem dX6_noteLawWord_36 : decode cX6_noteLawWord 36 = .ok (.putfield 202, 3) := by decide +kernel
set_option maxHeartbeats 4000000 in
set_option maxRecDepth 100000 in
theorem k_X6_noteLawWord (l : Launch) (D : va_G) (cy : Nat → ClassId) (ld : Nat → Nat) (t : tk_T) (a0 : Nat) (p1 : Int32) (ht_a0 : t a0 = (7, 0, 0)) : Met l yX6_noteLawWord (wl yX6_noteLawWord cX6_noteLawWord 3 (some .int)) ({ frames := 3, cells := 0, slots := 0, locals := 140 }) (tp D cy ld t [] [.ref a0, .int p1] (fun H => True)) (ti D cy ld t [] (fun r H => True) (tk_w t [(8, 12, 12)])) 0 0 (tk_w t [(8, 12, 12)]) := by
  refine tk_met (y := yX6_noteLawWord) (cc := cX6_noteLawWord) (maxL := 3) (ret := (some .int)) (av := [.ref a0, .int p1]) _ _ (by decide) (Nat.le_of_ble_eq_true rfl) ?_
  intro p e s m args below meth c hx hb hr hml hts htl hown hlocks hK H locs hH hG hS hB hZ ls hl
  have hown : s.vm.findClass RX6 = some m.cls := hown
  have hl : lv_has ls 3 [(0, .ref a0), (1, .int p1)] := hl
  have hr_p1 := tk_rng p1
  refine lv_aload_n hx hb dX6_noteLawWord_0 rfl (lv_at hl 0 rfl) ?_
  refine tk_get (ci := 6) (C := RX6) (T := TX6) (N := 11) (sp := (6, 8, 512, 12)) hx hb htl inX6 hown hK hG ht_a0 (by decide) tk_no rfl 0 (by decide) (htl _ mw_132) (fun _ h9 => h9) rfl dX6_noteLawWord_1 (fun v9 hf1 hV9 => ?_)
  obtain ⟨b2, rfl, ht_b2⟩ := hV9
  have ht_b2 : t b2 = (8, 512, 12) := ht_b2
  refine tk_get (ci := 7) (C := RX7) (T := TX7) (N := 10) (sp := (5, 0, 0, 0)) hx hb htl inX7 hown hK hG ht_b2 (by decide) tk_no rfl 7 (by decide) (htl _ mw_608) (fun _ h9 => h9) rfl dX6_noteLawWord_4 (fun v9 hf3 hV9 => ?_)
  obtain ⟨v4, rfl, ha_v4, hb_v4⟩ := hV9
  refine lv_iconst (v := 1) hx hb dX6_noteLawWord_7 (by decide) ?_
  refine lv_isub hx hb dX6_noteLawWord_8 ?_
  refine tk_sub rfl (by decide) (by omega) (by omega) (fun v5 h_v5 => ?_)
  refine lv_istore_n (lv' := [(2, .int v5), (0, .ref a0), (1, .int p1)]) hx hb dX6_noteLawWord_9 rfl hl (by decide) rfl (fun ls hl => ?_)
  refine lv_iload_n hx hb dX6_noteLawWord_10 rfl (lv_at hl 2 rfl) ?_
  refine lv_iconst (v := 5) hx hb dX6_noteLawWord_11 (by decide) ?_
  have hj20 : ∀ (H : Heap) (locs : List Loc), tk_G D cy ld t [] H → va_S (tk_w t [(8, 12, 12)]) s.heap H locs → ∀ ls : Array Slot, lv_has ls 3 [(1, .int p1)] → W p l e ({ frames := 3, cells := 0, slots := 0, locals := 140 }) s m args below meth c H locs 0 0 (MQ below (ti D cy ld t [] (fun r H => True) (tk_w t [(8, 12, 12)])) args s 0 0 (tk_w t [(8, 12, 12)])) (F0 m 39 ls []) := by
    intro H locs hG hS ls hl
    refine lv_iload_n hx hb dX6_noteLawWord_39 rfl (lv_at hl 0 rfl) ?_
    exact tk_iret (v := p1) hx hb hr rfl hlocks trivial hG hS dX6_noteLawWord_40
  refine lv_icmp_ne (tgt := 39) hx hb dX6_noteLawWord_12 (by decide) (fun c9 => ?_) (fun c9 => ?_)
  · have hc6 : ¬ (p1.toInt = 5) := fun h9 => c9 ((fi_eq rfl (by decide)).mpr h9)
    exact hj20 _ _ hG hS _ (lv_sub hl [2] rfl)
  · have hc6 : p1.toInt = 5 := (fi_eq rfl (by decide)).mp c9
    refine lv_iload_n hx hb dX6_noteLawWord_15 rfl (lv_at hl 0 rfl) ?_
    refine lv_if_lt (tgt := 39) hx hb dX6_noteLawWord_16 (by decide) (fun c9 => ?_) (fun c9 => ?_)
    · have hc21 : v5.toInt < 0 := (fi_lt rfl (by decide)).mp c9
      exact hj20 _ _ hG hS _ (lv_sub hl [2] rfl)
    · have hc21 : ¬ (v5.toInt < 0) := fun h9 => c9 ((fi_lt rfl (by decide)).mpr h9)
      refine lv_aload_n hx hb dX6_noteLawWord_19 rfl (lv_at hl 1 rfl) ?_
      refine tk_get (ci := 6) (C := RX6) (T := TX6) (N := 11) (sp := (6, 8, 512, 12)) hx hb htl inX6 hown hK hG ht_a0 (by decide) tk_no rfl 0 (by decide) (htl _ mw_132) (fun _ h9 => h9) rfl dX6_noteLawWord_20 (fun v9 hf22 hV9 => ?_)
      obtain ⟨b23, rfl, ht_b23⟩ := hV9
      have ht_b23 : t b23 = (8, 512, 12) := ht_b23
      refine tk_get (ci := 7) (C := RX7) (T := TX7) (N := 10) (sp := (3, 20, 1, 0)) hx hb htl inX7 hown hK hG ht_b23 (by decide) tk_no rfl 2 (by decide) (htl _ mw_609) (fun _ h9 => h9) rfl dX6_noteLawWord_23 (fun v9 hf24 hV9 => ?_)
      obtain ⟨b25, rfl, ht_b25⟩ := hV9
      have ht_b25 : t b25 = (20, 12, 0) := ht_b25
      refine lv_iload_n hx hb dX6_noteLawWord_26 rfl (lv_at hl 0 rfl) ?_
      refine tk_iald hx hb hK hG ht_b25 (by decide) (fun _ h => h) tk_no rfl (by omega) (by omega) dX6_noteLawWord_27 (fun v26 _ _ => ?_)
      have hr_v26 := tk_rng v26
      refine lv_if_ne (tgt := 39) hx hb dX6_noteLawWord_28 (by decide) (fun c9 => ?_) (fun c9 => ?_)
      · have hc27 : ¬ (v26.toInt = 0) := fun h9 => c9 ((fi_eq rfl (by decide)).mpr h9)
        exact hj20 _ _ hG hS _ (lv_sub hl [2] rfl)
      · have hc27 : v26.toInt = 0 := (fi_eq rfl (by decide)).mp c9
        refine lv_aload_n hx hb dX6_noteLawWord_31 rfl (lv_at hl 1 rfl) ?_
        refine tk_get (ci := 6) (C := RX6) (T := TX6) (N := 11) (sp := (6, 8, 512, 12)) hx hb htl inX6 hown hK hG ht_a0 (by decide) tk_no rfl 0 (by decide) (htl _ mw_132) (fun _ h9 => h9) rfl dX6_noteLawWord_32 (fun v9 hf28 hV9 => ?_)
        obtain ⟨b29, rfl, ht_b29⟩ := hV9
        have ht_b29 : t b29 = (8, 512, 12) := ht_b29
        refine lv_iconst (v := 1) hx hb dX6_noteLawWord_35 (by decide) ?_
        refine tk_put (ci := 7) (v := .int 1) (ty := .boolean) (C := RX7) (T := TX7) (N := 10) (sp := (0, 0, 1, 0)) hx hb htl inX7 tyX7 tyX7_ok nmX7 hown hK hG hS ht_b29 (by decide) tk_no rfl 9 (by decide) (htl _ mw_610) (fun _ h9 => h9) rfl (tyX7_ok 9 (by decide)) rfl rfl rfl (tk_Vi (by decide) (by decide)) (fun _ h => h) (tk_w.of ht_b29 (by decide) (List.mem_of_getElem? (i := 0) rfl) (Nat.le_refl _) (Nat.le_refl _)) dX6_noteLawWord_36 (fun H locs hG hS hf30 hq9 hj9 => ?_)
        exact hj20 _ _ hG hS _ (lv_sub hl [2] rfl)
theorem dX6_readOwner_0 : decode cX6_readOwner 0 = .ok (.iload_n 1, 1) := by decide +kernel
theorem dX6_readOwner_1 : decode cX6_readOwner 1 = .ok (.iconst 5, 1) := by decide +kernel
theorem dX6_readOwner_10 : decode cX6_readOwner 10 = .ok (.istore_n 2, 1) := by decide +kernel
theorem dX6_readOwner_11 : decode cX6_readOwner 11 = .ok (.iload_n 2, 1) := by decide +kernel
theorem dX6_readOwner_12 : decode cX6_readOwner 12 = .ok (.ifCond .ne 11, 3) := by decide +kernel
theorem dX6_readOwner_23 : decode cX6_readOwner 23 = .ok (.aload_n 0, 1) := by decide +kernel
theorem dX6_readOwner_24 : decode cX6_readOwner 24 = .ok (.getfield 67, 3) := by decide +kernel
theorem dX6_readOwner_27 : decode cX6_readOwner 27 = .ok (.iconst 2, 1) := by decide +kernel
theorem dX6_readOwner_28 : decode cX6_readOwner 28 = .ok (.if_icmp .ne 20, 3) := by decide +kernel
theorem dX6_readOwner_48 : decode cX6_readOwner 48 = .ok (.aload_n 0, 1) := by decide +kernel
theorem dX6_readOwner_49 : decode cX6_readOwner 49 = .ok (.invokevirtual 60, 3) := by decide +kernel
theorem dX6_readOwner_52 : decode cX6_readOwner 52 = .ok (.iload_n 1, 1) := by decide +kernel
theorem dX6_readOwner_53 : decode cX6_readOwner 53 = .ok (.ireturn, 1) := by decide +kernel
theorem dX6_readOwner_31 : decode cX6_readOwner 31 = .ok (.aload_n 0, 1) := by decide +kernel
theorem dX6_readOwner_32 : decode cX6_readOwner 32 = .ok (.getfield 80, 3) := by decide +kernel
theorem dX6_readOwner_35 : decode cX6_readOwner 35 = .ok (.iload_n 2, 1) := by decide +kernel
theorem dX6_readOwner_36 : decode cX6_readOwner 36 = .ok (.ifCond .eq 8, 3) := by decide +kernel
theorem dX6_readOwner_39 : decode cX6_readOwner 39 = .ok (.bipush 7, 2) := by decide +kernel
theorem dX6_readOwner_41 : decode cX6_readOwner 41 = .ok (.goto 4, 3) := by decide +kernel
theorem dX6_readOwner_45 : decode cX6_readOwner 45 = .ok (.if_icmp .le 9, 3) := by decide +kernel
theorem dX6_readOwner_54 : decode cX6_readOwner 54 = .ok (.aload_n 0, 1) := by decide +kernel
theorem dX6_readOwner_55 : decode cX6_readOwner 55 = .ok (.getfield 80, 3) := by decide +kernel
theorem dX6_readOwner_58 : decode cX6_readOwner 58 = .ok (.istore_n 3, 1) := by decide +kernel
theorem dX6_readOwner_59 : decode cX6_readOwner 59 = .ok (.aload_n 0, 1) := by decide +kernel
theorem dX6_readOwner_60 : decode cX6_readOwner 60 = .ok (.invokevirtual 53, 3) := by decide +kernel
theorem dX6_readOwner_63 : decode cX6_readOwner 63 = .ok (.iload_n 2, 1) := by decide +kernel
theorem dX6_readOwner_64 : decode cX6_readOwner 64 = .ok (.ifCond .eq 7, 3) := by decide +kernel
theorem dX6_readOwner_67 : decode cX6_readOwner 67 = .ok (.iconst 5, 1) := by decide +kernel
theorem dX6_readOwner_68 : decode cX6_readOwner 68 = .ok (.goto 5, 3) := by decide +kernel
theorem dX6_readOwner_73 : decode cX6_readOwner 73 = .ok (.iload_n 3, 1) := by decide +kernel
theorem dX6_readOwner_74 : decode cX6_readOwner 74 = .ok (.iadd, 1) := by decide +kernel
theorem dX6_readOwner_75 : decode cX6_readOwner 75 = .ok (.ireturn, 1) := by decide +kernel
theorem dX6_readOwner_15 : decode cX6_readOwner 15 = .ok (.iload_n 1, 1) := by decide +kernel
theorem dX6_readOwner_16 : decode cX6_readOwner 16 = .ok (.bipush 6, 2) := by decide +kernel
theorem dX6_readOwner_18 : decode cX6_readOwner 18 = .ok (.if_icmp .eq 5, 3) := by decide +kernel
theorem dX6_readOwner_44 : decode cX6_readOwner 44 = .ok (.iconst 1, 1) := by decide +kernel
theorem dX6_readOwner_71 : decode cX6_readOwner 71 = .ok (.bipush 13, 2) := by decide +kernel
theorem dX6_readOwner_21 : decode cX6_readOwner 21 = .ok (.iload_n 1, 1) := by decide +kernel
theorem dX6_readOwner_22 : decode cX6_readOwner 22 = .ok (.ireturn, 1) := by decide +kernel
theorem dX6_readOwner_2 : decode cX6_readOwner 2 = .ok (.if_icmp .ne 7, 3) := by decide +kernel
theorem dX6_readOwner_9 : decode cX6_readOwner 9 = .ok (.iconst 0, 1) := by decide +kernel
theorem dX6_readOwner_5 : decode cX6_readOwner 5 = .ok (.iconst 1, 1) := by decide +kernel
theorem dX6_readOwner_6 : decode cX6_readOwner 6 = .ok (.goto 4, 3) := by decide +kernel
set_option maxHeartbeats 4000000 in
set_option maxRecDepth 100000 in
theorem k_X6_readOwner (l : Launch) (D : va_G) (cy : Nat → ClassId) (ld : Nat → Nat) (t : tk_T) (a0 : Nat) (p1 : Int32) (g9 : Int32) (ht_a0 : t a0 = (7, 0, 0)) (hp_0 : 0 ≤ g9.toInt) (hp_1 : g9.toInt ≤ 8) : Met l yX6_readOwner (wl yX6_readOwner cX6_readOwner 4 (some .int)) ({ frames := 5, cells := 0, slots := 0, locals := 280 }) (tp D cy ld t [] [.ref a0, .int p1] (fun H => tk_f D H a0 6 9 (.int g9))) (ti D cy ld t [] (fun r H => tk_f D H a0 6 9 (.int g9)) (tk_w t [(7, 0, 0)])) 0 0 (tk_w t [(7, 0, 0)]) := by
  refine tk_met (y := yX6_readOwner) (cc := cX6_readOwner) (maxL := 4) (ret := (some .int)) (av := [.ref a0, .int p1]) _ _ (by decide) (Nat.le_of_ble_eq_true rfl) ?_
  intro p e s m args below meth c hx hb hr hml hts htl hown hlocks hK H locs hH hG hS hB hZ ls hl
  have hown : s.vm.findClass RX6 = some m.cls := hown
  have hl : lv_has ls 4 [(0, .ref a0), (1, .int p1)] := hl
  have hg_0 := hB
  have hr_p1 := tk_rng p1
  refine lv_iload_n hx hb dX6_readOwner_0 rfl (lv_at hl 1 rfl) ?_
  refine lv_iconst (v := 5) hx hb dX6_readOwner_1 (by decide) ?_
  have hj4 : ∀ (v3 : Int32), 0 ≤ v3.toInt → v3.toInt ≤ 1 → ∀ ls : Array Slot, lv_has ls 4 [(0, .ref a0), (1, .int p1)] → W p l e ({ frames := 5, cells := 0, slots := 0, locals := 280 }) s m args below meth c H locs 0 0 (MQ below (ti D cy ld t [] (fun r H => tk_f D H a0 6 9 (.int g9)) (tk_w t [(7, 0, 0)])) args s 0 0 (tk_w t [(7, 0, 0)])) (F0 m 10 ls [.int v3]) := by
    intro v3 hq0_j4 hq1_j4 ls hl
    refine lv_istore_n (lv' := [(2, .int v3), (0, .ref a0), (1, .int p1)]) hx hb dX6_readOwner_10 rfl hl (by decide) rfl (fun ls hl => ?_)
    refine lv_iload_n hx hb dX6_readOwner_11 rfl (lv_at hl 0 rfl) ?_
    refine lv_if_ne (tgt := 23) hx hb dX6_readOwner_12 (by decide) (fun c9 => ?_) (fun c9 => ?_)
    · have hc5 : ¬ (v3.toInt = 0) := fun h9 => c9 ((fi_eq rfl (by decide)).mpr h9)
      refine lv_aload_n hx hb dX6_readOwner_23 rfl (lv_at hl 1 rfl) ?_
      refine tk_get (ci := 6) (C := RX6) (T := TX6) (N := 11) (sp := (0, (-2147483648), 2147483647, 0)) hx hb htl inX6 hown hK hG ht_a0 (by decide) tk_no rfl 6 (by decide) (htl _ mw_482) (fun _ h9 => h9) rfl dX6_readOwner_24 (fun v9 hf6 hV9 => ?_)
      obtain ⟨v7, rfl, ha_v7, hb_v7⟩ := hV9
      refine lv_iconst (v := 2) hx hb dX6_readOwner_27 (by decide) ?_
      refine lv_icmp_ne (tgt := 48) hx hb dX6_readOwner_28 (by decide) (fun c9 => ?_) (fun c9 => ?_)
      · have hc8 : ¬ (v7.toInt = 2) := fun h9 => c9 ((fi_eq rfl (by decide)).mpr h9)
        refine lv_aload_n hx hb dX6_readOwner_48 rfl (lv_at hl 1 rfl) ?_
        refine tk_Vv (As := []) (rest := []) (ci := 6) ⟨hx, hb, hml, hown, hts⟩ hK hG hZ hS (k_X6_fail l D cy ld t a0 g9 ht_a0 (by omega) (by omega)) hg_0 ⟨callB_of 0 hts (wl_in mw_507) rfl rfl rfl (htl _ mw_36) (htl _ mw_504) hd_yX6_fail ⟨(Nat.le_of_ble_eq_true rfl), (Nat.le_of_ble_eq_true rfl)⟩, htl _ mw_505, htl _ mw_506⟩ ht_a0 (by decide) tk_no rfl (tk_w.pick [0] rfl) rfl hl.1 rfl (Nat.le_of_ble_eq_true rfl) dX6_readOwner_49 ⟨(Nat.le_of_ble_eq_true rfl), (Nat.le_of_ble_eq_true rfl)⟩ (fun H locs hpo hG hS hq9 => ?_)
        have hf10 := hpo
        refine lv_iload_n hx hb dX6_readOwner_52 rfl (lv_at hl 2 rfl) ?_
        exact tk_iret (v := p1) hx hb hr rfl hlocks (show tk_f D H a0 6 9 (.int g9) from hf10) hG hS dX6_readOwner_53
      · have hc8 : v7.toInt = 2 := (fi_eq rfl (by decide)).mp c9
        refine lv_aload_n hx hb dX6_readOwner_31 rfl (lv_at hl 1 rfl) ?_
        refine tk_get (ci := 6) (C := RX6) (T := TX6) (N := 11) (sp := (0, (-2147483648), 2147483647, 0)) hx hb htl inX6 hown hK hG ht_a0 (by decide) tk_no rfl 7 (by decide) (htl _ mw_496) (fun _ h9 => h9) rfl dX6_readOwner_32 (fun v9 hf11 hV9 => ?_)
        obtain ⟨v12, rfl, ha_v12, hb_v12⟩ := hV9
        refine lv_iload_n hx hb dX6_readOwner_35 rfl (lv_at hl 0 rfl) ?_
        refine lv_if_eq (tgt := 44) hx hb dX6_readOwner_36 (by decide) (fun c9 => absurd (show v3.toInt = 0 from (fi_eq rfl (by decide)).mp c9) (by omega)) (fun _ => ?_)
        refine lv_bipush (v := 7) hx hb dX6_readOwner_39 (by decide) ?_
        refine lv_goto (tgt := 45) hx hb dX6_readOwner_41 (by decide) ?_
        refine lv_icmp_le (tgt := 54) hx hb dX6_readOwner_45 (by decide) (fun c9 => ?_) (fun c9 => ?_)
        · have hc13 : v12.toInt ≤ 7 := (fi_le rfl (by decide)).mp c9
          refine lv_aload_n hx hb dX6_readOwner_54 rfl (lv_at hl 1 rfl) ?_
          refine tk_getk (ci := 6) (C := RX6) (T := TX6) (N := 11) (sp := (0, (-2147483648), 2147483647, 0)) hx hb htl inX6 hown hK hG ht_a0 (by decide) tk_no rfl 7 (by decide) (htl _ mw_496) (fun _ h9 => h9) rfl hf11 dX6_readOwner_55 ?_
          refine lv_istore_n (lv' := [(3, .int v12), (2, .int v3), (0, .ref a0), (1, .int p1)]) hx hb dX6_readOwner_58 rfl hl (by decide) rfl (fun ls hl => ?_)
          refine lv_aload_n hx hb dX6_readOwner_59 rfl (lv_at hl 2 rfl) ?_
          refine tk_Vv (As := []) (rest := []) (ci := 6) ⟨hx, hb, hml, hown, hts⟩ hK hG hZ hS (k_X6_step l D cy ld t a0 g9 ht_a0 (by omega) (by omega)) hg_0 ⟨callB_of 0 hts (wl_in mw_494) rfl rfl rfl (htl _ mw_36) (htl _ mw_491) hd_yX6_step ⟨(Nat.le_of_ble_eq_true rfl), (Nat.le_of_ble_eq_true rfl)⟩, htl _ mw_492, htl _ mw_493⟩ ht_a0 (by decide) tk_no rfl (tk_w.pick [0] rfl) rfl hl.1 rfl (Nat.le_of_ble_eq_true rfl) dX6_readOwner_60 ⟨(Nat.le_of_ble_eq_true rfl), (Nat.le_of_ble_eq_true rfl)⟩ (fun H locs hpo hG hS hq9 => ?_)
          have hf15 := hpo
          refine lv_iload_n hx hb dX6_readOwner_63 rfl (lv_at hl 1 rfl) ?_
          refine lv_if_eq (tgt := 71) hx hb dX6_readOwner_64 (by decide) (fun c9 => absurd (show v3.toInt = 0 from (fi_eq rfl (by decide)).mp c9) (by omega)) (fun _ => ?_)
          refine lv_iconst (v := 5) hx hb dX6_readOwner_67 (by decide) ?_
          refine lv_goto (tgt := 73) hx hb dX6_readOwner_68 (by decide) ?_
          refine lv_iload_n hx hb dX6_readOwner_73 rfl (lv_at hl 0 rfl) ?_
          refine lv_iadd hx hb dX6_readOwner_74 ?_
          refine tk_add (by decide) rfl (by omega) (by omega) (fun v16 h_v16 => ?_)
          exact tk_iret (v := v16) hx hb hr rfl hlocks (show tk_f D H a0 6 9 (.int g9) from hf15) hG hS dX6_readOwner_75
        · have hc13 : ¬ (v12.toInt ≤ 7) := fun h9 => c9 ((fi_le rfl (by decide)).mpr h9)
          refine lv_aload_n hx hb dX6_readOwner_48 rfl (lv_at hl 1 rfl) ?_
          refine tk_Vv (As := []) (rest := []) (ci := 6) ⟨hx, hb, hml, hown, hts⟩ hK hG hZ hS (k_X6_fail l D cy ld t a0 g9 ht_a0 (by omega) (by omega)) hg_0 ⟨callB_of 0 hts (wl_in mw_507) rfl rfl rfl (htl _ mw_36) (htl _ mw_504) hd_yX6_fail ⟨(Nat.le_of_ble_eq_true rfl), (Nat.le_of_ble_eq_true rfl)⟩, htl _ mw_505, htl _ mw_506⟩ ht_a0 (by decide) tk_no rfl (tk_w.pick [0] rfl) rfl hl.1 rfl (Nat.le_of_ble_eq_true rfl) dX6_readOwner_49 ⟨(Nat.le_of_ble_eq_true rfl), (Nat.le_of_ble_eq_true rfl)⟩ (fun H locs hpo hG hS hq9 => ?_)
          have hf18 := hpo
          refine lv_iload_n hx hb dX6_readOwner_52 rfl (lv_at hl 2 rfl) ?_
          exact tk_iret (v := p1) hx hb hr rfl hlocks (show tk_f D H a0 6 9 (.int g9) from hf18) hG hS dX6_readOwner_53
    · have hc5 : v3.toInt = 0 := (fi_eq rfl (by decide)).mp c9
      refine lv_iload_n hx hb dX6_readOwner_15 rfl (lv_at hl 2 rfl) ?_
      refine lv_bipush (v := 6) hx hb dX6_readOwner_16 (by decide) ?_
      refine lv_icmp_eq (tgt := 23) hx hb dX6_readOwner_18 (by decide) (fun c9 => ?_) (fun c9 => ?_)
      · have hc19 : p1.toInt = 6 := (fi_eq rfl (by decide)).mp c9
        refine lv_aload_n hx hb dX6_readOwner_23 rfl (lv_at hl 1 rfl) ?_
        refine tk_get (ci := 6) (C := RX6) (T := TX6) (N := 11) (sp := (0, (-2147483648), 2147483647, 0)) hx hb htl inX6 hown hK hG ht_a0 (by decide) tk_no rfl 6 (by decide) (htl _ mw_482) (fun _ h9 => h9) rfl dX6_readOwner_24 (fun v9 hf20 hV9 => ?_)
        obtain ⟨v21, rfl, ha_v21, hb_v21⟩ := hV9
        refine lv_iconst (v := 2) hx hb dX6_readOwner_27 (by decide) ?_
        refine lv_icmp_ne (tgt := 48) hx hb dX6_readOwner_28 (by decide) (fun c9 => ?_) (fun c9 => ?_)
        · have hc22 : ¬ (v21.toInt = 2) := fun h9 => c9 ((fi_eq rfl (by decide)).mpr h9)
          refine lv_aload_n hx hb dX6_readOwner_48 rfl (lv_at hl 1 rfl) ?_
          refine tk_Vv (As := []) (rest := []) (ci := 6) ⟨hx, hb, hml, hown, hts⟩ hK hG hZ hS (k_X6_fail l D cy ld t a0 g9 ht_a0 (by omega) (by omega)) hg_0 ⟨callB_of 0 hts (wl_in mw_507) rfl rfl rfl (htl _ mw_36) (htl _ mw_504) hd_yX6_fail ⟨(Nat.le_of_ble_eq_true rfl), (Nat.le_of_ble_eq_true rfl)⟩, htl _ mw_505, htl _ mw_506⟩ ht_a0 (by decide) tk_no rfl (tk_w.pick [0] rfl) rfl hl.1 rfl (Nat.le_of_ble_eq_true rfl) dX6_readOwner_49 ⟨(Nat.le_of_ble_eq_true rfl), (Nat.le_of_ble_eq_true rfl)⟩ (fun H locs hpo hG hS hq9 => ?_)
          have hf24 := hpo
          refine lv_iload_n hx hb dX6_readOwner_52 rfl (lv_at hl 2 rfl) ?_
          exact tk_iret (v := p1) hx hb hr rfl hlocks (show tk_f D H a0 6 9 (.int g9) from hf24) hG hS dX6_readOwner_53
        · have hc22 : v21.toInt = 2 := (fi_eq rfl (by decide)).mp c9
          refine lv_aload_n hx hb dX6_readOwner_31 rfl (lv_at hl 1 rfl) ?_
          refine tk_get (ci := 6) (C := RX6) (T := TX6) (N := 11) (sp := (0, (-2147483648), 2147483647, 0)) hx hb htl inX6 hown hK hG ht_a0 (by decide) tk_no rfl 7 (by decide) (htl _ mw_496) (fun _ h9 => h9) rfl dX6_readOwner_32 (fun v9 hf25 hV9 => ?_)
          obtain ⟨v26, rfl, ha_v26, hb_v26⟩ := hV9
          refine lv_iload_n hx hb dX6_readOwner_35 rfl (lv_at hl 0 rfl) ?_
          refine lv_if_eq (tgt := 44) hx hb dX6_readOwner_36 (by decide) (fun _ => ?_) (fun c9 => absurd ((fi_eq rfl (by decide)).mpr (show v3.toInt = 0 by omega)) c9)
          refine lv_iconst (v := 1) hx hb dX6_readOwner_44 (by decide) ?_
          refine lv_icmp_le (tgt := 54) hx hb dX6_readOwner_45 (by decide) (fun c9 => ?_) (fun c9 => ?_)
          · have hc27 : v26.toInt ≤ 1 := (fi_le rfl (by decide)).mp c9
            refine lv_aload_n hx hb dX6_readOwner_54 rfl (lv_at hl 1 rfl) ?_
            refine tk_getk (ci := 6) (C := RX6) (T := TX6) (N := 11) (sp := (0, (-2147483648), 2147483647, 0)) hx hb htl inX6 hown hK hG ht_a0 (by decide) tk_no rfl 7 (by decide) (htl _ mw_496) (fun _ h9 => h9) rfl hf25 dX6_readOwner_55 ?_
            refine lv_istore_n (lv' := [(3, .int v26), (2, .int v3), (0, .ref a0), (1, .int p1)]) hx hb dX6_readOwner_58 rfl hl (by decide) rfl (fun ls hl => ?_)
            refine lv_aload_n hx hb dX6_readOwner_59 rfl (lv_at hl 2 rfl) ?_
            refine tk_Vv (As := []) (rest := []) (ci := 6) ⟨hx, hb, hml, hown, hts⟩ hK hG hZ hS (k_X6_step l D cy ld t a0 g9 ht_a0 (by omega) (by omega)) hg_0 ⟨callB_of 0 hts (wl_in mw_494) rfl rfl rfl (htl _ mw_36) (htl _ mw_491) hd_yX6_step ⟨(Nat.le_of_ble_eq_true rfl), (Nat.le_of_ble_eq_true rfl)⟩, htl _ mw_492, htl _ mw_493⟩ ht_a0 (by decide) tk_no rfl (tk_w.pick [0] rfl) rfl hl.1 rfl (Nat.le_of_ble_eq_true rfl) dX6_readOwner_60 ⟨(Nat.le_of_ble_eq_true rfl), (Nat.le_of_ble_eq_true rfl)⟩ (fun H locs hpo hG hS hq9 => ?_)
            have hf29 := hpo
            refine lv_iload_n hx hb dX6_readOwner_63 rfl (lv_at hl 1 rfl) ?_
            refine lv_if_eq (tgt := 71) hx hb dX6_readOwner_64 (by decide) (fun _ => ?_) (fun c9 => absurd ((fi_eq rfl (by decide)).mpr (show v3.toInt = 0 by omega)) c9)
            refine lv_bipush (v := 13) hx hb dX6_readOwner_71 (by decide) ?_
            refine lv_iload_n hx hb dX6_readOwner_73 rfl (lv_at hl 0 rfl) ?_
            refine lv_iadd hx hb dX6_readOwner_74 ?_
            refine tk_add (by decide) rfl (by omega) (by omega) (fun v30 h_v30 => ?_)
            exact tk_iret (v := v30) hx hb hr rfl hlocks (show tk_f D H a0 6 9 (.int g9) from hf29) hG hS dX6_readOwner_75
          · have hc27 : ¬ (v26.toInt ≤ 1) := fun h9 => c9 ((fi_le rfl (by decide)).mpr h9)
            refine lv_aload_n hx hb dX6_readOwner_48 rfl (lv_at hl 1 rfl) ?_
            refine tk_Vv (As := []) (rest := []) (ci := 6) ⟨hx, hb, hml, hown, hts⟩ hK hG hZ hS (k_X6_fail l D cy ld t a0 g9 ht_a0 (by omega) (by omega)) hg_0 ⟨callB_of 0 hts (wl_in mw_507) rfl rfl rfl (htl _ mw_36) (htl _ mw_504) hd_yX6_fail ⟨(Nat.le_of_ble_eq_true rfl), (Nat.le_of_ble_eq_true rfl)⟩, htl _ mw_505, htl _ mw_506⟩ ht_a0 (by decide) tk_no rfl (tk_w.pick [0] rfl) rfl hl.1 rfl (Nat.le_of_ble_eq_true rfl) dX6_readOwner_49 ⟨(Nat.le_of_ble_eq_true rfl), (Nat.le_of_ble_eq_true rfl)⟩ (fun H locs hpo hG hS hq9 => ?_)
            have hf32 := hpo
            refine lv_iload_n hx hb dX6_readOwner_52 rfl (lv_at hl 2 rfl) ?_
            exact tk_iret (v := p1) hx hb hr rfl hlocks (show tk_f D H a0 6 9 (.int g9) from hf32) hG hS dX6_readOwner_53
      · have hc19 : ¬ (p1.toInt = 6) := fun h9 => c9 ((fi_eq rfl (by decide)).mpr h9)
        refine lv_iload_n hx hb dX6_readOwner_21 rfl (lv_at hl 2 rfl) ?_
        exact tk_iret (v := p1) hx hb hr rfl hlocks (show tk_f D H a0 6 9 (.int g9) from hg_0) hG hS dX6_readOwner_22
  refine lv_icmp_ne (tgt := 9) hx hb dX6_readOwner_2 (by decide) (fun c9 => ?_) (fun c9 => ?_)
  · have hc1 : ¬ (p1.toInt = 5) := fun h9 => c9 ((fi_eq rfl (by decide)).mpr h9)
    refine lv_iconst (v := 0) hx hb dX6_readOwner_9 (by decide) ?_
    have hk_0 : (0 : Int32).toInt = 0 := by decide
    exact hj4 0 (by omega) (by omega) _ (lv_sub hl [0, 1] rfl)
  · have hc1 : p1.toInt = 5 := (fi_eq rfl (by decide)).mp c9
    refine lv_iconst (v := 1) hx hb dX6_readOwner_5 (by decide) ?_
    refine lv_goto (tgt := 10) hx hb dX6_readOwner_6 (by decide) ?_
    have hk_1 : (1 : Int32).toInt = 1 := by decide
    exact hj4 1 (by omega) (by omega) _ (lv_sub hl [0, 1] rfl)
