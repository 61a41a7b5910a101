set_option maxHeartbeats 4000000 in
set_option maxRecDepth 100000 in
theorem k_X5_chooseFrom_6 (l : Launch) (D : va_G) (cy : Nat → ClassId) (ld : Nat → Nat) (t : tk_T) (a0 : Nat) (p2 : Int32) (p3 : Int32) (p4 : Int32) (ht_a0 : t a0 = (6, 0, 0)) : Met l yX5_chooseFrom (wl yX5_chooseFrom cX5_chooseFrom 7 none) ({ frames := 6, cells := 0, slots := 0, locals := 350 }) (tp D cy ld t [] [.ref a0, .int 6, .int p2, .int p3, .int p4] (fun H => True)) (tv D cy ld t [] (fun H => True) (tk_w t [(20, 0, 0), (6, 0, 0)])) 0 0 (tk_w t [(20, 0, 0), (6, 0, 0)]) := by
  refine tk_met (y := yX5_chooseFrom) (cc := cX5_chooseFrom) (maxL := 7) (ret := none) (av := [.ref a0, .int 6, .int p2, .int p3, .int p4]) _ _ (by decide) (Nat.le_of_ble_eq_true rfl) ?_
  intro p e s m args below meth c hx hb hr hml hts htl hown hlocks hK H locs hH hG hS hB hZ ls hl
  have hown : s.vm.findClass RX5 = some m.cls := hown
  have hl : lv_has ls 7 [(0, .ref a0), (1, .int 6), (2, .int p2), (3, .int p3), (4, .int p4)] := hl
  have hr_p2 := tk_rng p2
  have hr_p3 := tk_rng p3
  have hr_p4 := tk_rng p4
  refine lv_iload_n hx hb dX5_chooseFrom_0 rfl (lv_at hl 1 rfl) ?_
  refine lv_aload_n hx hb dX5_chooseFrom_1 rfl (lv_at hl 0 rfl) ?_
  refine tk_get (ci := 5) (C := RX5) (T := TX5) (N := 11) (sp := (8, 20, 3, 0)) hx hb htl inX5 hown hK hG ht_a0 (by decide) tk_no rfl 0 (by decide) (htl _ mw_155) (fun _ h9 => h9) rfl dX5_chooseFrom_2 (fun v9 hf1 hV9 => ?_)
  obtain ⟨rfl, ht_ld20⟩ := hV9
  have ht_ld20 : t (ld 20) = (3, 0, 0) := ht_ld20
  refine fx_top (v := .ref (ld 20)) rfl ?_
  refine tk_get (ci := 2) (C := RX2) (T := TX2) (N := 20) (sp := (0, 0, 8, 0)) hx hb htl inX2 hown hK hG ht_ld20 (by decide) tk_no rfl 0 (by decide) (htl _ mw_1419) (fun _ h9 => h9) rfl dX5_chooseFrom_5 (fun v9 hf2 hV9 => ?_)
  obtain ⟨v3, rfl, ha_v3, hb_v3⟩ := hV9
  refine lv_icmp_lt (tgt := 63) hx hb dX5_chooseFrom_8 (by decide) (fun c9 => ?_) (fun c9 => ?_)
  · have hc4 : 6 < v3.toInt := (fi_lt (by decide) rfl).mp c9
    refine lv_aload_n hx hb dX5_chooseFrom_63 rfl (lv_at hl 0 rfl) ?_
    refine tk_get (ci := 5) (C := RX5) (T := TX5) (N := 11) (sp := (8, 20, 3, 0)) hx hb htl inX5 hown hK hG ht_a0 (by decide) tk_no rfl 0 (by decide) (htl _ mw_155) (fun _ h9 => h9) rfl dX5_chooseFrom_64 (fun v9 hf5 hV9 => ?_)
    obtain ⟨rfl, ht_ld20⟩ := hV9
    have ht_ld20 : t (ld 20) = (3, 0, 0) := ht_ld20
    refine fx_top (v := .ref (ld 20)) rfl ?_
    refine tk_get (ci := 2) (C := RX2) (T := TX2) (N := 20) (sp := (1, 21, 8, 0)) hx hb htl inX2 hown hK hG ht_ld20 (by decide) tk_no rfl 2 (by decide) (htl _ mw_1420) (fun _ h9 => h9) rfl dX5_chooseFrom_67 (fun v9 hf6 hV9 => ?_)
    obtain ⟨b7, rfl, ht_b7⟩ := hV9
    have ht_b7 : t b7 = (21, 8, 0) := ht_b7
    refine lv_iload_n hx hb dX5_chooseFrom_70 rfl (lv_at hl 1 rfl) ?_
    refine tk_iald hx hb hK hG ht_b7 (by decide) (fun _ h => h) tk_no (I := 6) (by decide) (by decide) (by decide) dX5_chooseFrom_71 (fun v8 hE9 _ => ?_)
    have he_v8 : 0 ≤ v8.toInt ∧ v8.toInt ≤ 1 := hE9
    have hj486 : ∀ (H : Heap) (locs : List Loc), tk_G D cy ld t [] H → va_S (tk_w t [(20, 0, 0), (6, 0, 0)]) s.heap H locs → tk_f D H (ld 20) 2 0 (.int v3) → ∀ ls : Array Slot, lv_has ls 7 [(0, .ref a0), (1, .int 6), (2, .int p2), (3, .int p3), (4, .int p4)] → W p l e ({ frames := 6, cells := 0, slots := 0, locals := 350 }) s m args below meth c H locs 0 0 (MQ below (tv D cy ld t [] (fun H => True) (tk_w t [(20, 0, 0), (6, 0, 0)])) args s 0 0 (tk_w t [(20, 0, 0), (6, 0, 0)])) (F0 m 176 ls []) := by
      intro H locs hG hS hf2 ls hl
      refine lv_aload_n hx hb dX5_chooseFrom_176 rfl (lv_at hl 0 rfl) ?_
      refine tk_get (ci := 5) (C := RX5) (T := TX5) (N := 11) (sp := (6, 20, 8, 0)) hx hb htl inX5 hown hK hG ht_a0 (by decide) tk_no rfl 7 (by decide) (htl _ mw_153) (fun _ h9 => h9) rfl dX5_chooseFrom_177 (fun v9 hf487 hV9 => ?_)
      obtain ⟨b488, rfl, ht_b488⟩ := hV9
      have ht_b488 : t b488 = (20, 8, 0) := ht_b488
      refine lv_iload_n hx hb dX5_chooseFrom_180 rfl (lv_at hl 1 rfl) ?_
      refine lv_bipush (v := 100) hx hb dX5_chooseFrom_181 (by decide) ?_
      refine tk_iast hx hb hK hG hS ht_b488 (by decide) (fun _ => Iff.rfl) tk_no (I := 6) (by decide) (by decide) (by decide) trivial (tk_w.of ht_b488 (by decide) (List.mem_of_getElem? (i := 0) rfl) (Nat.le_refl _) (Nat.le_refl _)) dX5_chooseFrom_183 (fun H locs hG hS hq9 => ?_)
      have hf2 := hf2.kept (hq9 _ (tk_ne ht_ld20 ht_b488 (Or.inl (by decide))))
      refine lv_aload_n hx hb dX5_chooseFrom_184 rfl (lv_at hl 0 rfl) ?_
      refine lv_iload_n hx hb dX5_chooseFrom_185 rfl (lv_at hl 1 rfl) ?_
      refine lv_iconst (v := 1) hx hb dX5_chooseFrom_186 (by decide) ?_
      refine lv_iadd hx hb dX5_chooseFrom_187 ?_
      refine fx_ti (v := 7) (by decide) ?_
      refine lv_iload_n hx hb dX5_chooseFrom_188 rfl (lv_at hl 2 rfl) ?_
      refine lv_iload_n hx hb dX5_chooseFrom_189 rfl (lv_at hl 3 rfl) ?_
      refine lv_iload hx hb dX5_chooseFrom_190 (lv_at hl 4 rfl) ?_
      have hk_7 : (7 : Int32).toInt = 7 := by decide
      refine tk_Vv (As := [.int 7, .int p2, .int p3, .int p4]) (rest := []) (ci := 5) ⟨hx, hb, hml, hown, hts⟩ hK hG hZ hS (k_X5_chooseFrom_7 l D cy ld t a0 p2 p3 p4 ht_a0) trivial ⟨callB_of 4 hts (wl_in mw_1427) rfl rfl rfl (htl _ mw_40) (htl _ mw_1424) hd_yX5_chooseFrom ⟨(Nat.le_of_ble_eq_true rfl), (Nat.le_of_ble_eq_true rfl)⟩, htl _ mw_1425, htl _ mw_1426⟩ ht_a0 (by decide) tk_no rfl (tk_w.pick [0, 1] rfl) rfl hl.1 rfl (Nat.le_of_ble_eq_true rfl) dX5_chooseFrom_192 ⟨(Nat.le_of_ble_eq_true rfl), (Nat.le_of_ble_eq_true rfl)⟩ (fun H locs hpo hG hS hq9 => ?_)
      have hf2 := hf2.call hq9 (tk_w.no ht_ld20 (by decide))
      exact tk_vret hx hb hr hlocks trivial hG hS dX5_chooseFrom_195
    refine lv_if_ne (tgt := 176) hx hb dX5_chooseFrom_72 (by decide) (fun c9 => ?_) (fun c9 => ?_)
    · have hc9 : ¬ (v8.toInt = 0) := fun h9 => c9 ((fi_eq rfl (by decide)).mpr h9)
      exact hj486 _ _ hG hS hf2 _ (lv_sub hl [0, 1, 2, 3, 4] rfl)
    · have hc9 : v8.toInt = 0 := (fi_eq rfl (by decide)).mp c9
      refine lv_iconst (v := 0) hx hb dX5_chooseFrom_75 (by decide) ?_
      refine lv_istore (lv' := [(5, .int 0), (0, .ref a0), (1, .int 6), (2, .int p2), (3, .int p3), (4, .int p4)]) hx hb dX5_chooseFrom_76 hl (by decide) rfl (fun ls hl => ?_)
      have hl905 : ∀ (N : Nat) (v491 : Int32) (H : Heap) (locs : List Loc), v491.toInt ≤ 8 → 0 ≤ v491.toInt → (-1) * v491.toInt + 8 < (N : Int) → tk_G D cy ld t [] H → va_S (tk_w t [(20, 0, 0), (6, 0, 0)]) s.heap H locs → tk_f D H (ld 20) 2 0 (.int v3) → ∀ ls : Array Slot, lv_has ls 7 [(5, .int v491), (0, .ref a0), (1, .int 6), (2, .int p2), (3, .int p3), (4, .int p4)] → W p l e ({ frames := 6, cells := 0, slots := 0, locals := 350 }) s m args below meth c H locs 0 0 (MQ below (tv D cy ld t [] (fun H => True) (tk_w t [(20, 0, 0), (6, 0, 0)])) args s 0 0 (tk_w t [(20, 0, 0), (6, 0, 0)])) (F0 m 78 ls []) := by
        intro N
        induction N with
        | zero => intro v491 H locs hq0_l905 hq1_l905 hm_l905 hG hS hf2 ls hl; exfalso; omega
        | succ N ih =>
          intro v491 H locs hq0_l905 hq1_l905 hm_l905 hG hS hf2 ls hl
          refine lv_iload hx hb dX5_chooseFrom_78 (lv_at hl 0 rfl) ?_
          refine lv_aload_n hx hb dX5_chooseFrom_80 rfl (lv_at hl 1 rfl) ?_
          refine tk_get (ci := 5) (C := RX5) (T := TX5) (N := 11) (sp := (8, 20, 3, 0)) hx hb htl inX5 hown hK hG ht_a0 (by decide) tk_no rfl 0 (by decide) (htl _ mw_155) (fun _ h9 => h9) rfl dX5_chooseFrom_81 (fun v9 hf906 hV9 => ?_)
          obtain ⟨rfl, ht_ld20⟩ := hV9
          have ht_ld20 : t (ld 20) = (3, 0, 0) := ht_ld20
          refine fx_top (v := .ref (ld 20)) rfl ?_
          refine tk_getk (ci := 2) (C := RX2) (T := TX2) (N := 20) (sp := (0, 0, 8, 0)) hx hb htl inX2 hown hK hG ht_ld20 (by decide) tk_no rfl 0 (by decide) (htl _ mw_1419) (fun _ h9 => h9) rfl hf2 dX5_chooseFrom_84 ?_
          refine lv_icmp_ge (tgt := 176) hx hb dX5_chooseFrom_87 (by decide) (fun c9 => ?_) (fun c9 => ?_)
          · have hc907 : v3.toInt ≤ v491.toInt := (fi_le rfl rfl).mp c9
            exact hj486 _ _ hG hS hf2 _ (lv_sub hl [1, 2, 3, 4, 5] rfl)
          · have hc907 : ¬ (v3.toInt ≤ v491.toInt) := fun h9 => c9 ((fi_le rfl rfl).mpr h9)
            refine lv_aload_n hx hb dX5_chooseFrom_90 rfl (lv_at hl 1 rfl) ?_
            refine tk_get (ci := 5) (C := RX5) (T := TX5) (N := 11) (sp := (8, 20, 3, 0)) hx hb htl inX5 hown hK hG ht_a0 (by decide) tk_no rfl 0 (by decide) (htl _ mw_155) (fun _ h9 => h9) rfl dX5_chooseFrom_91 (fun v9 hf908 hV9 => ?_)
            obtain ⟨rfl, ht_ld20⟩ := hV9
            have ht_ld20 : t (ld 20) = (3, 0, 0) := ht_ld20
            refine fx_top (v := .ref (ld 20)) rfl ?_
            refine tk_get (ci := 2) (C := RX2) (T := TX2) (N := 20) (sp := (1, 21, 8, 0)) hx hb htl inX2 hown hK hG ht_ld20 (by decide) tk_no rfl 2 (by decide) (htl _ mw_1420) (fun _ h9 => h9) rfl dX5_chooseFrom_94 (fun v9 hf909 hV9 => ?_)
            obtain ⟨b910, rfl, ht_b910⟩ := hV9
            have ht_b910 : t b910 = (21, 8, 0) := ht_b910
            refine lv_iload hx hb dX5_chooseFrom_97 (lv_at hl 0 rfl) ?_
            refine tk_iald hx hb hK hG ht_b910 (by decide) (fun _ h => h) tk_no rfl (by omega) (by omega) dX5_chooseFrom_99 (fun v911 hE9 _ => ?_)
            have he_v911 : 0 ≤ v911.toInt ∧ v911.toInt ≤ 1 := hE9
            refine lv_iconst (v := 1) hx hb dX5_chooseFrom_100 (by decide) ?_
            have hj939 : ∀ (H : Heap) (locs : List Loc), tk_G D cy ld t [] H → va_S (tk_w t [(20, 0, 0), (6, 0, 0)]) s.heap H locs → tk_f D H (ld 20) 2 0 (.int v3) → ∀ ls : Array Slot, lv_has ls 7 [(5, .int v491), (0, .ref a0), (1, .int 6), (2, .int p2), (3, .int p3), (4, .int p4)] → W p l e ({ frames := 6, cells := 0, slots := 0, locals := 350 }) s m args below meth c H locs 0 0 (MQ below (tv D cy ld t [] (fun H => True) (tk_w t [(20, 0, 0), (6, 0, 0)])) args s 0 0 (tk_w t [(20, 0, 0), (6, 0, 0)])) (F0 m 170 ls []) := by
              intro H locs hG hS hf2 ls hl
              obtain ⟨v940, h_v940, e_v940⟩ := tk_inc v491 1 (by decide) (by omega) (by omega)
              refine lv_iinc (v := v940) (lv' := [(5, .int v940), (0, .ref a0), (1, .int 6), (2, .int p2), (3, .int p3), (4, .int p4)]) hx hb dX5_chooseFrom_170 hl (k := 0) rfl e_v940 (by decide) rfl (fun ls hl => ?_)
              refine lv_goto (tgt := 78) hx hb dX5_chooseFrom_173 (by decide) ?_
              exact ih v940 _ _ (by omega) (by omega) (by omega) hG hS hf2 _ (lv_sub hl [0, 1, 2, 3, 4, 5] rfl)
            refine lv_icmp_ne (tgt := 170) hx hb dX5_chooseFrom_101 (by decide) (fun c9 => ?_) (fun c9 => ?_)
            · have hc912 : ¬ (v911.toInt = 1) := fun h9 => c9 ((fi_eq rfl (by decide)).mpr h9)
              exact hj939 _ _ hG hS hf2 _ (lv_sub hl [0, 1, 2, 3, 4, 5] rfl)
            · have hc912 : v911.toInt = 1 := (fi_eq rfl (by decide)).mp c9
              refine lv_iload_n hx hb dX5_chooseFrom_104 rfl (lv_at hl 3 rfl) ?_
              refine lv_iload hx hb dX5_chooseFrom_105 (lv_at hl 0 rfl) ?_
              refine lv_ishr hx hb dX5_chooseFrom_107 ?_
              refine tk_any (fun v941 => ?_)
              refine lv_iconst (v := 1) hx hb dX5_chooseFrom_108 (by decide) ?_
              refine lv_iand hx hb dX5_chooseFrom_109 ?_
              refine tk_say (P := fun z => 0 ≤ z.toInt ∧ z.toInt ≤ 1) (tk_and v941 1 (by decide) (by decide)) (fun v942 h_v942 => ?_)
              refine lv_if_ne (tgt := 170) hx hb dX5_chooseFrom_110 (by decide) (fun c9 => ?_) (fun c9 => ?_)
              · have hc943 : ¬ (v942.toInt = 0) := fun h9 => c9 ((fi_eq rfl (by decide)).mpr h9)
                exact hj939 _ _ hG hS hf2 _ (lv_sub hl [0, 1, 2, 3, 4, 5] rfl)
              · have hc943 : v942.toInt = 0 := (fi_eq rfl (by decide)).mp c9
                refine lv_aload_n hx hb dX5_chooseFrom_113 rfl (lv_at hl 1 rfl) ?_
                refine tk_get (ci := 5) (C := RX5) (T := TX5) (N := 11) (sp := (6, 30, 8, 0)) hx hb htl inX5 hown hK hG ht_a0 (by decide) tk_no rfl 6 (by decide) (htl _ mw_152) (fun _ h9 => h9) rfl dX5_chooseFrom_114 (fun v9 hf944 hV9 => ?_)
                obtain ⟨b945, rfl, ht_b945⟩ := hV9
                have ht_b945 : t b945 = (30, 8, 0) := ht_b945
                refine lv_iload_n hx hb dX5_chooseFrom_117 rfl (lv_at hl 2 rfl) ?_
                refine tk_aald hx hb hK hG 6 rfl rfl ht_b945 (by decide) (fun _ h => h) tk_no (I := 6) (by decide) (by decide) (by decide) dX5_chooseFrom_118 (fun o946 ht_o946 => ?_)
                obtain ⟨b947, rfl, ht_b947⟩ := ht_o946
                have ht_b947 : t b947 = (20, 8, 0) := ht_b947
                refine fx_top (v := .ref b947) rfl ?_
                refine lv_iload hx hb dX5_chooseFrom_119 (lv_at hl 0 rfl) ?_
                refine tk_iald hx hb hK hG ht_b947 (by decide) (fun _ h => h) tk_no rfl (by omega) (by omega) dX5_chooseFrom_121 (fun v948 _ _ => ?_)
                have hr_v948 := tk_rng v948
                refine lv_istore (lv' := [(6, .int v948), (5, .int v491), (0, .ref a0), (1, .int 6), (2, .int p2), (3, .int p3), (4, .int p4)]) hx hb dX5_chooseFrom_122 hl (by decide) rfl (fun ls hl => ?_)
                refine lv_aload_n hx hb dX5_chooseFrom_124 rfl (lv_at hl 2 rfl) ?_
                refine tk_get (ci := 5) (C := RX5) (T := TX5) (N := 11) (sp := (6, 20, 8, 0)) hx hb htl inX5 hown hK hG ht_a0 (by decide) tk_no rfl 7 (by decide) (htl _ mw_153) (fun _ h9 => h9) rfl dX5_chooseFrom_125 (fun v9 hf949 hV9 => ?_)
                obtain ⟨b950, rfl, ht_b950⟩ := hV9
                have ht_b950 : t b950 = (20, 8, 0) := ht_b950
                refine lv_iload_n hx hb dX5_chooseFrom_128 rfl (lv_at hl 3 rfl) ?_
                refine lv_iload hx hb dX5_chooseFrom_129 (lv_at hl 1 rfl) ?_
                refine tk_iast hx hb hK hG hS ht_b950 (by decide) (fun _ => Iff.rfl) tk_no (I := 6) (by decide) (by decide) (by decide) trivial (tk_w.of ht_b950 (by decide) (List.mem_of_getElem? (i := 0) rfl) (Nat.le_refl _) (Nat.le_refl _)) dX5_chooseFrom_131 (fun H locs hG hS hq9 => ?_)
                have hf2 := hf2.kept (hq9 _ (tk_ne ht_ld20 ht_b950 (Or.inl (by decide))))
                refine lv_aload_n hx hb dX5_chooseFrom_132 rfl (lv_at hl 2 rfl) ?_
                refine lv_iload_n hx hb dX5_chooseFrom_133 rfl (lv_at hl 3 rfl) ?_
                refine lv_iconst (v := 1) hx hb dX5_chooseFrom_134 (by decide) ?_
                refine lv_iadd hx hb dX5_chooseFrom_135 ?_
                refine fx_ti (v := 7) (by decide) ?_
                refine lv_iload_n hx hb dX5_chooseFrom_136 rfl (lv_at hl 4 rfl) ?_
                refine lv_iconst (v := 1) hx hb dX5_chooseFrom_137 (by decide) ?_
                refine lv_iload hx hb dX5_chooseFrom_138 (lv_at hl 1 rfl) ?_
                refine lv_ishl hx hb dX5_chooseFrom_140 ?_
                refine tk_say (P := fun z => 1 ≤ z.toInt ∧ z.toInt ≤ 1024) (tk_shl1 v491 (by omega) (by omega)) (fun v952 h_v952 => ?_)
                refine lv_ior hx hb dX5_chooseFrom_141 ?_
                refine tk_any (fun v953 => ?_)
                refine lv_iload_n hx hb dX5_chooseFrom_142 rfl (lv_at hl 5 rfl) ?_
                refine lv_iload hx hb dX5_chooseFrom_143 (lv_at hl 0 rfl) ?_
                have hj957 : ∀ (v956 : Int32), 0 ≤ v956.toInt → v956.toInt ≤ 1 → ∀ ls : Array Slot, lv_has ls 7 [(6, .int v948), (5, .int v491), (0, .ref a0), (1, .int 6), (2, .int p2), (3, .int p3), (4, .int p4)] → W p l e ({ frames := 6, cells := 0, slots := 0, locals := 350 }) s m args below meth c H locs 0 0 (MQ below (tv D cy ld t [] (fun H => True) (tk_w t [(20, 0, 0), (6, 0, 0)])) args s 0 0 (tk_w t [(20, 0, 0), (6, 0, 0)])) (F0 m 153 ls [.int v956, .int p3, .int v953, .int 7, .ref a0]) := by
                  intro v956 hq0_j957 hq1_j957 ls hl
                  refine lv_iadd hx hb dX5_chooseFrom_153 ?_
                  obtain ⟨v958, hm_v958⟩ : ∃ z : Int32, p3 + v956 = z := ⟨_, rfl⟩
                  refine fx_ti hm_v958 ?_
                  refine lv_iload hx hb dX5_chooseFrom_154 (lv_at hl 6 rfl) ?_
                  refine lv_iload hx hb dX5_chooseFrom_156 (lv_at hl 0 rfl) ?_
                  have hj962 : ∀ (v961 : Int32), 0 ≤ v961.toInt → v961.toInt ≤ 1 → ∀ ls : Array Slot, lv_has ls 7 [(5, .int v491), (0, .ref a0), (1, .int 6), (2, .int p2), (3, .int p3), (4, .int p4)] → W p l e ({ frames := 6, cells := 0, slots := 0, locals := 350 }) s m args below meth c H locs 0 0 (MQ below (tv D cy ld t [] (fun H => True) (tk_w t [(20, 0, 0), (6, 0, 0)])) args s 0 0 (tk_w t [(20, 0, 0), (6, 0, 0)])) (F0 m 166 ls [.int v961, .int p4, .int v958, .int v953, .int 7, .ref a0]) := by
                    intro v961 hq0_j962 hq1_j962 ls hl
                    refine lv_iadd hx hb dX5_chooseFrom_166 ?_
                    obtain ⟨v963, hm_v963⟩ : ∃ z : Int32, p4 + v961 = z := ⟨_, rfl⟩
                    refine fx_ti hm_v963 ?_
                    have hk_7 : (7 : Int32).toInt = 7 := by decide
                    refine tk_Vv (As := [.int 7, .int v953, .int v958, .int v963]) (rest := []) (ci := 5) ⟨hx, hb, hml, hown, hts⟩ hK hG hZ hS (k_X5_chooseFrom_7 l D cy ld t a0 v953 v958 v963 ht_a0) trivial ⟨callB_of 4 hts (wl_in mw_1427) rfl rfl rfl (htl _ mw_40) (htl _ mw_1424) hd_yX5_chooseFrom ⟨(Nat.le_of_ble_eq_true rfl), (Nat.le_of_ble_eq_true rfl)⟩, htl _ mw_1425, htl _ mw_1426⟩ ht_a0 (by decide) tk_no rfl (tk_w.pick [0, 1] rfl) rfl hl.1 rfl (Nat.le_of_ble_eq_true rfl) dX5_chooseFrom_167 ⟨(Nat.le_of_ble_eq_true rfl), (Nat.le_of_ble_eq_true rfl)⟩ (fun H locs hpo hG hS hq9 => ?_)
                    have hf2 := hf2.call hq9 (tk_w.no ht_ld20 (by decide))
                    exact hj939 _ _ hG hS hf2 _ (lv_sub hl [0, 1, 2, 3, 4, 5] rfl)
                  refine lv_if_ge (tgt := 165) hx hb dX5_chooseFrom_158 (by decide) (fun c9 => ?_) (fun c9 => ?_)
                  · have hc959 : 0 ≤ v948.toInt := (fi_le (by decide) rfl).mp c9
                    refine lv_iconst (v := 0) hx hb dX5_chooseFrom_165 (by decide) ?_
                    have hk_0 : (0 : Int32).toInt = 0 := by decide
                    exact hj962 0 (by omega) (by omega) _ (lv_sub hl [1, 2, 3, 4, 5, 6] rfl)
                  · have hc959 : ¬ (0 ≤ v948.toInt) := fun h9 => c9 ((fi_le (by decide) rfl).mpr h9)
                    refine lv_iconst (v := 1) hx hb dX5_chooseFrom_161 (by decide) ?_
                    refine lv_goto (tgt := 166) hx hb dX5_chooseFrom_162 (by decide) ?_
                    have hk_1 : (1 : Int32).toInt = 1 := by decide
                    exact hj962 1 (by omega) (by omega) _ (lv_sub hl [1, 2, 3, 4, 5, 6] rfl)
                refine lv_if_le (tgt := 152) hx hb dX5_chooseFrom_145 (by decide) (fun c9 => ?_) (fun c9 => ?_)
                · have hc954 : v948.toInt ≤ 0 := (fi_le rfl (by decide)).mp c9
                  refine lv_iconst (v := 0) hx hb dX5_chooseFrom_152 (by decide) ?_
                  have hk_0 : (0 : Int32).toInt = 0 := by decide
                  exact hj957 0 (by omega) (by omega) _ (lv_sub hl [0, 1, 2, 3, 4, 5, 6] rfl)
                · have hc954 : ¬ (v948.toInt ≤ 0) := fun h9 => c9 ((fi_le rfl (by decide)).mpr h9)
                  refine lv_iconst (v := 1) hx hb dX5_chooseFrom_148 (by decide) ?_
                  refine lv_goto (tgt := 153) hx hb dX5_chooseFrom_149 (by decide) ?_
                  have hk_1 : (1 : Int32).toInt = 1 := by decide
                  exact hj957 1 (by omega) (by omega) _ (lv_sub hl [0, 1, 2, 3, 4, 5, 6] rfl)
      have hk_0 : (0 : Int32).toInt = 0 := by decide
      exact hl905 9 0 _ _ (by omega) (by omega) (by omega) hG hS hf2 _ (lv_sub hl [0, 1, 2, 3, 4, 5] rfl)
  · have hc4 : ¬ (6 < v3.toInt) := fun h9 => c9 ((fi_lt (by decide) rfl).mpr h9)
    refine lv_iload_n hx hb dX5_chooseFrom_11 rfl (lv_at hl 3 rfl) ?_
    refine lv_aload_n hx hb dX5_chooseFrom_12 rfl (lv_at hl 0 rfl) ?_
    refine tk_get (ci := 5) (C := RX5) (T := TX5) (N := 11) (sp := (0, (-2147483648), 2147483647, 0)) hx hb htl inX5 hown hK hG ht_a0 (by decide) tk_no rfl 9 (by decide) (htl _ mw_1421) (fun _ h9 => h9) rfl dX5_chooseFrom_13 (fun v9 hf965 hV9 => ?_)
    obtain ⟨v966, rfl, ha_v966, hb_v966⟩ := hV9
    have hj994 : ∀ (H : Heap) (locs : List Loc), tk_G D cy ld t [] H → va_S (tk_w t [(20, 0, 0), (6, 0, 0)]) s.heap H locs → tk_f D H (ld 20) 2 0 (.int v3) → ∀ ls : Array Slot, lv_has ls 7 [] → W p l e ({ frames := 6, cells := 0, slots := 0, locals := 350 }) s m args below meth c H locs 0 0 (MQ below (tv D cy ld t [] (fun H => True) (tk_w t [(20, 0, 0), (6, 0, 0)])) args s 0 0 (tk_w t [(20, 0, 0), (6, 0, 0)])) (F0 m 62 ls []) := by
      intro H locs hG hS hf2 ls hl
      exact tk_vret hx hb hr hlocks trivial hG hS dX5_chooseFrom_62
    refine lv_icmp_gt (tgt := 36) hx hb dX5_chooseFrom_16 (by decide) (fun c9 => ?_) (fun c9 => ?_)
    · have hc967 : v966.toInt < p3.toInt := (fi_lt rfl rfl).mp c9
      refine lv_aload_n hx hb dX5_chooseFrom_36 rfl (lv_at hl 0 rfl) ?_
      refine lv_iload_n hx hb dX5_chooseFrom_37 rfl (lv_at hl 3 rfl) ?_
      refine tk_put (ci := 5) (v := .int p3) (ty := .int) (C := RX5) (T := TX5) (N := 11) (sp := (0, (-2147483648), 2147483647, 0)) hx hb htl inX5 tyX5 tyX5_ok nmX5 hown hK hG hS ht_a0 (by decide) tk_no rfl 9 (by decide) (htl _ mw_1421) (fun _ h9 => h9) rfl (tyX5_ok 9 (by decide)) rfl rfl rfl (tk_Vi (tk_rng _).1 (tk_rng _).2) (fun _ h => h) (tk_w.of ht_a0 (by decide) (List.mem_of_getElem? (i := 1) rfl) (Nat.le_refl _) (Nat.le_refl _)) dX5_chooseFrom_38 (fun H locs hG hS hf995 hq9 hj9 => ?_)
      have hf2 := hf2.kept (hq9 _ (tk_ne ht_ld20 ht_a0 (Or.inl (by decide))))
      refine lv_aload_n hx hb dX5_chooseFrom_41 rfl (lv_at hl 0 rfl) ?_
      refine lv_iload hx hb dX5_chooseFrom_42 (lv_at hl 4 rfl) ?_
      refine tk_put (ci := 5) (v := .int p4) (ty := .int) (C := RX5) (T := TX5) (N := 11) (sp := (0, (-2147483648), 2147483647, 0)) hx hb htl inX5 tyX5 tyX5_ok nmX5 hown hK hG hS ht_a0 (by decide) tk_no rfl 10 (by decide) (htl _ mw_1422) (fun _ h9 => h9) rfl (tyX5_ok 10 (by decide)) rfl rfl rfl (tk_Vi (tk_rng _).1 (tk_rng _).2) (fun _ h => h) (tk_w.of ht_a0 (by decide) (List.mem_of_getElem? (i := 1) rfl) (Nat.le_refl _) (Nat.le_refl _)) dX5_chooseFrom_44 (fun H locs hG hS hf997 hq9 hj9 => ?_)
      have hf2 := hf2.kept (hq9 _ (tk_ne ht_ld20 ht_a0 (Or.inl (by decide))))
      refine lv_aload_n hx hb dX5_chooseFrom_47 rfl (lv_at hl 0 rfl) ?_
      refine tk_get (ci := 5) (C := RX5) (T := TX5) (N := 11) (sp := (6, 20, 8, 0)) hx hb htl inX5 hown hK hG ht_a0 (by decide) tk_no rfl 7 (by decide) (htl _ mw_153) (fun _ h9 => h9) rfl dX5_chooseFrom_48 (fun v9 hf999 hV9 => ?_)
      obtain ⟨b1000, rfl, ht_b1000⟩ := hV9
      have ht_b1000 : t b1000 = (20, 8, 0) := ht_b1000
      refine lv_iconst (v := 0) hx hb dX5_chooseFrom_51 (by decide) ?_
      refine lv_aload_n hx hb dX5_chooseFrom_52 rfl (lv_at hl 0 rfl) ?_
      refine tk_get (ci := 5) (C := RX5) (T := TX5) (N := 11) (sp := (6, 20, 8, 0)) hx hb htl inX5 hown hK hG ht_a0 (by decide) tk_no rfl 8 (by decide) (htl _ mw_154) (fun _ h9 => h9) rfl dX5_chooseFrom_53 (fun v9 hf1001 hV9 => ?_)
      obtain ⟨b1002, rfl, ht_b1002⟩ := hV9
      have ht_b1002 : t b1002 = (20, 8, 0) := ht_b1002
      refine lv_iconst (v := 0) hx hb dX5_chooseFrom_56 (by decide) ?_
      refine lv_bipush (v := 8) hx hb dX5_chooseFrom_57 (by decide) ?_
      refine tk_copy (SP := 0) (DP := 0) (NC := 8) hx hb (by rw [hml]; exact hl.1.symm) hown (htl _ mw_1428) (htl _ mw_655) (htl _ mw_656) (htl _ mw_657) hK hG hS ht_b1000 ht_b1002 (by decide) (by decide) (fun _ h => h) (fun _ => Iff.rfl) tk_no tk_no (by decide) (by decide) (by decide) (by decide) (by decide) (by decide) (by decide) (by decide) (fun _ _ _ _ _ => trivial) (tk_w.of ht_b1002 (by decide) (List.mem_of_getElem? (i := 0) rfl) (Nat.le_refl _) (Nat.le_refl _)) (Nat.le_of_ble_eq_true rfl) (Nat.le_of_ble_eq_true rfl) dX5_chooseFrom_59 (fun H locs hG hS hq9 => ?_)
      have hf2 := hf2.kept (hq9 _ (tk_ne ht_ld20 ht_b1002 (Or.inl (by decide))))
      exact hj994 _ _ hG hS hf2 _ (lv_sub hl [] rfl)
    · have hc967 : ¬ (v966.toInt < p3.toInt) := fun h9 => c9 ((fi_lt rfl rfl).mpr h9)
      refine lv_iload_n hx hb dX5_chooseFrom_19 rfl (lv_at hl 3 rfl) ?_
      refine lv_aload_n hx hb dX5_chooseFrom_20 rfl (lv_at hl 0 rfl) ?_
      refine tk_get (ci := 5) (C := RX5) (T := TX5) (N := 11) (sp := (0, (-2147483648), 2147483647, 0)) hx hb htl inX5 hown hK hG ht_a0 (by decide) tk_no rfl 9 (by decide) (htl _ mw_1421) (fun _ h9 => h9) rfl dX5_chooseFrom_21 (fun v9 hf1004 hV9 => ?_)
      obtain ⟨v1005, rfl, ha_v1005, hb_v1005⟩ := hV9
      refine lv_icmp_ne (tgt := 62) hx hb dX5_chooseFrom_24 (by decide) (fun c9 => ?_) (fun c9 => ?_)
      · have hc1006 : ¬ (p3.toInt = v1005.toInt) := fun h9 => c9 ((fi_eq rfl rfl).mpr h9)
        exact hj994 _ _ hG hS hf2 _ (lv_sub hl [] rfl)
      · have hc1006 : p3.toInt = v1005.toInt := (fi_eq rfl rfl).mp c9
        refine lv_iload hx hb dX5_chooseFrom_27 (lv_at hl 4 rfl) ?_
        refine lv_aload_n hx hb dX5_chooseFrom_29 rfl (lv_at hl 0 rfl) ?_
        refine tk_get (ci := 5) (C := RX5) (T := TX5) (N := 11) (sp := (0, (-2147483648), 2147483647, 0)) hx hb htl inX5 hown hK hG ht_a0 (by decide) tk_no rfl 10 (by decide) (htl _ mw_1422) (fun _ h9 => h9) rfl dX5_chooseFrom_30 (fun v9 hf1007 hV9 => ?_)
        obtain ⟨v1008, rfl, ha_v1008, hb_v1008⟩ := hV9
        refine lv_icmp_ge (tgt := 62) hx hb dX5_chooseFrom_33 (by decide) (fun c9 => ?_) (fun c9 => ?_)
        · have hc1009 : v1008.toInt ≤ p4.toInt := (fi_le rfl rfl).mp c9
          exact hj994 _ _ hG hS hf2 _ (lv_sub hl [] rfl)
        · have hc1009 : ¬ (v1008.toInt ≤ p4.toInt) := fun h9 => c9 ((fi_le rfl rfl).mpr h9)
          refine lv_aload_n hx hb dX5_chooseFrom_36 rfl (lv_at hl 0 rfl) ?_
          refine lv_iload_n hx hb dX5_chooseFrom_37 rfl (lv_at hl 3 rfl) ?_
          refine tk_put (ci := 5) (v := .int p3) (ty := .int) (C := RX5) (T := TX5) (N := 11) (sp := (0, (-2147483648), 2147483647, 0)) hx hb htl inX5 tyX5 tyX5_ok nmX5 hown hK hG hS ht_a0 (by decide) tk_no rfl 9 (by decide) (htl _ mw_1421) (fun _ h9 => h9) rfl (tyX5_ok 9 (by decide)) rfl rfl rfl (tk_Vi (tk_rng _).1 (tk_rng _).2) (fun _ h => h) (tk_w.of ht_a0 (by decide) (List.mem_of_getElem? (i := 1) rfl) (Nat.le_refl _) (Nat.le_refl _)) dX5_chooseFrom_38 (fun H locs hG hS hf1010 hq9 hj9 => ?_)
          have hf2 := hf2.kept (hq9 _ (tk_ne ht_ld20 ht_a0 (Or.inl (by decide))))
          refine lv_aload_n hx hb dX5_chooseFrom_41 rfl (lv_at hl 0 rfl) ?_
          refine lv_iload hx hb dX5_chooseFrom_42 (lv_at hl 4 rfl) ?_
          refine tk_put (ci := 5) (v := .int p4) (ty := .int) (C := RX5) (T := TX5) (N := 11) (sp := (0, (-2147483648), 2147483647, 0)) hx hb htl inX5 tyX5 tyX5_ok nmX5 hown hK hG hS ht_a0 (by decide) tk_no rfl 10 (by decide) (htl _ mw_1422) (fun _ h9 => h9) rfl (tyX5_ok 10 (by decide)) rfl rfl rfl (tk_Vi (tk_rng _).1 (tk_rng _).2) (fun _ h => h) (tk_w.of ht_a0 (by decide) (List.mem_of_getElem? (i := 1) rfl) (Nat.le_refl _) (Nat.le_refl _)) dX5_chooseFrom_44 (fun H locs hG hS hf1012 hq9 hj9 => ?_)
          have hf2 := hf2.kept (hq9 _ (tk_ne ht_ld20 ht_a0 (Or.inl (by decide))))
          refine lv_aload_n hx hb dX5_chooseFrom_47 rfl (lv_at hl 0 rfl) ?_
          refine tk_get (ci := 5) (C := RX5) (T := TX5) (N := 11) (sp := (6, 20, 8, 0)) hx hb htl inX5 hown hK hG ht_a0 (by decide) tk_no rfl 7 (by decide) (htl _ mw_153) (fun _ h9 => h9) rfl dX5_chooseFrom_48 (fun v9 hf1014 hV9 => ?_)
          obtain ⟨b1015, rfl, ht_b1015⟩ := hV9
          have ht_b1015 : t b1015 = (20, 8, 0) := ht_b1015
          refine lv_iconst (v := 0) hx hb dX5_chooseFrom_51 (by decide) ?_
          refine lv_aload_n hx hb dX5_chooseFrom_52 rfl (lv_at hl 0 rfl) ?_
          refine tk_get (ci := 5) (C := RX5) (T := TX5) (N := 11) (sp := (6, 20, 8, 0)) hx hb htl inX5 hown hK hG ht_a0 (by decide) tk_no rfl 8 (by decide) (htl _ mw_154) (fun _ h9 => h9) rfl dX5_chooseFrom_53 (fun v9 hf1016 hV9 => ?_)
          obtain ⟨b1017, rfl, ht_b1017⟩ := hV9
          have ht_b1017 : t b1017 = (20, 8, 0) := ht_b1017
          refine lv_iconst (v := 0) hx hb dX5_chooseFrom_56 (by decide) ?_
          refine lv_bipush (v := 8) hx hb dX5_chooseFrom_57 (by decide) ?_
          refine tk_copy (SP := 0) (DP := 0) (NC := 8) hx hb (by rw [hml]; exact hl.1.symm) hown (htl _ mw_1428) (htl _ mw_655) (htl _ mw_656) (htl _ mw_657) hK hG hS ht_b1015 ht_b1017 (by decide) (by decide) (fun _ h => h) (fun _ => Iff.rfl) tk_no tk_no (by decide) (by decide) (by decide) (by decide) (by decide) (by decide) (by decide) (by decide) (fun _ _ _ _ _ => trivial) (tk_w.of ht_b1017 (by decide) (List.mem_of_getElem? (i := 0) rfl) (Nat.le_refl _) (Nat.le_refl _)) (Nat.le_of_ble_eq_true rfl) (Nat.le_of_ble_eq_true rfl) dX5_chooseFrom_59 (fun H locs hG hS hq9 => ?_)
          have hf2 := hf2.kept (hq9 _ (tk_ne ht_ld20 ht_b1017 (Or.inl (by decide))))
          exact hj994 _ _ hG hS hf2 _ (lv_sub hl [] rfl)
set_option maxHeartbeats 4000000 in
set_option maxRecDepth 100000 in
theorem k_X5_chooseFrom_5 (l : Launch) (D : va_G) (cy : Nat → ClassId) (ld : Nat → Nat) (t : tk_T) (a0 : Nat) (p2 : Int32) (p3 : Int32) (p4 : Int32) (ht_a0 : t a0 = (6, 0, 0)) : Met l yX5_chooseFrom (wl yX5_chooseFrom cX5_chooseFrom 7 none) ({ frames := 7, cells := 0, slots := 0, locals := 420 }) (tp D cy ld t [] [.ref a0, .int 5, .int p2, .int p3, .int p4] (fun H => True)) (tv D cy ld t [] (fun H => True) (tk_w t [(20, 0, 0), (6, 0, 0)])) 0 0 (tk_w t [(20, 0, 0), (6, 0, 0)]) := by
  refine tk_met (y := yX5_chooseFrom) (cc := cX5_chooseFrom) (maxL := 7) (ret := none) (av := [.ref a0, .int 5, .int p2, .int p3, .int p4]) _ _ (by decide) (Nat.le_of_ble_eq_true rfl) ?_
  intro p e s m args below meth c hx hb hr hml hts htl hown hlocks hK H locs hH hG hS hB hZ ls hl
  have hown : s.vm.findClass RX5 = some m.cls := hown
  have hl : lv_has ls 7 [(0, .ref a0), (1, .int 5), (2, .int p2), (3, .int p3), (4, .int p4)] := hl
  have hr_p2 := tk_rng p2
  have hr_p3 := tk_rng p3
  have hr_p4 := tk_rng p4
  refine lv_iload_n hx hb dX5_chooseFrom_0 rfl (lv_at hl 1 rfl) ?_
  refine lv_aload_n hx hb dX5_chooseFrom_1 rfl (lv_at hl 0 rfl) ?_
  refine tk_get (ci := 5) (C := RX5) (T := TX5) (N := 11) (sp := (8, 20, 3, 0)) hx hb htl inX5 hown hK hG ht_a0 (by decide) tk_no rfl 0 (by decide) (htl _ mw_155) (fun _ h9 => h9) rfl dX5_chooseFrom_2 (fun v9 hf1 hV9 => ?_)
  obtain ⟨rfl, ht_ld20⟩ := hV9
  have ht_ld20 : t (ld 20) = (3, 0, 0) := ht_ld20
  refine fx_top (v := .ref (ld 20)) rfl ?_
  refine tk_get (ci := 2) (C := RX2) (T := TX2) (N := 20) (sp := (0, 0, 8, 0)) hx hb htl inX2 hown hK hG ht_ld20 (by decide) tk_no rfl 0 (by decide) (htl _ mw_1419) (fun _ h9 => h9) rfl dX5_chooseFrom_5 (fun v9 hf2 hV9 => ?_)
  obtain ⟨v3, rfl, ha_v3, hb_v3⟩ := hV9
  refine lv_icmp_lt (tgt := 63) hx hb dX5_chooseFrom_8 (by decide) (fun c9 => ?_) (fun c9 => ?_)
  · have hc4 : 5 < v3.toInt := (fi_lt (by decide) rfl).mp c9
    refine lv_aload_n hx hb dX5_chooseFrom_63 rfl (lv_at hl 0 rfl) ?_
    refine tk_get (ci := 5) (C := RX5) (T := TX5) (N := 11) (sp := (8, 20, 3, 0)) hx hb htl inX5 hown hK hG ht_a0 (by decide) tk_no rfl 0 (by decide) (htl _ mw_155) (fun _ h9 => h9) rfl dX5_chooseFrom_64 (fun v9 hf5 hV9 => ?_)
    obtain ⟨rfl, ht_ld20⟩ := hV9
    have ht_ld20 : t (ld 20) = (3, 0, 0) := ht_ld20
    refine fx_top (v := .ref (ld 20)) rfl ?_
    refine tk_get (ci := 2) (C := RX2) (T := TX2) (N := 20) (sp := (1, 21, 8, 0)) hx hb htl inX2 hown hK hG ht_ld20 (by decide) tk_no rfl 2 (by decide) (htl _ mw_1420) (fun _ h9 => h9) rfl dX5_chooseFrom_67 (fun v9 hf6 hV9 => ?_)
    obtain ⟨b7, rfl, ht_b7⟩ := hV9
    have ht_b7 : t b7 = (21, 8, 0) := ht_b7
    refine lv_iload_n hx hb dX5_chooseFrom_70 rfl (lv_at hl 1 rfl) ?_
    refine tk_iald hx hb hK hG ht_b7 (by decide) (fun _ h => h) tk_no (I := 5) (by decide) (by decide) (by decide) dX5_chooseFrom_71 (fun v8 hE9 _ => ?_)
    have he_v8 : 0 ≤ v8.toInt ∧ v8.toInt ≤ 1 := hE9
    have hj486 : ∀ (H : Heap) (locs : List Loc), tk_G D cy ld t [] H → va_S (tk_w t [(20, 0, 0), (6, 0, 0)]) s.heap H locs → tk_f D H (ld 20) 2 0 (.int v3) → ∀ ls : Array Slot, lv_has ls 7 [(0, .ref a0), (1, .int 5), (2, .int p2), (3, .int p3), (4, .int p4)] → W p l e ({ frames := 7, cells := 0, slots := 0, locals := 420 }) s m args below meth c H locs 0 0 (MQ below (tv D cy ld t [] (fun H => True) (tk_w t [(20, 0, 0), (6, 0, 0)])) args s 0 0 (tk_w t [(20, 0, 0), (6, 0, 0)])) (F0 m 176 ls []) := by
      intro H locs hG hS hf2 ls hl
      refine lv_aload_n hx hb dX5_chooseFrom_176 rfl (lv_at hl 0 rfl) ?_
      refine tk_get (ci := 5) (C := RX5) (T := TX5) (N := 11) (sp := (6, 20, 8, 0)) hx hb htl inX5 hown hK hG ht_a0 (by decide) tk_no rfl 7 (by decide) (htl _ mw_153) (fun _ h9 => h9) rfl dX5_chooseFrom_177 (fun v9 hf487 hV9 => ?_)
      obtain ⟨b488, rfl, ht_b488⟩ := hV9
      have ht_b488 : t b488 = (20, 8, 0) := ht_b488
      refine lv_iload_n hx hb dX5_chooseFrom_180 rfl (lv_at hl 1 rfl) ?_
      refine lv_bipush (v := 100) hx hb dX5_chooseFrom_181 (by decide) ?_
      refine tk_iast hx hb hK hG hS ht_b488 (by decide) (fun _ => Iff.rfl) tk_no (I := 5) (by decide) (by decide) (by decide) trivial (tk_w.of ht_b488 (by decide) (List.mem_of_getElem? (i := 0) rfl) (Nat.le_refl _) (Nat.le_refl _)) dX5_chooseFrom_183 (fun H locs hG hS hq9 => ?_)
      have hf2 := hf2.kept (hq9 _ (tk_ne ht_ld20 ht_b488 (Or.inl (by decide))))
      refine lv_aload_n hx hb dX5_chooseFrom_184 rfl (lv_at hl 0 rfl) ?_
      refine lv_iload_n hx hb dX5_chooseFrom_185 rfl (lv_at hl 1 rfl) ?_
      refine lv_iconst (v := 1) hx hb dX5_chooseFrom_186 (by decide) ?_
      refine lv_iadd hx hb dX5_chooseFrom_187 ?_
      refine fx_ti (v := 6) (by decide) ?_
      refine lv_iload_n hx hb dX5_chooseFrom_188 rfl (lv_at hl 2 rfl) ?_
      refine lv_iload_n hx hb dX5_chooseFrom_189 rfl (lv_at hl 3 rfl) ?_
      refine lv_iload hx hb dX5_chooseFrom_190 (lv_at hl 4 rfl) ?_
      have hk_6 : (6 : Int32).toInt = 6 := by decide
      refine tk_Vv (As := [.int 6, .int p2, .int p3, .int p4]) (rest := []) (ci := 5) ⟨hx, hb, hml, hown, hts⟩ hK hG hZ hS (k_X5_chooseFrom_6 l D cy ld t a0 p2 p3 p4 ht_a0) trivial ⟨callB_of 4 hts (wl_in mw_1427) rfl rfl rfl (htl _ mw_40) (htl _ mw_1424) hd_yX5_chooseFrom ⟨(Nat.le_of_ble_eq_true rfl), (Nat.le_of_ble_eq_true rfl)⟩, htl _ mw_1425, htl _ mw_1426⟩ ht_a0 (by decide) tk_no rfl (tk_w.pick [0, 1] rfl) rfl hl.1 rfl (Nat.le_of_ble_eq_true rfl) dX5_chooseFrom_192 ⟨(Nat.le_of_ble_eq_true rfl), (Nat.le_of_ble_eq_true rfl)⟩ (fun H locs hpo hG hS hq9 => ?_)
      have hf2 := hf2.call hq9 (tk_w.no ht_ld20 (by decide))
      exact tk_vret hx hb hr hlocks trivial hG hS dX5_chooseFrom_195
    refine lv_if_ne (tgt := 176) hx hb dX5_chooseFrom_72 (by decide) (fun c9 => ?_) (fun c9 => ?_)
    · have hc9 : ¬ (v8.toInt = 0) := fun h9 => c9 ((fi_eq rfl (by decide)).mpr h9)
      exact hj486 _ _ hG hS hf2 _ (lv_sub hl [0, 1, 2, 3, 4] rfl)
    · have hc9 : v8.toInt = 0 := (fi_eq rfl (by decide)).mp c9
      refine lv_iconst (v := 0) hx hb dX5_chooseFrom_75 (by decide) ?_
      refine lv_istore (lv' := [(5, .int 0), (0, .ref a0), (1, .int 5), (2, .int p2), (3, .int p3), (4, .int p4)]) hx hb dX5_chooseFrom_76 hl (by decide) rfl (fun ls hl => ?_)
      have hl905 : ∀ (N : Nat) (v491 : Int32) (H : Heap) (locs : List Loc), v491.toInt ≤ 8 → 0 ≤ v491.toInt → (-1) * v491.toInt + 8 < (N : Int) → tk_G D cy ld t [] H → va_S (tk_w t [(20, 0, 0), (6, 0, 0)]) s.heap H locs → tk_f D H (ld 20) 2 0 (.int v3) → ∀ ls : Array Slot, lv_has ls 7 [(5, .int v491), (0, .ref a0), (1, .int 5), (2, .int p2), (3, .int p3), (4, .int p4)] → W p l e ({ frames := 7, cells := 0, slots := 0, locals := 420 }) s m args below meth c H locs 0 0 (MQ below (tv D cy ld t [] (fun H => True) (tk_w t [(20, 0, 0), (6, 0, 0)])) args s 0 0 (tk_w t [(20, 0, 0), (6, 0, 0)])) (F0 m 78 ls []) := by
        intro N
        induction N with
        | zero => intro v491 H locs hq0_l905 hq1_l905 hm_l905 hG hS hf2 ls hl; exfalso; omega
        | succ N ih =>
          intro v491 H locs hq0_l905 hq1_l905 hm_l905 hG hS hf2 ls hl
          refine lv_iload hx hb dX5_chooseFrom_78 (lv_at hl 0 rfl) ?_
          refine lv_aload_n hx hb dX5_chooseFrom_80 rfl (lv_at hl 1 rfl) ?_
          refine tk_get (ci := 5) (C := RX5) (T := TX5) (N := 11) (sp := (8, 20, 3, 0)) hx hb htl inX5 hown hK hG ht_a0 (by decide) tk_no rfl 0 (by decide) (htl _ mw_155) (fun _ h9 => h9) rfl dX5_chooseFrom_81 (fun v9 hf906 hV9 => ?_)
          obtain ⟨rfl, ht_ld20⟩ := hV9
          have ht_ld20 : t (ld 20) = (3, 0, 0) := ht_ld20
          refine fx_top (v := .ref (ld 20)) rfl ?_
          refine tk_getk (ci := 2) (C := RX2) (T := TX2) (N := 20) (sp := (0, 0, 8, 0)) hx hb htl inX2 hown hK hG ht_ld20 (by decide) tk_no rfl 0 (by decide) (htl _ mw_1419) (fun _ h9 => h9) rfl hf2 dX5_chooseFrom_84 ?_
          refine lv_icmp_ge (tgt := 176) hx hb dX5_chooseFrom_87 (by decide) (fun c9 => ?_) (fun c9 => ?_)
          · have hc907 : v3.toInt ≤ v491.toInt := (fi_le rfl rfl).mp c9
            exact hj486 _ _ hG hS hf2 _ (lv_sub hl [1, 2, 3, 4, 5] rfl)
          · have hc907 : ¬ (v3.toInt ≤ v491.toInt) := fun h9 => c9 ((fi_le rfl rfl).mpr h9)
            refine lv_aload_n hx hb dX5_chooseFrom_90 rfl (lv_at hl 1 rfl) ?_
            refine tk_get (ci := 5) (C := RX5) (T := TX5) (N := 11) (sp := (8, 20, 3, 0)) hx hb htl inX5 hown hK hG ht_a0 (by decide) tk_no rfl 0 (by decide) (htl _ mw_155) (fun _ h9 => h9) rfl dX5_chooseFrom_91 (fun v9 hf908 hV9 => ?_)
            obtain ⟨rfl, ht_ld20⟩ := hV9
            have ht_ld20 : t (ld 20) = (3, 0, 0) := ht_ld20
            refine fx_top (v := .ref (ld 20)) rfl ?_
            refine tk_get (ci := 2) (C := RX2) (T := TX2) (N := 20) (sp := (1, 21, 8, 0)) hx hb htl inX2 hown hK hG ht_ld20 (by decide) tk_no rfl 2 (by decide) (htl _ mw_1420) (fun _ h9 => h9) rfl dX5_chooseFrom_94 (fun v9 hf909 hV9 => ?_)
            obtain ⟨b910, rfl, ht_b910⟩ := hV9
            have ht_b910 : t b910 = (21, 8, 0) := ht_b910
            refine lv_iload hx hb dX5_chooseFrom_97 (lv_at hl 0 rfl) ?_
            refine tk_iald hx hb hK hG ht_b910 (by decide) (fun _ h => h) tk_no rfl (by omega) (by omega) dX5_chooseFrom_99 (fun v911 hE9 _ => ?_)
            have he_v911 : 0 ≤ v911.toInt ∧ v911.toInt ≤ 1 := hE9
            refine lv_iconst (v := 1) hx hb dX5_chooseFrom_100 (by decide) ?_
            have hj939 : ∀ (H : Heap) (locs : List Loc), tk_G D cy ld t [] H → va_S (tk_w t [(20, 0, 0), (6, 0, 0)]) s.heap H locs → tk_f D H (ld 20) 2 0 (.int v3) → ∀ ls : Array Slot, lv_has ls 7 [(5, .int v491), (0, .ref a0), (1, .int 5), (2, .int p2), (3, .int p3), (4, .int p4)] → W p l e ({ frames := 7, cells := 0, slots := 0, locals := 420 }) s m args below meth c H locs 0 0 (MQ below (tv D cy ld t [] (fun H => True) (tk_w t [(20, 0, 0), (6, 0, 0)])) args s 0 0 (tk_w t [(20, 0, 0), (6, 0, 0)])) (F0 m 170 ls []) := by
              intro H locs hG hS hf2 ls hl
              obtain ⟨v940, h_v940, e_v940⟩ := tk_inc v491 1 (by decide) (by omega) (by omega)
              refine lv_iinc (v := v940) (lv' := [(5, .int v940), (0, .ref a0), (1, .int 5), (2, .int p2), (3, .int p3), (4, .int p4)]) hx hb dX5_chooseFrom_170 hl (k := 0) rfl e_v940 (by decide) rfl (fun ls hl => ?_)
              refine lv_goto (tgt := 78) hx hb dX5_chooseFrom_173 (by decide) ?_
              exact ih v940 _ _ (by omega) (by omega) (by omega) hG hS hf2 _ (lv_sub hl [0, 1, 2, 3, 4, 5] rfl)
            refine lv_icmp_ne (tgt := 170) hx hb dX5_chooseFrom_101 (by decide) (fun c9 => ?_) (fun c9 => ?_)
            · have hc912 : ¬ (v911.toInt = 1) := fun h9 => c9 ((fi_eq rfl (by decide)).mpr h9)
              exact hj939 _ _ hG hS hf2 _ (lv_sub hl [0, 1, 2, 3, 4, 5] rfl)
            · have hc912 : v911.toInt = 1 := (fi_eq rfl (by decide)).mp c9
              refine lv_iload_n hx hb dX5_chooseFrom_104 rfl (lv_at hl 3 rfl) ?_
              refine lv_iload hx hb dX5_chooseFrom_105 (lv_at hl 0 rfl) ?_
              refine lv_ishr hx hb dX5_chooseFrom_107 ?_
              refine tk_any (fun v941 => ?_)
              refine lv_iconst (v := 1) hx hb dX5_chooseFrom_108 (by decide) ?_
              refine lv_iand hx hb dX5_chooseFrom_109 ?_
              refine tk_say (P := fun z => 0 ≤ z.toInt ∧ z.toInt ≤ 1) (tk_and v941 1 (by decide) (by decide)) (fun v942 h_v942 => ?_)
              refine lv_if_ne (tgt := 170) hx hb dX5_chooseFrom_110 (by decide) (fun c9 => ?_) (fun c9 => ?_)
              · have hc943 : ¬ (v942.toInt = 0) := fun h9 => c9 ((fi_eq rfl (by decide)).mpr h9)
                exact hj939 _ _ hG hS hf2 _ (lv_sub hl [0, 1, 2, 3, 4, 5] rfl)
              · have hc943 : v942.toInt = 0 := (fi_eq rfl (by decide)).mp c9
                refine lv_aload_n hx hb dX5_chooseFrom_113 rfl (lv_at hl 1 rfl) ?_
                refine tk_get (ci := 5) (C := RX5) (T := TX5) (N := 11) (sp := (6, 30, 8, 0)) hx hb htl inX5 hown hK hG ht_a0 (by decide) tk_no rfl 6 (by decide) (htl _ mw_152) (fun _ h9 => h9) rfl dX5_chooseFrom_114 (fun v9 hf944 hV9 => ?_)
                obtain ⟨b945, rfl, ht_b945⟩ := hV9
                have ht_b945 : t b945 = (30, 8, 0) := ht_b945
                refine lv_iload_n hx hb dX5_chooseFrom_117 rfl (lv_at hl 2 rfl) ?_
                refine tk_aald hx hb hK hG 6 rfl rfl ht_b945 (by decide) (fun _ h => h) tk_no (I := 5) (by decide) (by decide) (by decide) dX5_chooseFrom_118 (fun o946 ht_o946 => ?_)
                obtain ⟨b947, rfl, ht_b947⟩ := ht_o946
                have ht_b947 : t b947 = (20, 8, 0) := ht_b947
                refine fx_top (v := .ref b947) rfl ?_
                refine lv_iload hx hb dX5_chooseFrom_119 (lv_at hl 0 rfl) ?_
                refine tk_iald hx hb hK hG ht_b947 (by decide) (fun _ h => h) tk_no rfl (by omega) (by omega) dX5_chooseFrom_121 (fun v948 _ _ => ?_)
                have hr_v948 := tk_rng v948
                refine lv_istore (lv' := [(6, .int v948), (5, .int v491), (0, .ref a0), (1, .int 5), (2, .int p2), (3, .int p3), (4, .int p4)]) hx hb dX5_chooseFrom_122 hl (by decide) rfl (fun ls hl => ?_)
                refine lv_aload_n hx hb dX5_chooseFrom_124 rfl (lv_at hl 2 rfl) ?_
                refine tk_get (ci := 5) (C := RX5) (T := TX5) (N := 11) (sp := (6, 20, 8, 0)) hx hb htl inX5 hown hK hG ht_a0 (by decide) tk_no rfl 7 (by decide) (htl _ mw_153) (fun _ h9 => h9) rfl dX5_chooseFrom_125 (fun v9 hf949 hV9 => ?_)
                obtain ⟨b950, rfl, ht_b950⟩ := hV9
                have ht_b950 : t b950 = (20, 8, 0) := ht_b950
                refine lv_iload_n hx hb dX5_chooseFrom_128 rfl (lv_at hl 3 rfl) ?_
                refine lv_iload hx hb dX5_chooseFrom_129 (lv_at hl 1 rfl) ?_
                refine tk_iast hx hb hK hG hS ht_b950 (by decide) (fun _ => Iff.rfl) tk_no (I := 5) (by decide) (by decide) (by decide) trivial (tk_w.of ht_b950 (by decide) (List.mem_of_getElem? (i := 0) rfl) (Nat.le_refl _) (Nat.le_refl _)) dX5_chooseFrom_131 (fun H locs hG hS hq9 => ?_)
                have hf2 := hf2.kept (hq9 _ (tk_ne ht_ld20 ht_b950 (Or.inl (by decide))))
                refine lv_aload_n hx hb dX5_chooseFrom_132 rfl (lv_at hl 2 rfl) ?_
                refine lv_iload_n hx hb dX5_chooseFrom_133 rfl (lv_at hl 3 rfl) ?_
                refine lv_iconst (v := 1) hx hb dX5_chooseFrom_134 (by decide) ?_
                refine lv_iadd hx hb dX5_chooseFrom_135 ?_
                refine fx_ti (v := 6) (by decide) ?_
                refine lv_iload_n hx hb dX5_chooseFrom_136 rfl (lv_at hl 4 rfl) ?_
                refine lv_iconst (v := 1) hx hb dX5_chooseFrom_137 (by decide) ?_
                refine lv_iload hx hb dX5_chooseFrom_138 (lv_at hl 1 rfl) ?_
                refine lv_ishl hx hb dX5_chooseFrom_140 ?_
                refine tk_say (P := fun z => 1 ≤ z.toInt ∧ z.toInt ≤ 1024) (tk_shl1 v491 (by omega) (by omega)) (fun v952 h_v952 => ?_)
                refine lv_ior hx hb dX5_chooseFrom_141 ?_
                refine tk_any (fun v953 => ?_)
                refine lv_iload_n hx hb dX5_chooseFrom_142 rfl (lv_at hl 5 rfl) ?_
                refine lv_iload hx hb dX5_chooseFrom_143 (lv_at hl 0 rfl) ?_
                have hj957 : ∀ (v956 : Int32), 0 ≤ v956.toInt → v956.toInt ≤ 1 → ∀ ls : Array Slot, lv_has ls 7 [(6, .int v948), (5, .int v491), (0, .ref a0), (1, .int 5), (2, .int p2), (3, .int p3), (4, .int p4)] → W p l e ({ frames := 7, cells := 0, slots := 0, locals := 420 }) s m args below meth c H locs 0 0 (MQ below (tv D cy ld t [] (fun H => True) (tk_w t [(20, 0, 0), (6, 0, 0)])) args s 0 0 (tk_w t [(20, 0, 0), (6, 0, 0)])) (F0 m 153 ls [.int v956, .int p3, .int v953, .int 6, .ref a0]) := by
                  intro v956 hq0_j957 hq1_j957 ls hl
                  refine lv_iadd hx hb dX5_chooseFrom_153 ?_
                  obtain ⟨v958, hm_v958⟩ : ∃ z : Int32, p3 + v956 = z := ⟨_, rfl⟩
                  refine fx_ti hm_v958 ?_
                  refine lv_iload hx hb dX5_chooseFrom_154 (lv_at hl 6 rfl) ?_
                  refine lv_iload hx hb dX5_chooseFrom_156 (lv_at hl 0 rfl) ?_
                  have hj962 : ∀ (v961 : Int32), 0 ≤ v961.toInt → v961.toInt ≤ 1 → ∀ ls : Array Slot, lv_has ls 7 [(5, .int v491), (0, .ref a0), (1, .int 5), (2, .int p2), (3, .int p3), (4, .int p4)] → W p l e ({ frames := 7, cells := 0, slots := 0, locals := 420 }) s m args below meth c H locs 0 0 (MQ below (tv D cy ld t [] (fun H => True) (tk_w t [(20, 0, 0), (6, 0, 0)])) args s 0 0 (tk_w t [(20, 0, 0), (6, 0, 0)])) (F0 m 166 ls [.int v961, .int p4, .int v958, .int v953, .int 6, .ref a0]) := by
                    intro v961 hq0_j962 hq1_j962 ls hl
                    refine lv_iadd hx hb dX5_chooseFrom_166 ?_
                    obtain ⟨v963, hm_v963⟩ : ∃ z : Int32, p4 + v961 = z := ⟨_, rfl⟩
                    refine fx_ti hm_v963 ?_
                    have hk_6 : (6 : Int32).toInt = 6 := by decide
                    refine tk_Vv (As := [.int 6, .int v953, .int v958, .int v963]) (rest := []) (ci := 5) ⟨hx, hb, hml, hown, hts⟩ hK hG hZ hS (k_X5_chooseFrom_6 l D cy ld t a0 v953 v958 v963 ht_a0) trivial ⟨callB_of 4 hts (wl_in mw_1427) rfl rfl rfl (htl _ mw_40) (htl _ mw_1424) hd_yX5_chooseFrom ⟨(Nat.le_of_ble_eq_true rfl), (Nat.le_of_ble_eq_true rfl)⟩, htl _ mw_1425, htl _ mw_1426⟩ ht_a0 (by decide) tk_no rfl (tk_w.pick [0, 1] rfl) rfl hl.1 rfl (Nat.le_of_ble_eq_true rfl) dX5_chooseFrom_167 ⟨(Nat.le_of_ble_eq_true rfl), (Nat.le_of_ble_eq_true rfl)⟩ (fun H locs hpo hG hS hq9 => ?_)
                    have hf2 := hf2.call hq9 (tk_w.no ht_ld20 (by decide))
                    exact hj939 _ _ hG hS hf2 _ (lv_sub hl [0, 1, 2, 3, 4, 5] rfl)
                  refine lv_if_ge (tgt := 165) hx hb dX5_chooseFrom_158 (by decide) (fun c9 => ?_) (fun c9 => ?_)
                  · have hc959 : 0 ≤ v948.toInt := (fi_le (by decide) rfl).mp c9
                    refine lv_iconst (v := 0) hx hb dX5_chooseFrom_165 (by decide) ?_
                    have hk_0 : (0 : Int32).toInt = 0 := by decide
                    exact hj962 0 (by omega) (by omega) _ (lv_sub hl [1, 2, 3, 4, 5, 6] rfl)
                  · have hc959 : ¬ (0 ≤ v948.toInt) := fun h9 => c9 ((fi_le (by decide) rfl).mpr h9)
                    refine lv_iconst (v := 1) hx hb dX5_chooseFrom_161 (by decide) ?_
                    refine lv_goto (tgt := 166) hx hb dX5_chooseFrom_162 (by decide) ?_
                    have hk_1 : (1 : Int32).toInt = 1 := by decide
                    exact hj962 1 (by omega) (by omega) _ (lv_sub hl [1, 2, 3, 4, 5, 6] rfl)
                refine lv_if_le (tgt := 152) hx hb dX5_chooseFrom_145 (by decide) (fun c9 => ?_) (fun c9 => ?_)
                · have hc954 : v948.toInt ≤ 0 := (fi_le rfl (by decide)).mp c9
                  refine lv_iconst (v := 0) hx hb dX5_chooseFrom_152 (by decide) ?_
                  have hk_0 : (0 : Int32).toInt = 0 := by decide
                  exact hj957 0 (by omega) (by omega) _ (lv_sub hl [0, 1, 2, 3, 4, 5, 6] rfl)
                · have hc954 : ¬ (v948.toInt ≤ 0) := fun h9 => c9 ((fi_le rfl (by decide)).mpr h9)
                  refine lv_iconst (v := 1) hx hb dX5_chooseFrom_148 (by decide) ?_
                  refine lv_goto (tgt := 153) hx hb dX5_chooseFrom_149 (by decide) ?_
                  have hk_1 : (1 : Int32).toInt = 1 := by decide
                  exact hj957 1 (by omega) (by omega) _ (lv_sub hl [0, 1, 2, 3, 4, 5, 6] rfl)
      have hk_0 : (0 : Int32).toInt = 0 := by decide
      exact hl905 9 0 _ _ (by omega) (by omega) (by omega) hG hS hf2 _ (lv_sub hl [0, 1, 2, 3, 4, 5] rfl)
  · have hc4 : ¬ (5 < v3.toInt) := fun h9 => c9 ((fi_lt (by decide) rfl).mpr h9)
    refine lv_iload_n hx hb dX5_chooseFrom_11 rfl (lv_at hl 3 rfl) ?_
    refine lv_aload_n hx hb dX5_chooseFrom_12 rfl (lv_at hl 0 rfl) ?_
    refine tk_get (ci := 5) (C := RX5) (T := TX5) (N := 11) (sp := (0, (-2147483648), 2147483647, 0)) hx hb htl inX5 hown hK hG ht_a0 (by decide) tk_no rfl 9 (by decide) (htl _ mw_1421) (fun _ h9 => h9) rfl dX5_chooseFrom_13 (fun v9 hf965 hV9 => ?_)
    obtain ⟨v966, rfl, ha_v966, hb_v966⟩ := hV9
    have hj994 : ∀ (H : Heap) (locs : List Loc), tk_G D cy ld t [] H → va_S (tk_w t [(20, 0, 0), (6, 0, 0)]) s.heap H locs → tk_f D H (ld 20) 2 0 (.int v3) → ∀ ls : Array Slot, lv_has ls 7 [] → W p l e ({ frames := 7, cells := 0, slots := 0, locals := 420 }) s m args below meth c H locs 0 0 (MQ below (tv D cy ld t [] (fun H => True) (tk_w t [(20, 0, 0), (6, 0, 0)])) args s 0 0 (tk_w t [(20, 0, 0), (6, 0, 0)])) (F0 m 62 ls []) := by
      intro H locs hG hS hf2 ls hl
      exact tk_vret hx hb hr hlocks trivial hG hS dX5_chooseFrom_62
    refine lv_icmp_gt (tgt := 36) hx hb dX5_chooseFrom_16 (by decide) (fun c9 => ?_) (fun c9 => ?_)
    · have hc967 : v966.toInt < p3.toInt := (fi_lt rfl rfl).mp c9
      refine lv_aload_n hx hb dX5_chooseFrom_36 rfl (lv_at hl 0 rfl) ?_
      refine lv_iload_n hx hb dX5_chooseFrom_37 rfl (lv_at hl 3 rfl) ?_
      refine tk_put (ci := 5) (v := .int p3) (ty := .int) (C := RX5) (T := TX5) (N := 11) (sp := (0, (-2147483648), 2147483647, 0)) hx hb htl inX5 tyX5 tyX5_ok nmX5 hown hK hG hS ht_a0 (by decide) tk_no rfl 9 (by decide) (htl _ mw_1421) (fun _ h9 => h9) rfl (tyX5_ok 9 (by decide)) rfl rfl rfl (tk_Vi (tk_rng _).1 (tk_rng _).2) (fun _ h => h) (tk_w.of ht_a0 (by decide) (List.mem_of_getElem? (i := 1) rfl) (Nat.le_refl _) (Nat.le_refl _)) dX5_chooseFrom_38 (fun H locs hG hS hf995 hq9 hj9 => ?_)
      have hf2 := hf2.kept (hq9 _ (tk_ne ht_ld20 ht_a0 (Or.inl (by decide))))
      refine lv_aload_n hx hb dX5_chooseFrom_41 rfl (lv_at hl 0 rfl) ?_
      refine lv_iload hx hb dX5_chooseFrom_42 (lv_at hl 4 rfl) ?_
      refine tk_put (ci := 5) (v := .int p4) (ty := .int) (C := RX5) (T := TX5) (N := 11) (sp := (0, (-2147483648), 2147483647, 0)) hx hb htl inX5 tyX5 tyX5_ok nmX5 hown hK hG hS ht_a0 (by decide) tk_no rfl 10 (by decide) (htl _ mw_1422) (fun _ h9 => h9) rfl (tyX5_ok 10 (by decide)) rfl rfl rfl (tk_Vi (tk_rng _).1 (tk_rng _).2) (fun _ h => h) (tk_w.of ht_a0 (by decide) (List.mem_of_getElem? (i := 1) rfl) (Nat.le_refl _) (Nat.le_refl _)) dX5_chooseFrom_44 (fun H locs hG hS hf997 hq9 hj9 => ?_)
      have hf2 := hf2.kept (hq9 _ (tk_ne ht_ld20 ht_a0 (Or.inl (by decide))))
      refine lv_aload_n hx hb dX5_chooseFrom_47 rfl (lv_at hl 0 rfl) ?_
      refine tk_get (ci := 5) (C := RX5) (T := TX5) (N := 11) (sp := (6, 20, 8, 0)) hx hb htl inX5 hown hK hG ht_a0 (by decide) tk_no rfl 7 (by decide) (htl _ mw_153) (fun _ h9 => h9) rfl dX5_chooseFrom_48 (fun v9 hf999 hV9 => ?_)
      obtain ⟨b1000, rfl, ht_b1000⟩ := hV9
      have ht_b1000 : t b1000 = (20, 8, 0) := ht_b1000
      refine lv_iconst (v := 0) hx hb dX5_chooseFrom_51 (by decide) ?_
      refine lv_aload_n hx hb dX5_chooseFrom_52 rfl (lv_at hl 0 rfl) ?_
      refine tk_get (ci := 5) (C := RX5) (T := TX5) (N := 11) (sp := (6, 20, 8, 0)) hx hb htl inX5 hown hK hG ht_a0 (by decide) tk_no rfl 8 (by decide) (htl _ mw_154) (fun _ h9 => h9) rfl dX5_chooseFrom_53 (fun v9 hf1001 hV9 => ?_)
      obtain ⟨b1002, rfl, ht_b1002⟩ := hV9
      have ht_b1002 : t b1002 = (20, 8, 0) := ht_b1002
      refine lv_iconst (v := 0) hx hb dX5_chooseFrom_56 (by decide) ?_
      refine lv_bipush (v := 8) hx hb dX5_chooseFrom_57 (by decide) ?_
      refine tk_copy (SP := 0) (DP := 0) (NC := 8) hx hb (by rw [hml]; exact hl.1.symm) hown (htl _ mw_1428) (htl _ mw_655) (htl _ mw_656) (htl _ mw_657) hK hG hS ht_b1000 ht_b1002 (by decide) (by decide) (fun _ h => h) (fun _ => Iff.rfl) tk_no tk_no (by decide) (by decide) (by decide) (by decide) (by decide) (by decide) (by decide) (by decide) (fun _ _ _ _ _ => trivial) (tk_w.of ht_b1002 (by decide) (List.mem_of_getElem? (i := 0) rfl) (Nat.le_refl _) (Nat.le_refl _)) (Nat.le_of_ble_eq_true rfl) (Nat.le_of_ble_eq_true rfl) dX5_chooseFrom_59 (fun H locs hG hS hq9 => ?_)
      have hf2 := hf2.kept (hq9 _ (tk_ne ht_ld20 ht_b1002 (Or.inl (by decide))))
      exact hj994 _ _ hG hS hf2 _ (lv_sub hl [] rfl)
    · have hc967 : ¬ (v966.toInt < p3.toInt) := fun h9 => c9 ((fi_lt rfl rfl).mpr h9)
      refine lv_iload_n hx hb dX5_chooseFrom_19 rfl (lv_at hl 3 rfl) ?_
      refine lv_aload_n hx hb dX5_chooseFrom_20 rfl (lv_at hl 0 rfl) ?_
      refine tk_get (ci := 5) (C := RX5) (T := TX5) (N := 11) (sp := (0, (-2147483648), 2147483647, 0)) hx hb htl inX5 hown hK hG ht_a0 (by decide) tk_no rfl 9 (by decide) (htl _ mw_1421) (fun _ h9 => h9) rfl dX5_chooseFrom_21 (fun v9 hf1004 hV9 => ?_)
      obtain ⟨v1005, rfl, ha_v1005, hb_v1005⟩ := hV9
      refine lv_icmp_ne (tgt := 62) hx hb dX5_chooseFrom_24 (by decide) (fun c9 => ?_) (fun c9 => ?_)
      · have hc1006 : ¬ (p3.toInt = v1005.toInt) := fun h9 => c9 ((fi_eq rfl rfl).mpr h9)
        exact hj994 _ _ hG hS hf2 _ (lv_sub hl [] rfl)
      · have hc1006 : p3.toInt = v1005.toInt := (fi_eq rfl rfl).mp c9
        refine lv_iload hx hb dX5_chooseFrom_27 (lv_at hl 4 rfl) ?_
        refine lv_aload_n hx hb dX5_chooseFrom_29 rfl (lv_at hl 0 rfl) ?_
        refine tk_get (ci := 5) (C := RX5) (T := TX5) (N := 11) (sp := (0, (-2147483648), 2147483647, 0)) hx hb htl inX5 hown hK hG ht_a0 (by decide) tk_no rfl 10 (by decide) (htl _ mw_1422) (fun _ h9 => h9) rfl dX5_chooseFrom_30 (fun v9 hf1007 hV9 => ?_)
        obtain ⟨v1008, rfl, ha_v1008, hb_v1008⟩ := hV9
        refine lv_icmp_ge (tgt := 62) hx hb dX5_chooseFrom_33 (by decide) (fun c9 => ?_) (fun c9 => ?_)
        · have hc1009 : v1008.toInt ≤ p4.toInt := (fi_le rfl rfl).mp c9
          exact hj994 _ _ hG hS hf2 _ (lv_sub hl [] rfl)
        · have hc1009 : ¬ (v1008.toInt ≤ p4.toInt) := fun h9 => c9 ((fi_le rfl rfl).mpr h9)
          refine lv_aload_n hx hb dX5_chooseFrom_36 rfl (lv_at hl 0 rfl) ?_
          refine lv_iload_n hx hb dX5_chooseFrom_37 rfl (lv_at hl 3 rfl) ?_
          refine tk_put (ci := 5) (v := .int p3) (ty := .int) (C := RX5) (T := TX5) (N := 11) (sp := (0, (-2147483648), 2147483647, 0)) hx hb htl inX5 tyX5 tyX5_ok nmX5 hown hK hG hS ht_a0 (by decide) tk_no rfl 9 (by decide) (htl _ mw_1421) (fun _ h9 => h9) rfl (tyX5_ok 9 (by decide)) rfl rfl rfl (tk_Vi (tk_rng _).1 (tk_rng _).2) (fun _ h => h) (tk_w.of ht_a0 (by decide) (List.mem_of_getElem? (i := 1) rfl) (Nat.le_refl _) (Nat.le_refl _)) dX5_chooseFrom_38 (fun H locs hG hS hf1010 hq9 hj9 => ?_)
          have hf2 := hf2.kept (hq9 _ (tk_ne ht_ld20 ht_a0 (Or.inl (by decide))))
          refine lv_aload_n hx hb dX5_chooseFrom_41 rfl (lv_at hl 0 rfl) ?_
          refine lv_iload hx hb dX5_chooseFrom_42 (lv_at hl 4 rfl) ?_
          refine tk_put (ci := 5) (v := .int p4) (ty := .int) (C := RX5) (T := TX5) (N := 11) (sp := (0, (-2147483648), 2147483647, 0)) hx hb htl inX5 tyX5 tyX5_ok nmX5 hown hK hG hS ht_a0 (by decide) tk_no rfl 10 (by decide) (htl _ mw_1422) (fun _ h9 => h9) rfl (tyX5_ok 10 (by decide)) rfl rfl rfl (tk_Vi (tk_rng _).1 (tk_rng _).2) (fun _ h => h) (tk_w.of ht_a0 (by decide) (List.mem_of_getElem? (i := 1) rfl) (Nat.le_refl _) (Nat.le_refl _)) dX5_chooseFrom_44 (fun H locs hG hS hf1012 hq9 hj9 => ?_)
          have hf2 := hf2.kept (hq9 _ (tk_ne ht_ld20 ht_a0 (Or.inl (by decide))))
          refine lv_aload_n hx hb dX5_chooseFrom_47 rfl (lv_at hl 0 rfl) ?_
          refine tk_get (ci := 5) (C := RX5) (T := TX5) (N := 11) (sp := (6, 20, 8, 0)) hx hb htl inX5 hown hK hG ht_a0 (by decide) tk_no rfl 7 (by decide) (htl _ mw_153) (fun _ h9 => h9) rfl dX5_chooseFrom_48 (fun v9 hf1014 hV9 => ?_)
          obtain ⟨b1015, rfl, ht_b1015⟩ := hV9
          have ht_b1015 : t b1015 = (20, 8, 0) := ht_b1015
          refine lv_iconst (v := 0) hx hb dX5_chooseFrom_51 (by decide) ?_
          refine lv_aload_n hx hb dX5_chooseFrom_52 rfl (lv_at hl 0 rfl) ?_
          refine tk_get (ci := 5) (C := RX5) (T := TX5) (N := 11) (sp := (6, 20, 8, 0)) hx hb htl inX5 hown hK hG ht_a0 (by decide) tk_no rfl 8 (by decide) (htl _ mw_154) (fun _ h9 => h9) rfl dX5_chooseFrom_53 (fun v9 hf1016 hV9 => ?_)
          obtain ⟨b1017, rfl, ht_b1017⟩ := hV9
          have ht_b1017 : t b1017 = (20, 8, 0) := ht_b1017
          refine lv_iconst (v := 0) hx hb dX5_chooseFrom_56 (by decide) ?_
          refine lv_bipush (v := 8) hx hb dX5_chooseFrom_57 (by decide) ?_
          refine tk_copy (SP := 0) (DP := 0) (NC := 8) hx hb (by rw [hml]; exact hl.1.symm) hown (htl _ mw_1428) (htl _ mw_655) (htl _ mw_656) (htl _ mw_657) hK hG hS ht_b1015 ht_b1017 (by decide) (by decide) (fun _ h => h) (fun _ => Iff.rfl) tk_no tk_no (by decide) (by decide) (by decide) (by decide) (by decide) (by decide) (by decide) (by decide) (fun _ _ _ _ _ => trivial) (tk_w.of ht_b1017 (by decide) (List.mem_of_getElem? (i := 0) rfl) (Nat.le_refl _) (Nat.le_refl _)) (Nat.le_of_ble_eq_true rfl) (Nat.le_of_ble_eq_true rfl) dX5_chooseFrom_59 (fun H locs hG hS hq9 => ?_)
          have hf2 := hf2.kept (hq9 _ (tk_ne ht_ld20 ht_b1017 (Or.inl (by decide))))
          exact hj994 _ _ hG hS hf2 _ (lv_sub hl [] rfl)
set_option maxHeartbeats 4000000 in
set_option maxRecDepth 100000 in
theorem k_X5_chooseFrom_4 (l : Launch) (D : va_G) (cy : Nat → ClassId) (ld : Nat → Nat) (t : tk_T) (a0 : Nat) (p2 : Int32) (p3 : Int32) (p4 : Int32) (ht_a0 : t a0 = (6, 0, 0)) : Met l yX5_chooseFrom (wl yX5_chooseFrom cX5_chooseFrom 7 none) ({ frames := 8, cells := 0, slots := 0, locals := 490 }) (tp D cy ld t [] [.ref a0, .int 4, .int p2, .int p3, .int p4] (fun H => True)) (tv D cy ld t [] (fun H => True) (tk_w t [(20, 0, 0), (6, 0, 0)])) 0 0 (tk_w t [(20, 0, 0), (6, 0, 0)]) := by
  refine tk_met (y := yX5_chooseFrom) (cc := cX5_chooseFrom) (maxL := 7) (ret := none) (av := [.ref a0, .int 4, .int p2, .int p3, .int p4]) _ _ (by decide) (Nat.le_of_ble_eq_true rfl) ?_
  intro p e s m args below meth c hx hb hr hml hts htl hown hlocks hK H locs hH hG hS hB hZ ls hl
  have hown : s.vm.findClass RX5 = some m.cls := hown
  have hl : lv_has ls 7 [(0, .ref a0), (1, .int 4), (2, .int p2), (3, .int p3), (4, .int p4)] := hl
  have hr_p2 := tk_rng p2
  have hr_p3 := tk_rng p3
  have hr_p4 := tk_rng p4
  refine lv_iload_n hx hb dX5_chooseFrom_0 rfl (lv_at hl 1 rfl) ?_
  refine lv_aload_n hx hb dX5_chooseFrom_1 rfl (lv_at hl 0 rfl) ?_
  refine tk_get (ci := 5) (C := RX5) (T := TX5) (N := 11) (sp := (8, 20, 3, 0)) hx hb htl inX5 hown hK hG ht_a0 (by decide) tk_no rfl 0 (by decide) (htl _ mw_155) (fun _ h9 => h9) rfl dX5_chooseFrom_2 (fun v9 hf1 hV9 => ?_)
  obtain ⟨rfl, ht_ld20⟩ := hV9
  have ht_ld20 : t (ld 20) = (3, 0, 0) := ht_ld20
  refine fx_top (v := .ref (ld 20)) rfl ?_
  refine tk_get (ci := 2) (C := RX2) (T := TX2) (N := 20) (sp := (0, 0, 8, 0)) hx hb htl inX2 hown hK hG ht_ld20 (by decide) tk_no rfl 0 (by decide) (htl _ mw_1419) (fun _ h9 => h9) rfl dX5_chooseFrom_5 (fun v9 hf2 hV9 => ?_)
  obtain ⟨v3, rfl, ha_v3, hb_v3⟩ := hV9
  refine lv_icmp_lt (tgt := 63) hx hb dX5_chooseFrom_8 (by decide) (fun c9 => ?_) (fun c9 => ?_)
  · have hc4 : 4 < v3.toInt := (fi_lt (by decide) rfl).mp c9
    refine lv_aload_n hx hb dX5_chooseFrom_63 rfl (lv_at hl 0 rfl) ?_
    refine tk_get (ci := 5) (C := RX5) (T := TX5) (N := 11) (sp := (8, 20, 3, 0)) hx hb htl inX5 hown hK hG ht_a0 (by decide) tk_no rfl 0 (by decide) (htl _ mw_155) (fun _ h9 => h9) rfl dX5_chooseFrom_64 (fun v9 hf5 hV9 => ?_)
    obtain ⟨rfl, ht_ld20⟩ := hV9
    have ht_ld20 : t (ld 20) = (3, 0, 0) := ht_ld20
    refine fx_top (v := .ref (ld 20)) rfl ?_
    refine tk_get (ci := 2) (C := RX2) (T := TX2) (N := 20) (sp := (1, 21, 8, 0)) hx hb htl inX2 hown hK hG ht_ld20 (by decide) tk_no rfl 2 (by decide) (htl _ mw_1420) (fun _ h9 => h9) rfl dX5_chooseFrom_67 (fun v9 hf6 hV9 => ?_)
    obtain ⟨b7, rfl, ht_b7⟩ := hV9
    have ht_b7 : t b7 = (21, 8, 0) := ht_b7
    refine lv_iload_n hx hb dX5_chooseFrom_70 rfl (lv_at hl 1 rfl) ?_
    refine tk_iald hx hb hK hG ht_b7 (by decide) (fun _ h => h) tk_no (I := 4) (by decide) (by decide) (by decide) dX5_chooseFrom_71 (fun v8 hE9 _ => ?_)
    have he_v8 : 0 ≤ v8.toInt ∧ v8.toInt ≤ 1 := hE9
    have hj486 : ∀ (H : Heap) (locs : List Loc), tk_G D cy ld t [] H → va_S (tk_w t [(20, 0, 0), (6, 0, 0)]) s.heap H locs → tk_f D H (ld 20) 2 0 (.int v3) → ∀ ls : Array Slot, lv_has ls 7 [(0, .ref a0), (1, .int 4), (2, .int p2), (3, .int p3), (4, .int p4)] → W p l e ({ frames := 8, cells := 0, slots := 0, locals := 490 }) s m args below meth c H locs 0 0 (MQ below (tv D cy ld t [] (fun H => True) (tk_w t [(20, 0, 0), (6, 0, 0)])) args s 0 0 (tk_w t [(20, 0, 0), (6, 0, 0)])) (F0 m 176 ls []) := by
      intro H locs hG hS hf2 ls hl
      refine lv_aload_n hx hb dX5_chooseFrom_176 rfl (lv_at hl 0 rfl) ?_
      refine tk_get (ci := 5) (C := RX5) (T := TX5) (N := 11) (sp := (6, 20, 8, 0)) hx hb htl inX5 hown hK hG ht_a0 (by decide) tk_no rfl 7 (by decide) (htl _ mw_153) (fun _ h9 => h9) rfl dX5_chooseFrom_177 (fun v9 hf487 hV9 => ?_)
      obtain ⟨b488, rfl, ht_b488⟩ := hV9
      have ht_b488 : t b488 = (20, 8, 0) := ht_b488
      refine lv_iload_n hx hb dX5_chooseFrom_180 rfl (lv_at hl 1 rfl) ?_
      refine lv_bipush (v := 100) hx hb dX5_chooseFrom_181 (by decide) ?_
      refine tk_iast hx hb hK hG hS ht_b488 (by decide) (fun _ => Iff.rfl) tk_no (I := 4) (by decide) (by decide) (by decide) trivial (tk_w.of ht_b488 (by decide) (List.mem_of_getElem? (i := 0) rfl) (Nat.le_refl _) (Nat.le_refl _)) dX5_chooseFrom_183 (fun H locs hG hS hq9 => ?_)
      have hf2 := hf2.kept (hq9 _ (tk_ne ht_ld20 ht_b488 (Or.inl (by decide))))
      refine lv_aload_n hx hb dX5_chooseFrom_184 rfl (lv_at hl 0 rfl) ?_
      refine lv_iload_n hx hb dX5_chooseFrom_185 rfl (lv_at hl 1 rfl) ?_
      refine lv_iconst (v := 1) hx hb dX5_chooseFrom_186 (by decide) ?_
      refine lv_iadd hx hb dX5_chooseFrom_187 ?_
      refine fx_ti (v := 5) (by decide) ?_
      refine lv_iload_n hx hb dX5_chooseFrom_188 rfl (lv_at hl 2 rfl) ?_
      refine lv_iload_n hx hb dX5_chooseFrom_189 rfl (lv_at hl 3 rfl) ?_
      refine lv_iload hx hb dX5_chooseFrom_190 (lv_at hl 4 rfl) ?_
      have hk_5 : (5 : Int32).toInt = 5 := by decide
      refine tk_Vv (As := [.int 5, .int p2, .int p3, .int p4]) (rest := []) (ci := 5) ⟨hx, hb, hml, hown, hts⟩ hK hG hZ hS (k_X5_chooseFrom_5 l D cy ld t a0 p2 p3 p4 ht_a0) trivial ⟨callB_of 4 hts (wl_in mw_1427) rfl rfl rfl (htl _ mw_40) (htl _ mw_1424) hd_yX5_chooseFrom ⟨(Nat.le_of_ble_eq_true rfl), (Nat.le_of_ble_eq_true rfl)⟩, htl _ mw_1425, htl _ mw_1426⟩ ht_a0 (by decide) tk_no rfl (tk_w.pick [0, 1] rfl) rfl hl.1 rfl (Nat.le_of_ble_eq_true rfl) dX5_chooseFrom_192 ⟨(Nat.le_of_ble_eq_true rfl), (Nat.le_of_ble_eq_true rfl)⟩ (fun H locs hpo hG hS hq9 => ?_)
      have hf2 := hf2.call hq9 (tk_w.no ht_ld20 (by decide))
      exact tk_vret hx hb hr hlocks trivial hG hS dX5_chooseFrom_195
    refine lv_if_ne (tgt := 176) hx hb dX5_chooseFrom_72 (by decide) (fun c9 => ?_) (fun c9 => ?_)
    · have hc9 : ¬ (v8.toInt = 0) := fun h9 => c9 ((fi_eq rfl (by decide)).mpr h9)
      exact hj486 _ _ hG hS hf2 _ (lv_sub hl [0, 1, 2, 3, 4] rfl)
    · have hc9 : v8.toInt = 0 := (fi_eq rfl (by decide)).mp c9
      refine lv_iconst (v := 0) hx hb dX5_chooseFrom_75 (by decide) ?_
      refine lv_istore (lv' := [(5, .int 0), (0, .ref a0), (1, .int 4), (2, .int p2), (3, .int p3), (4, .int p4)]) hx hb dX5_chooseFrom_76 hl (by decide) rfl (fun ls hl => ?_)
      have hl905 : ∀ (N : Nat) (v491 : Int32) (H : Heap) (locs : List Loc), v491.toInt ≤ 8 → 0 ≤ v491.toInt → (-1) * v491.toInt + 8 < (N : Int) → tk_G D cy ld t [] H → va_S (tk_w t [(20, 0, 0), (6, 0, 0)]) s.heap H locs → tk_f D H (ld 20) 2 0 (.int v3) → ∀ ls : Array Slot, lv_has ls 7 [(5, .int v491), (0, .ref a0), (1, .int 4), (2, .int p2), (3, .int p3), (4, .int p4)] → W p l e ({ frames := 8, cells := 0, slots := 0, locals := 490 }) s m args below meth c H locs 0 0 (MQ below (tv D cy ld t [] (fun H => True) (tk_w t [(20, 0, 0), (6, 0, 0)])) args s 0 0 (tk_w t [(20, 0, 0), (6, 0, 0)])) (F0 m 78 ls []) := by
        intro N
        induction N with
        | zero => intro v491 H locs hq0_l905 hq1_l905 hm_l905 hG hS hf2 ls hl; exfalso; omega
        | succ N ih =>
          intro v491 H locs hq0_l905 hq1_l905 hm_l905 hG hS hf2 ls hl
          refine lv_iload hx hb dX5_chooseFrom_78 (lv_at hl 0 rfl) ?_
          refine lv_aload_n hx hb dX5_chooseFrom_80 rfl (lv_at hl 1 rfl) ?_
          refine tk_get (ci := 5) (C := RX5) (T := TX5) (N := 11) (sp := (8, 20, 3, 0)) hx hb htl inX5 hown hK hG ht_a0 (by decide) tk_no rfl 0 (by decide) (htl _ mw_155) (fun _ h9 => h9) rfl dX5_chooseFrom_81 (fun v9 hf906 hV9 => ?_)
          obtain ⟨rfl, ht_ld20⟩ := hV9
          have ht_ld20 : t (ld 20) = (3, 0, 0) := ht_ld20
          refine fx_top (v := .ref (ld 20)) rfl ?_
          refine tk_getk (ci := 2) (C := RX2) (T := TX2) (N := 20) (sp := (0, 0, 8, 0)) hx hb htl inX2 hown hK hG ht_ld20 (by decide) tk_no rfl 0 (by decide) (htl _ mw_1419) (fun _ h9 => h9) rfl hf2 dX5_chooseFrom_84 ?_
          refine lv_icmp_ge (tgt := 176) hx hb dX5_chooseFrom_87 (by decide) (fun c9 => ?_) (fun c9 => ?_)
          · have hc907 : v3.toInt ≤ v491.toInt := (fi_le rfl rfl).mp c9
            exact hj486 _ _ hG hS hf2 _ (lv_sub hl [1, 2, 3, 4, 5] rfl)
          · have hc907 : ¬ (v3.toInt ≤ v491.toInt) := fun h9 => c9 ((fi_le rfl rfl).mpr h9)
            refine lv_aload_n hx hb dX5_chooseFrom_90 rfl (lv_at hl 1 rfl) ?_
            refine tk_get (ci := 5) (C := RX5) (T := TX5) (N := 11) (sp := (8, 20, 3, 0)) hx hb htl inX5 hown hK hG ht_a0 (by decide) tk_no rfl 0 (by decide) (htl _ mw_155) (fun _ h9 => h9) rfl dX5_chooseFrom_91 (fun v9 hf908 hV9 => ?_)
            obtain ⟨rfl, ht_ld20⟩ := hV9
            have ht_ld20 : t (ld 20) = (3, 0, 0) := ht_ld20
            refine fx_top (v := .ref (ld 20)) rfl ?_
            refine tk_get (ci := 2) (C := RX2) (T := TX2) (N := 20) (sp := (1, 21, 8, 0)) hx hb htl inX2 hown hK hG ht_ld20 (by decide) tk_no rfl 2 (by decide) (htl _ mw_1420) (fun _ h9 => h9) rfl dX5_chooseFrom_94 (fun v9 hf909 hV9 => ?_)
            obtain ⟨b910, rfl, ht_b910⟩ := hV9
            have ht_b910 : t b910 = (21, 8, 0) := ht_b910
            refine lv_iload hx hb dX5_chooseFrom_97 (lv_at hl 0 rfl) ?_
            refine tk_iald hx hb hK hG ht_b910 (by decide) (fun _ h => h) tk_no rfl (by omega) (by omega) dX5_chooseFrom_99 (fun v911 hE9 _ => ?_)
            have he_v911 : 0 ≤ v911.toInt ∧ v911.toInt ≤ 1 := hE9
            refine lv_iconst (v := 1) hx hb dX5_chooseFrom_100 (by decide) ?_
            have hj939 : ∀ (H : Heap) (locs : List Loc), tk_G D cy ld t [] H → va_S (tk_w t [(20, 0, 0), (6, 0, 0)]) s.heap H locs → tk_f D H (ld 20) 2 0 (.int v3) → ∀ ls : Array Slot, lv_has ls 7 [(5, .int v491), (0, .ref a0), (1, .int 4), (2, .int p2), (3, .int p3), (4, .int p4)] → W p l e ({ frames := 8, cells := 0, slots := 0, locals := 490 }) s m args below meth c H locs 0 0 (MQ below (tv D cy ld t [] (fun H => True) (tk_w t [(20, 0, 0), (6, 0, 0)])) args s 0 0 (tk_w t [(20, 0, 0), (6, 0, 0)])) (F0 m 170 ls []) := by
              intro H locs hG hS hf2 ls hl
              obtain ⟨v940, h_v940, e_v940⟩ := tk_inc v491 1 (by decide) (by omega) (by omega)
              refine lv_iinc (v := v940) (lv' := [(5, .int v940), (0, .ref a0), (1, .int 4), (2, .int p2), (3, .int p3), (4, .int p4)]) hx hb dX5_chooseFrom_170 hl (k := 0) rfl e_v940 (by decide) rfl (fun ls hl => ?_)
              refine lv_goto (tgt := 78) hx hb dX5_chooseFrom_173 (by decide) ?_
              exact ih v940 _ _ (by omega) (by omega) (by omega) hG hS hf2 _ (lv_sub hl [0, 1, 2, 3, 4, 5] rfl)
            refine lv_icmp_ne (tgt := 170) hx hb dX5_chooseFrom_101 (by decide) (fun c9 => ?_) (fun c9 => ?_)
            · have hc912 : ¬ (v911.toInt = 1) := fun h9 => c9 ((fi_eq rfl (by decide)).mpr h9)
              exact hj939 _ _ hG hS hf2 _ (lv_sub hl [0, 1, 2, 3, 4, 5] rfl)
            · have hc912 : v911.toInt = 1 := (fi_eq rfl (by decide)).mp c9
              refine lv_iload_n hx hb dX5_chooseFrom_104 rfl (lv_at hl 3 rfl) ?_
              refine lv_iload hx hb dX5_chooseFrom_105 (lv_at hl 0 rfl) ?_
              refine lv_ishr hx hb dX5_chooseFrom_107 ?_
              refine tk_any (fun v941 => ?_)
              refine lv_iconst (v := 1) hx hb dX5_chooseFrom_108 (by decide) ?_
              refine lv_iand hx hb dX5_chooseFrom_109 ?_
              refine tk_say (P := fun z => 0 ≤ z.toInt ∧ z.toInt ≤ 1) (tk_and v941 1 (by decide) (by decide)) (fun v942 h_v942 => ?_)
              refine lv_if_ne (tgt := 170) hx hb dX5_chooseFrom_110 (by decide) (fun c9 => ?_) (fun c9 => ?_)
              · have hc943 : ¬ (v942.toInt = 0) := fun h9 => c9 ((fi_eq rfl (by decide)).mpr h9)
                exact hj939 _ _ hG hS hf2 _ (lv_sub hl [0, 1, 2, 3, 4, 5] rfl)
              · have hc943 : v942.toInt = 0 := (fi_eq rfl (by decide)).mp c9
                refine lv_aload_n hx hb dX5_chooseFrom_113 rfl (lv_at hl 1 rfl) ?_
                refine tk_get (ci := 5) (C := RX5) (T := TX5) (N := 11) (sp := (6, 30, 8, 0)) hx hb htl inX5 hown hK hG ht_a0 (by decide) tk_no rfl 6 (by decide) (htl _ mw_152) (fun _ h9 => h9) rfl dX5_chooseFrom_114 (fun v9 hf944 hV9 => ?_)
                obtain ⟨b945, rfl, ht_b945⟩ := hV9
                have ht_b945 : t b945 = (30, 8, 0) := ht_b945
                refine lv_iload_n hx hb dX5_chooseFrom_117 rfl (lv_at hl 2 rfl) ?_
                refine tk_aald hx hb hK hG 6 rfl rfl ht_b945 (by decide) (fun _ h => h) tk_no (I := 4) (by decide) (by decide) (by decide) dX5_chooseFrom_118 (fun o946 ht_o946 => ?_)
                obtain ⟨b947, rfl, ht_b947⟩ := ht_o946
                have ht_b947 : t b947 = (20, 8, 0) := ht_b947
                refine fx_top (v := .ref b947) rfl ?_
                refine lv_iload hx hb dX5_chooseFrom_119 (lv_at hl 0 rfl) ?_
                refine tk_iald hx hb hK hG ht_b947 (by decide) (fun _ h => h) tk_no rfl (by omega) (by omega) dX5_chooseFrom_121 (fun v948 _ _ => ?_)
                have hr_v948 := tk_rng v948
                refine lv_istore (lv' := [(6, .int v948), (5, .int v491), (0, .ref a0), (1, .int 4), (2, .int p2), (3, .int p3), (4, .int p4)]) hx hb dX5_chooseFrom_122 hl (by decide) rfl (fun ls hl => ?_)
                refine lv_aload_n hx hb dX5_chooseFrom_124 rfl (lv_at hl 2 rfl) ?_
                refine tk_get (ci := 5) (C := RX5) (T := TX5) (N := 11) (sp := (6, 20, 8, 0)) hx hb htl inX5 hown hK hG ht_a0 (by decide) tk_no rfl 7 (by decide) (htl _ mw_153) (fun _ h9 => h9) rfl dX5_chooseFrom_125 (fun v9 hf949 hV9 => ?_)
                obtain ⟨b950, rfl, ht_b950⟩ := hV9
                have ht_b950 : t b950 = (20, 8, 0) := ht_b950
                refine lv_iload_n hx hb dX5_chooseFrom_128 rfl (lv_at hl 3 rfl) ?_
                refine lv_iload hx hb dX5_chooseFrom_129 (lv_at hl 1 rfl) ?_
                refine tk_iast hx hb hK hG hS ht_b950 (by decide) (fun _ => Iff.rfl) tk_no (I := 4) (by decide) (by decide) (by decide) trivial (tk_w.of ht_b950 (by decide) (List.mem_of_getElem? (i := 0) rfl) (Nat.le_refl _) (Nat.le_refl _)) dX5_chooseFrom_131 (fun H locs hG hS hq9 => ?_)
                have hf2 := hf2.kept (hq9 _ (tk_ne ht_ld20 ht_b950 (Or.inl (by decide))))
                refine lv_aload_n hx hb dX5_chooseFrom_132 rfl (lv_at hl 2 rfl) ?_
                refine lv_iload_n hx hb dX5_chooseFrom_133 rfl (lv_at hl 3 rfl) ?_
                refine lv_iconst (v := 1) hx hb dX5_chooseFrom_134 (by decide) ?_
                refine lv_iadd hx hb dX5_chooseFrom_135 ?_
                refine fx_ti (v := 5) (by decide) ?_
                refine lv_iload_n hx hb dX5_chooseFrom_136 rfl (lv_at hl 4 rfl) ?_
                refine lv_iconst (v := 1) hx hb dX5_chooseFrom_137 (by decide) ?_
                refine lv_iload hx hb dX5_chooseFrom_138 (lv_at hl 1 rfl) ?_
                refine lv_ishl hx hb dX5_chooseFrom_140 ?_
                refine tk_say (P := fun z => 1 ≤ z.toInt ∧ z.toInt ≤ 1024) (tk_shl1 v491 (by omega) (by omega)) (fun v952 h_v952 => ?_)
                refine lv_ior hx hb dX5_chooseFrom_141 ?_
                refine tk_any (fun v953 => ?_)
                refine lv_iload_n hx hb dX5_chooseFrom_142 rfl (lv_at hl 5 rfl) ?_
                refine lv_iload hx hb dX5_chooseFrom_143 (lv_at hl 0 rfl) ?_
                have hj957 : ∀ (v956 : Int32), 0 ≤ v956.toInt → v956.toInt ≤ 1 → ∀ ls : Array Slot, lv_has ls 7 [(6, .int v948), (5, .int v491), (0, .ref a0), (1, .int 4), (2, .int p2), (3, .int p3), (4, .int p4)] → W p l e ({ frames := 8, cells := 0, slots := 0, locals := 490 }) s m args below meth c H locs 0 0 (MQ below (tv D cy ld t [] (fun H => True) (tk_w t [(20, 0, 0), (6, 0, 0)])) args s 0 0 (tk_w t [(20, 0, 0), (6, 0, 0)])) (F0 m 153 ls [.int v956, .int p3, .int v953, .int 5, .ref a0]) := by
                  intro v956 hq0_j957 hq1_j957 ls hl
                  refine lv_iadd hx hb dX5_chooseFrom_153 ?_
                  obtain ⟨v958, hm_v958⟩ : ∃ z : Int32, p3 + v956 = z := ⟨_, rfl⟩
                  refine fx_ti hm_v958 ?_
                  refine lv_iload hx hb dX5_chooseFrom_154 (lv_at hl 6 rfl) ?_
                  refine lv_iload hx hb dX5_chooseFrom_156 (lv_at hl 0 rfl) ?_
                  have hj962 : ∀ (v961 : Int32), 0 ≤ v961.toInt → v961.toInt ≤ 1 → ∀ ls : Array Slot, lv_has ls 7 [(5, .int v491), (0, .ref a0), (1, .int 4), (2, .int p2), (3, .int p3), (4, .int p4)] → W p l e ({ frames := 8, cells := 0, slots := 0, locals := 490 }) s m args below meth c H locs 0 0 (MQ below (tv D cy ld t [] (fun H => True) (tk_w t [(20, 0, 0), (6, 0, 0)])) args s 0 0 (tk_w t [(20, 0, 0), (6, 0, 0)])) (F0 m 166 ls [.int v961, .int p4, .int v958, .int v953, .int 5, .ref a0]) := by
                    intro v961 hq0_j962 hq1_j962 ls hl
                    refine lv_iadd hx hb dX5_chooseFrom_166 ?_
                    obtain ⟨v963, hm_v963⟩ : ∃ z : Int32, p4 + v961 = z := ⟨_, rfl⟩
                    refine fx_ti hm_v963 ?_
                    have hk_5 : (5 : Int32).toInt = 5 := by decide
                    refine tk_Vv (As := [.int 5, .int v953, .int v958, .int v963]) (rest := []) (ci := 5) ⟨hx, hb, hml, hown, hts⟩ hK hG hZ hS (k_X5_chooseFrom_5 l D cy ld t a0 v953 v958 v963 ht_a0) trivial ⟨callB_of 4 hts (wl_in mw_1427) rfl rfl rfl (htl _ mw_40) (htl _ mw_1424) hd_yX5_chooseFrom ⟨(Nat.le_of_ble_eq_true rfl), (Nat.le_of_ble_eq_true rfl)⟩, htl _ mw_1425, htl _ mw_1426⟩ ht_a0 (by decide) tk_no rfl (tk_w.pick [0, 1] rfl) rfl hl.1 rfl (Nat.le_of_ble_eq_true rfl) dX5_chooseFrom_167 ⟨(Nat.le_of_ble_eq_true rfl), (Nat.le_of_ble_eq_true rfl)⟩ (fun H locs hpo hG hS hq9 => ?_)
                    have hf2 := hf2.call hq9 (tk_w.no ht_ld20 (by decide))
                    exact hj939 _ _ hG hS hf2 _ (lv_sub hl [0, 1, 2, 3, 4, 5] rfl)
                  refine lv_if_ge (tgt := 165) hx hb dX5_chooseFrom_158 (by decide) (fun c9 => ?_) (fun c9 => ?_)
                  · have hc959 : 0 ≤ v948.toInt := (fi_le (by decide) rfl).mp c9
                    refine lv_iconst (v := 0) hx hb dX5_chooseFrom_165 (by decide) ?_
                    have hk_0 : (0 : Int32).toInt = 0 := by decide
                    exact hj962 0 (by omega) (by omega) _ (lv_sub hl [1, 2, 3, 4, 5, 6] rfl)
                  · have hc959 : ¬ (0 ≤ v948.toInt) := fun h9 => c9 ((fi_le (by decide) rfl).mpr h9)
                    refine lv_iconst (v := 1) hx hb dX5_chooseFrom_161 (by decide) ?_
                    refine lv_goto (tgt := 166) hx hb dX5_chooseFrom_162 (by decide) ?_
                    have hk_1 : (1 : Int32).toInt = 1 := by decide
                    exact hj962 1 (by omega) (by omega) _ (lv_sub hl [1, 2, 3, 4, 5, 6] rfl)
                refine lv_if_le (tgt := 152) hx hb dX5_chooseFrom_145 (by decide) (fun c9 => ?_) (fun c9 => ?_)
                · have hc954 : v948.toInt ≤ 0 := (fi_le rfl (by decide)).mp c9
                  refine lv_iconst (v := 0) hx hb dX5_chooseFrom_152 (by decide) ?_
                  have hk_0 : (0 : Int32).toInt = 0 := by decide
                  exact hj957 0 (by omega) (by omega) _ (lv_sub hl [0, 1, 2, 3, 4, 5, 6] rfl)
                · have hc954 : ¬ (v948.toInt ≤ 0) := fun h9 => c9 ((fi_le rfl (by decide)).mpr h9)
                  refine lv_iconst (v := 1) hx hb dX5_chooseFrom_148 (by decide) ?_
                  refine lv_goto (tgt := 153) hx hb dX5_chooseFrom_149 (by decide) ?_
                  have hk_1 : (1 : Int32).toInt = 1 := by decide
                  exact hj957 1 (by omega) (by omega) _ (lv_sub hl [0, 1, 2, 3, 4, 5, 6] rfl)
      have hk_0 : (0 : Int32).toInt = 0 := by decide
      exact hl905 9 0 _ _ (by omega) (by omega) (by omega) hG hS hf2 _ (lv_sub hl [0, 1, 2, 3, 4, 5] rfl)
  · have hc4 : ¬ (4 < v3.toInt) := fun h9 => c9 ((fi_lt (by decide) rfl).mpr h9)
    refine lv_iload_n hx hb dX5_chooseFrom_11 rfl (lv_at hl 3 rfl) ?_
    refine lv_aload_n hx hb dX5_chooseFrom_12 rfl (lv_at hl 0 rfl) ?_
    refine tk_get (ci := 5) (C := RX5) (T := TX5) (N := 11) (sp := (0, (-2147483648), 2147483647, 0)) hx hb htl inX5 hown hK hG ht_a0 (by decide) tk_no rfl 9 (by decide) (htl _ mw_1421) (fun _ h9 => h9) rfl dX5_chooseFrom_13 (fun v9 hf965 hV9 => ?_)
    obtain ⟨v966, rfl, ha_v966, hb_v966⟩ := hV9
    have hj994 : ∀ (H : Heap) (locs : List Loc), tk_G D cy ld t [] H → va_S (tk_w t [(20, 0, 0), (6, 0, 0)]) s.heap H locs → tk_f D H (ld 20) 2 0 (.int v3) → ∀ ls : Array Slot, lv_has ls 7 [] → W p l e ({ frames := 8, cells := 0, slots := 0, locals := 490 }) s m args below meth c H locs 0 0 (MQ below (tv D cy ld t [] (fun H => True) (tk_w t [(20, 0, 0), (6, 0, 0)])) args s 0 0 (tk_w t [(20, 0, 0), (6, 0, 0)])) (F0 m 62 ls []) := by
      intro H locs hG hS hf2 ls hl
      exact tk_vret hx hb hr hlocks trivial hG hS dX5_chooseFrom_62
    refine lv_icmp_gt (tgt := 36) hx hb dX5_chooseFrom_16 (by decide) (fun c9 => ?_) (fun c9 => ?_)
    · have hc967 : v966.toInt < p3.toInt := (fi_lt rfl rfl).mp c9
      refine lv_aload_n hx hb dX5_chooseFrom_36 rfl (lv_at hl 0 rfl) ?_
      refine lv_iload_n hx hb dX5_chooseFrom_37 rfl (lv_at hl 3 rfl) ?_
      refine tk_put (ci := 5) (v := .int p3) (ty := .int) (C := RX5) (T := TX5) (N := 11) (sp := (0, (-2147483648), 2147483647, 0)) hx hb htl inX5 tyX5 tyX5_ok nmX5 hown hK hG hS ht_a0 (by decide) tk_no rfl 9 (by decide) (htl _ mw_1421) (fun _ h9 => h9) rfl (tyX5_ok 9 (by decide)) rfl rfl rfl (tk_Vi (tk_rng _).1 (tk_rng _).2) (fun _ h => h) (tk_w.of ht_a0 (by decide) (List.mem_of_getElem? (i := 1) rfl) (Nat.le_refl _) (Nat.le_refl _)) dX5_chooseFrom_38 (fun H locs hG hS hf995 hq9 hj9 => ?_)
      have hf2 := hf2.kept (hq9 _ (tk_ne ht_ld20 ht_a0 (Or.inl (by decide))))
      refine lv_aload_n hx hb dX5_chooseFrom_41 rfl (lv_at hl 0 rfl) ?_
      refine lv_iload hx hb dX5_chooseFrom_42 (lv_at hl 4 rfl) ?_
      refine tk_put (ci := 5) (v := .int p4) (ty := .int) (C := RX5) (T := TX5) (N := 11) (sp := (0, (-2147483648), 2147483647, 0)) hx hb htl inX5 tyX5 tyX5_ok nmX5 hown hK hG hS ht_a0 (by decide) tk_no rfl 10 (by decide) (htl _ mw_1422) (fun _ h9 => h9) rfl (tyX5_ok 10 (by decide)) rfl rfl rfl (tk_Vi (tk_rng _).1 (tk_rng _).2) (fun _ h => h) (tk_w.of ht_a0 (by decide) (List.mem_of_getElem? (i := 1) rfl) (Nat.le_refl _) (Nat.le_refl _)) dX5_chooseFrom_44 (fun H locs hG hS hf997 hq9 hj9 => ?_)
      have hf2 := hf2.kept (hq9 _ (tk_ne ht_ld20 ht_a0 (Or.inl (by decide))))
      refine lv_aload_n hx hb dX5_chooseFrom_47 rfl (lv_at hl 0 rfl) ?_
      refine tk_get (ci := 5) (C := RX5) (T := TX5) (N := 11) (sp := (6, 20, 8, 0)) hx hb htl inX5 hown hK hG ht_a0 (by decide) tk_no rfl 7 (by decide) (htl _ mw_153) (fun _ h9 => h9) rfl dX5_chooseFrom_48 (fun v9 hf999 hV9 => ?_)
      obtain ⟨b1000, rfl, ht_b1000⟩ := hV9
      have ht_b1000 : t b1000 = (20, 8, 0) := ht_b1000
      refine lv_iconst (v := 0) hx hb dX5_chooseFrom_51 (by decide) ?_
      refine lv_aload_n hx hb dX5_chooseFrom_52 rfl (lv_at hl 0 rfl) ?_
      refine tk_get (ci := 5) (C := RX5) (T := TX5) (N := 11) (sp := (6, 20, 8, 0)) hx hb htl inX5 hown hK hG ht_a0 (by decide) tk_no rfl 8 (by decide) (htl _ mw_154) (fun _ h9 => h9) rfl dX5_chooseFrom_53 (fun v9 hf1001 hV9 => ?_)
      obtain ⟨b1002, rfl, ht_b1002⟩ := hV9
      have ht_b1002 : t b1002 = (20, 8, 0) := ht_b1002
      refine lv_iconst (v := 0) hx hb dX5_chooseFrom_56 (by decide) ?_
      refine lv_bipush (v := 8) hx hb dX5_chooseFrom_57 (by decide) ?_
      refine tk_copy (SP := 0) (DP := 0) (NC := 8) hx hb (by rw [hml]; exact hl.1.symm) hown (htl _ mw_1428) (htl _ mw_655) (htl _ mw_656) (htl _ mw_657) hK hG hS ht_b1000 ht_b1002 (by decide) (by decide) (fun _ h => h) (fun _ => Iff.rfl) tk_no tk_no (by decide) (by decide) (by decide) (by decide) (by decide) (by decide) (by decide) (by decide) (fun _ _ _ _ _ => trivial) (tk_w.of ht_b1002 (by decide) (List.mem_of_getElem? (i := 0) rfl) (Nat.le_refl _) (Nat.le_refl _)) (Nat.le_of_ble_eq_true rfl) (Nat.le_of_ble_eq_true rfl) dX5_chooseFrom_59 (fun H locs hG hS hq9 => ?_)
      have hf2 := hf2.kept (hq9 _ (tk_ne ht_ld20 ht_b1002 (Or.inl (by decide))))
      exact hj994 _ _ hG hS hf2 _ (lv_sub hl [] rfl)
    · have hc967 : ¬ (v966.toInt < p3.toInt) := fun h9 => c9 ((fi_lt rfl rfl).mpr h9)
      refine lv_iload_n hx hb dX5_chooseFrom_19 rfl (lv_at hl 3 rfl) ?_
      refine lv_aload_n hx hb dX5_chooseFrom_20 rfl (lv_at hl 0 rfl) ?_
      refine tk_get (ci := 5) (C := RX5) (T := TX5) (N := 11) (sp := (0, (-2147483648), 2147483647, 0)) hx hb htl inX5 hown hK hG ht_a0 (by decide) tk_no rfl 9 (by decide) (htl _ mw_1421) (fun _ h9 => h9) rfl dX5_chooseFrom_21 (fun v9 hf1004 hV9 => ?_)
      obtain ⟨v1005, rfl, ha_v1005, hb_v1005⟩ := hV9
      refine lv_icmp_ne (tgt := 62) hx hb dX5_chooseFrom_24 (by decide) (fun c9 => ?_) (fun c9 => ?_)
      · have hc1006 : ¬ (p3.toInt = v1005.toInt) := fun h9 => c9 ((fi_eq rfl rfl).mpr h9)
        exact hj994 _ _ hG hS hf2 _ (lv_sub hl [] rfl)
      · have hc1006 : p3.toInt = v1005.toInt := (fi_eq rfl rfl).mp c9
        refine lv_iload hx hb dX5_chooseFrom_27 (lv_at hl 4 rfl) ?_
        refine lv_aload_n hx hb dX5_chooseFrom_29 rfl (lv_at hl 0 rfl) ?_
        refine tk_get (ci := 5) (C := RX5) (T := TX5) (N := 11) (sp := (0, (-2147483648), 2147483647, 0)) hx hb htl inX5 hown hK hG ht_a0 (by decide) tk_no rfl 10 (by decide) (htl _ mw_1422) (fun _ h9 => h9) rfl dX5_chooseFrom_30 (fun v9 hf1007 hV9 => ?_)
        obtain ⟨v1008, rfl, ha_v1008, hb_v1008⟩ := hV9
        refine lv_icmp_ge (tgt := 62) hx hb dX5_chooseFrom_33 (by decide) (fun c9 => ?_) (fun c9 => ?_)
        · have hc1009 : v1008.toInt ≤ p4.toInt := (fi_le rfl rfl).mp c9
          exact hj994 _ _ hG hS hf2 _ (lv_sub hl [] rfl)
        · have hc1009 : ¬ (v1008.toInt ≤ p4.toInt) := fun h9 => c9 ((fi_le rfl rfl).mpr h9)
          refine lv_aload_n hx hb dX5_chooseFrom_36 rfl (lv_at hl 0 rfl) ?_
          refine lv_iload_n hx hb dX5_chooseFrom_37 rfl (lv_at hl 3 rfl) ?_
          refine tk_put (ci := 5) (v := .int p3) (ty := .int) (C := RX5) (T := TX5) (N := 11) (sp := (0, (-2147483648), 2147483647, 0)) hx hb htl inX5 tyX5 tyX5_ok nmX5 hown hK hG hS ht_a0 (by decide) tk_no rfl 9 (by decide) (htl _ mw_1421) (fun _ h9 => h9) rfl (tyX5_ok 9 (by decide)) rfl rfl rfl (tk_Vi (tk_rng _).1 (tk_rng _).2) (fun _ h => h) (tk_w.of ht_a0 (by decide) (List.mem_of_getElem? (i := 1) rfl) (Nat.le_refl _) (Nat.le_refl _)) dX5_chooseFrom_38 (fun H locs hG hS hf1010 hq9 hj9 => ?_)
          have hf2 := hf2.kept (hq9 _ (tk_ne ht_ld20 ht_a0 (Or.inl (by decide))))
          refine lv_aload_n hx hb dX5_chooseFrom_41 rfl (lv_at hl 0 rfl) ?_
          refine lv_iload hx hb dX5_chooseFrom_42 (lv_at hl 4 rfl) ?_
          refine tk_put (ci := 5) (v := .int p4) (ty := .int) (C := RX5) (T := TX5) (N := 11) (sp := (0, (-2147483648), 2147483647, 0)) hx hb htl inX5 tyX5 tyX5_ok nmX5 hown hK hG hS ht_a0 (by decide) tk_no rfl 10 (by decide) (htl _ mw_1422) (fun _ h9 => h9) rfl (tyX5_ok 10 (by decide)) rfl rfl rfl (tk_Vi (tk_rng _).1 (tk_rng _).2) (fun _ h => h) (tk_w.of ht_a0 (by decide) (List.mem_of_getElem? (i := 1) rfl) (Nat.le_refl _) (Nat.le_refl _)) dX5_chooseFrom_44 (fun H locs hG hS hf1012 hq9 hj9 => ?_)
          have hf2 := hf2.kept (hq9 _ (tk_ne ht_ld20 ht_a0 (Or.inl (by decide))))
          refine lv_aload_n hx hb dX5_chooseFrom_47 rfl (lv_at hl 0 rfl) ?_
          refine tk_get (ci := 5) (C := RX5) (T := TX5) (N := 11) (sp := (6, 20, 8, 0)) hx hb htl inX5 hown hK hG ht_a0 (by decide) tk_no rfl 7 (by decide) (htl _ mw_153) (fun _ h9 => h9) rfl dX5_chooseFrom_48 (fun v9 hf1014 hV9 => ?_)
          obtain ⟨b1015, rfl, ht_b1015⟩ := hV9
          have ht_b1015 : t b1015 = (20, 8, 0) := ht_b1015
          refine lv_iconst (v := 0) hx hb dX5_chooseFrom_51 (by decide) ?_
          refine lv_aload_n hx hb dX5_chooseFrom_52 rfl (lv_at hl 0 rfl) ?_
          refine tk_get (ci := 5) (C := RX5) (T := TX5) (N := 11) (sp := (6, 20, 8, 0)) hx hb htl inX5 hown hK hG ht_a0 (by decide) tk_no rfl 8 (by decide) (htl _ mw_154) (fun _ h9 => h9) rfl dX5_chooseFrom_53 (fun v9 hf1016 hV9 => ?_)
          obtain ⟨b1017, rfl, ht_b1017⟩ := hV9
          have ht_b1017 : t b1017 = (20, 8, 0) := ht_b1017
          refine lv_iconst (v := 0) hx hb dX5_chooseFrom_56 (by decide) ?_
          refine lv_bipush (v := 8) hx hb dX5_chooseFrom_57 (by decide) ?_
          refine tk_copy (SP := 0) (DP := 0) (NC := 8) hx hb (by rw [hml]; exact hl.1.symm) hown (htl _ mw_1428) (htl _ mw_655) (htl _ mw_656) (htl _ mw_657) hK hG hS ht_b1015 ht_b1017 (by decide) (by decide) (fun _ h => h) (fun _ => Iff.rfl) tk_no tk_no (by decide) (by decide) (by decide) (by decide) (by decide) (by decide) (by decide) (by decide) (fun _ _ _ _ _ => trivial) (tk_w.of ht_b1017 (by decide) (List.mem_of_getElem? (i := 0) rfl) (Nat.le_refl _) (Nat.le_refl _)) (Nat.le_of_ble_eq_true rfl) (Nat.le_of_ble_eq_true rfl) dX5_chooseFrom_59 (fun H locs hG hS hq9 => ?_)
          have hf2 := hf2.kept (hq9 _ (tk_ne ht_ld20 ht_b1017 (Or.inl (by decide))))
          exact hj994 _ _ hG hS hf2 _ (lv_sub hl [] rfl)
set_option maxHeartbeats 4000000 in
set_option maxRecDepth 100000 in
theorem k_X5_chooseFrom_3 (l : Launch) (D : va_G) (cy : Nat → ClassId) (ld : Nat → Nat) (t : tk_T) (a0 : Nat) (p2 : Int32) (p3 : Int32) (p4 : Int32) (ht_a0 : t a0 = (6, 0, 0)) : Met l yX5_chooseFrom (wl yX5_chooseFrom cX5_chooseFrom 7 none) ({ frames := 9, cells := 0, slots := 0, locals := 560 }) (tp D cy ld t [] [.ref a0, .int 3, .int p2, .int p3, .int p4] (fun H => True)) (tv D cy ld t [] (fun H => True) (tk_w t [(20, 0, 0), (6, 0, 0)])) 0 0 (tk_w t [(20, 0, 0), (6, 0, 0)]) := by
  refine tk_met (y := yX5_chooseFrom) (cc := cX5_chooseFrom) (maxL := 7) (ret := none) (av := [.ref a0, .int 3, .int p2, .int p3, .int p4]) _ _ (by decide) (Nat.le_of_ble_eq_true rfl) ?_
  intro p e s m args below meth c hx hb hr hml hts htl hown hlocks hK H locs hH hG hS hB hZ ls hl
  have hown : s.vm.findClass RX5 = some m.cls := hown
  have hl : lv_has ls 7 [(0, .ref a0), (1, .int 3), (2, .int p2), (3, .int p3), (4, .int p4)] := hl
  have hr_p2 := tk_rng p2
  have hr_p3 := tk_rng p3
  have hr_p4 := tk_rng p4
  refine lv_iload_n hx hb dX5_chooseFrom_0 rfl (lv_at hl 1 rfl) ?_
  refine lv_aload_n hx hb dX5_chooseFrom_1 rfl (lv_at hl 0 rfl) ?_
  refine tk_get (ci := 5) (C := RX5) (T := TX5) (N := 11) (sp := (8, 20, 3, 0)) hx hb htl inX5 hown hK hG ht_a0 (by decide) tk_no rfl 0 (by decide) (htl _ mw_155) (fun _ h9 => h9) rfl dX5_chooseFrom_2 (fun v9 hf1 hV9 => ?_)
  obtain ⟨rfl, ht_ld20⟩ := hV9
  have ht_ld20 : t (ld 20) = (3, 0, 0) := ht_ld20
  refine fx_top (v := .ref (ld 20)) rfl ?_
  refine tk_get (ci := 2) (C := RX2) (T := TX2) (N := 20) (sp := (0, 0, 8, 0)) hx hb htl inX2 hown hK hG ht_ld20 (by decide) tk_no rfl 0 (by decide) (htl _ mw_1419) (fun _ h9 => h9) rfl dX5_chooseFrom_5 (fun v9 hf2 hV9 => ?_)
  obtain ⟨v3, rfl, ha_v3, hb_v3⟩ := hV9
  refine lv_icmp_lt (tgt := 63) hx hb dX5_chooseFrom_8 (by decide) (fun c9 => ?_) (fun c9 => ?_)
  · have hc4 : 3 < v3.toInt := (fi_lt (by decide) rfl).mp c9
    refine lv_aload_n hx hb dX5_chooseFrom_63 rfl (lv_at hl 0 rfl) ?_
    refine tk_get (ci := 5) (C := RX5) (T := TX5) (N := 11) (sp := (8, 20, 3, 0)) hx hb htl inX5 hown hK hG ht_a0 (by decide) tk_no rfl 0 (by decide) (htl _ mw_155) (fun _ h9 => h9) rfl dX5_chooseFrom_64 (fun v9 hf5 hV9 => ?_)
    obtain ⟨rfl, ht_ld20⟩ := hV9
    have ht_ld20 : t (ld 20) = (3, 0, 0) := ht_ld20
    refine fx_top (v := .ref (ld 20)) rfl ?_
    refine tk_get (ci := 2) (C := RX2) (T := TX2) (N := 20) (sp := (1, 21, 8, 0)) hx hb htl inX2 hown hK hG ht_ld20 (by decide) tk_no rfl 2 (by decide) (htl _ mw_1420) (fun _ h9 => h9) rfl dX5_chooseFrom_67 (fun v9 hf6 hV9 => ?_)
    obtain ⟨b7, rfl, ht_b7⟩ := hV9
    have ht_b7 : t b7 = (21, 8, 0) := ht_b7
    refine lv_iload_n hx hb dX5_chooseFrom_70 rfl (lv_at hl 1 rfl) ?_
    refine tk_iald hx hb hK hG ht_b7 (by decide) (fun _ h => h) tk_no (I := 3) (by decide) (by decide) (by decide) dX5_chooseFrom_71 (fun v8 hE9 _ => ?_)
    have he_v8 : 0 ≤ v8.toInt ∧ v8.toInt ≤ 1 := hE9
    have hj486 : ∀ (H : Heap) (locs : List Loc), tk_G D cy ld t [] H → va_S (tk_w t [(20, 0, 0), (6, 0, 0)]) s.heap H locs → tk_f D H (ld 20) 2 0 (.int v3) → ∀ ls : Array Slot, lv_has ls 7 [(0, .ref a0), (1, .int 3), (2, .int p2), (3, .int p3), (4, .int p4)] → W p l e ({ frames := 9, cells := 0, slots := 0, locals := 560 }) s m args below meth c H locs 0 0 (MQ below (tv D cy ld t [] (fun H => True) (tk_w t [(20, 0, 0), (6, 0, 0)])) args s 0 0 (tk_w t [(20, 0, 0), (6, 0, 0)])) (F0 m 176 ls []) := by
      intro H locs hG hS hf2 ls hl
      refine lv_aload_n hx hb dX5_chooseFrom_176 rfl (lv_at hl 0 rfl) ?_
      refine tk_get (ci := 5) (C := RX5) (T := TX5) (N := 11) (sp := (6, 20, 8, 0)) hx hb htl inX5 hown hK hG ht_a0 (by decide) tk_no rfl 7 (by decide) (htl _ mw_153) (fun _ h9 => h9) rfl dX5_chooseFrom_177 (fun v9 hf487 hV9 => ?_)
      obtain ⟨b488, rfl, ht_b488⟩ := hV9
      have ht_b488 : t b488 = (20, 8, 0) := ht_b488
      refine lv_iload_n hx hb dX5_chooseFrom_180 rfl (lv_at hl 1 rfl) ?_
      refine lv_bipush (v := 100) hx hb dX5_chooseFrom_181 (by decide) ?_
      refine tk_iast hx hb hK hG hS ht_b488 (by decide) (fun _ => Iff.rfl) tk_no (I := 3) (by decide) (by decide) (by decide) trivial (tk_w.of ht_b488 (by decide) (List.mem_of_getElem? (i := 0) rfl) (Nat.le_refl _) (Nat.le_refl _)) dX5_chooseFrom_183 (fun H locs hG hS hq9 => ?_)
      have hf2 := hf2.kept (hq9 _ (tk_ne ht_ld20 ht_b488 (Or.inl (by decide))))
      refine lv_aload_n hx hb dX5_chooseFrom_184 rfl (lv_at hl 0 rfl) ?_
      refine lv_iload_n hx hb dX5_chooseFrom_185 rfl (lv_at hl 1 rfl) ?_
      refine lv_iconst (v := 1) hx hb dX5_chooseFrom_186 (by decide) ?_
      refine lv_iadd hx hb dX5_chooseFrom_187 ?_
      refine fx_ti (v := 4) (by decide) ?_
      refine lv_iload_n hx hb dX5_chooseFrom_188 rfl (lv_at hl 2 rfl) ?_
      refine lv_iload_n hx hb dX5_chooseFrom_189 rfl (lv_at hl 3 rfl) ?_
      refine lv_iload hx hb dX5_chooseFrom_190 (lv_at hl 4 rfl) ?_
      have hk_4 : (4 : Int32).toInt = 4 := by decide
      refine tk_Vv (As := [.int 4, .int p2, .int p3, .int p4]) (rest := []) (ci := 5) ⟨hx, hb, hml, hown, hts⟩ hK hG hZ hS (k_X5_chooseFrom_4 l D cy ld t a0 p2 p3 p4 ht_a0) trivial ⟨callB_of 4 hts (wl_in mw_1427) rfl rfl rfl (htl _ mw_40) (htl _ mw_1424) hd_yX5_chooseFrom ⟨(Nat.le_of_ble_eq_true rfl), (Nat.le_of_ble_eq_true rfl)⟩, htl _ mw_1425, htl _ mw_1426⟩ ht_a0 (by decide) tk_no rfl (tk_w.pick [0, 1] rfl) rfl hl.1 rfl (Nat.le_of_ble_eq_true rfl) dX5_chooseFrom_192 ⟨(Nat.le_of_ble_eq_true rfl), (Nat.le_of_ble_eq_true rfl)⟩ (fun H locs hpo hG hS hq9 => ?_)
      have hf2 := hf2.call hq9 (tk_w.no ht_ld20 (by decide))
      exact tk_vret hx hb hr hlocks trivial hG hS dX5_chooseFrom_195
    refine lv_if_ne (tgt := 176) hx hb dX5_chooseFrom_72 (by decide) (fun c9 => ?_) (fun c9 => ?_)
    · have hc9 : ¬ (v8.toInt = 0) := fun h9 => c9 ((fi_eq rfl (by decide)).mpr h9)
      exact hj486 _ _ hG hS hf2 _ (lv_sub hl [0, 1, 2, 3, 4] rfl)
    · have hc9 : v8.toInt = 0 := (fi_eq rfl (by decide)).mp c9
      refine lv_iconst (v := 0) hx hb dX5_chooseFrom_75 (by decide) ?_
      refine lv_istore (lv' := [(5, .int 0), (0, .ref a0), (1, .int 3), (2, .int p2), (3, .int p3), (4, .int p4)]) hx hb dX5_chooseFrom_76 hl (by decide) rfl (fun ls hl => ?_)
      have hl905 : ∀ (N : Nat) (v491 : Int32) (H : Heap) (locs : List Loc), v491.toInt ≤ 8 → 0 ≤ v491.toInt → (-1) * v491.toInt + 8 < (N : Int) → tk_G D cy ld t [] H → va_S (tk_w t [(20, 0, 0), (6, 0, 0)]) s.heap H locs → tk_f D H (ld 20) 2 0 (.int v3) → ∀ ls : Array Slot, lv_has ls 7 [(5, .int v491), (0, .ref a0), (1, .int 3), (2, .int p2), (3, .int p3), (4, .int p4)] → W p l e ({ frames := 9, cells := 0, slots := 0, locals := 560 }) s m args below meth c H locs 0 0 (MQ below (tv D cy ld t [] (fun H => True) (tk_w t [(20, 0, 0), (6, 0, 0)])) args s 0 0 (tk_w t [(20, 0, 0), (6, 0, 0)])) (F0 m 78 ls []) := by
        intro N
        induction N with
        | zero => intro v491 H locs hq0_l905 hq1_l905 hm_l905 hG hS hf2 ls hl; exfalso; omega
        | succ N ih =>
          intro v491 H locs hq0_l905 hq1_l905 hm_l905 hG hS hf2 ls hl
          refine lv_iload hx hb dX5_chooseFrom_78 (lv_at hl 0 rfl) ?_
          refine lv_aload_n hx hb dX5_chooseFrom_80 rfl (lv_at hl 1 rfl) ?_
          refine tk_get (ci := 5) (C := RX5) (T := TX5) (N := 11) (sp := (8, 20, 3, 0)) hx hb htl inX5 hown hK hG ht_a0 (by decide) tk_no rfl 0 (by decide) (htl _ mw_155) (fun _ h9 => h9) rfl dX5_chooseFrom_81 (fun v9 hf906 hV9 => ?_)
          obtain ⟨rfl, ht_ld20⟩ := hV9
          have ht_ld20 : t (ld 20) = (3, 0, 0) := ht_ld20
          refine fx_top (v := .ref (ld 20)) rfl ?_
          refine tk_getk (ci := 2) (C := RX2) (T := TX2) (N := 20) (sp := (0, 0, 8, 0)) hx hb htl inX2 hown hK hG ht_ld20 (by decide) tk_no rfl 0 (by decide) (htl _ mw_1419) (fun _ h9 => h9) rfl hf2 dX5_chooseFrom_84 ?_
          refine lv_icmp_ge (tgt := 176) hx hb dX5_chooseFrom_87 (by decide) (fun c9 => ?_) (fun c9 => ?_)
          · have hc907 : v3.toInt ≤ v491.toInt := (fi_le rfl rfl).mp c9
            exact hj486 _ _ hG hS hf2 _ (lv_sub hl [1, 2, 3, 4, 5] rfl)
          · have hc907 : ¬ (v3.toInt ≤ v491.toInt) := fun h9 => c9 ((fi_le rfl rfl).mpr h9)
            refine lv_aload_n hx hb dX5_chooseFrom_90 rfl (lv_at hl 1 rfl) ?_
            refine tk_get (ci := 5) (C := RX5) (T := TX5) (N := 11) (sp := (8, 20, 3, 0)) hx hb htl inX5 hown hK hG ht_a0 (by decide) tk_no rfl 0 (by decide) (htl _ mw_155) (fun _ h9 => h9) rfl dX5_chooseFrom_91 (fun v9 hf908 hV9 => ?_)
            obtain ⟨rfl, ht_ld20⟩ := hV9
            have ht_ld20 : t (ld 20) = (3, 0, 0) := ht_ld20
            refine fx_top (v := .ref (ld 20)) rfl ?_
            refine tk_get (ci := 2) (C := RX2) (T := TX2) (N := 20) (sp := (1, 21, 8, 0)) hx hb htl inX2 hown hK hG ht_ld20 (by decide) tk_no rfl 2 (by decide) (htl _ mw_1420) (fun _ h9 => h9) rfl dX5_chooseFrom_94 (fun v9 hf909 hV9 => ?_)
            obtain ⟨b910, rfl, ht_b910⟩ := hV9
            have ht_b910 : t b910 = (21, 8, 0) := ht_b910
            refine lv_iload hx hb dX5_chooseFrom_97 (lv_at hl 0 rfl) ?_
            refine tk_iald hx hb hK hG ht_b910 (by decide) (fun _ h => h) tk_no rfl (by omega) (by omega) dX5_chooseFrom_99 (fun v911 hE9 _ => ?_)
            have he_v911 : 0 ≤ v911.toInt ∧ v911.toInt ≤ 1 := hE9
            refine lv_iconst (v := 1) hx hb dX5_chooseFrom_100 (by decide) ?_
            have hj939 : ∀ (H : Heap) (locs : List Loc), tk_G D cy ld t [] H → va_S (tk_w t [(20, 0, 0), (6, 0, 0)]) s.heap H locs → tk_f D H (ld 20) 2 0 (.int v3) → ∀ ls : Array Slot, lv_has ls 7 [(5, .int v491), (0, .ref a0), (1, .int 3), (2, .int p2), (3, .int p3), (4, .int p4)] → W p l e ({ frames := 9, cells := 0, slots := 0, locals := 560 }) s m args below meth c H locs 0 0 (MQ below (tv D cy ld t [] (fun H => True) (tk_w t [(20, 0, 0), (6, 0, 0)])) args s 0 0 (tk_w t [(20, 0, 0), (6, 0, 0)])) (F0 m 170 ls []) := by
              intro H locs hG hS hf2 ls hl
              obtain ⟨v940, h_v940, e_v940⟩ := tk_inc v491 1 (by decide) (by omega) (by omega)
              refine lv_iinc (v := v940) (lv' := [(5, .int v940), (0, .ref a0), (1, .int 3), (2, .int p2), (3, .int p3), (4, .int p4)]) hx hb dX5_chooseFrom_170 hl (k := 0) rfl e_v940 (by decide) rfl (fun ls hl => ?_)
              refine lv_goto (tgt := 78) hx hb dX5_chooseFrom_173 (by decide) ?_
              exact ih v940 _ _ (by omega) (by omega) (by omega) hG hS hf2 _ (lv_sub hl [0, 1, 2, 3, 4, 5] rfl)
            refine lv_icmp_ne (tgt := 170) hx hb dX5_chooseFrom_101 (by decide) (fun c9 => ?_) (fun c9 => ?_)
            · have hc912 : ¬ (v911.toInt = 1) := fun h9 => c9 ((fi_eq rfl (by decide)).mpr h9)
              exact hj939 _ _ hG hS hf2 _ (lv_sub hl [0, 1, 2, 3, 4, 5] rfl)
            · have hc912 : v911.toInt = 1 := (fi_eq rfl (by decide)).mp c9
              refine lv_iload_n hx hb dX5_chooseFrom_104 rfl (lv_at hl 3 rfl) ?_
              refine lv_iload hx hb dX5_chooseFrom_105 (lv_at hl 0 rfl) ?_
              refine lv_ishr hx hb dX5_chooseFrom_107 ?_
              refine tk_any (fun v941 => ?_)
              refine lv_iconst (v := 1) hx hb dX5_chooseFrom_108 (by decide) ?_
              refine lv_iand hx hb dX5_chooseFrom_109 ?_
              refine tk_say (P := fun z => 0 ≤ z.toInt ∧ z.toInt ≤ 1) (tk_and v941 1 (by decide) (by decide)) (fun v942 h_v942 => ?_)
              refine lv_if_ne (tgt := 170) hx hb dX5_chooseFrom_110 (by decide) (fun c9 => ?_) (fun c9 => ?_)
              · have hc943 : ¬ (v942.toInt = 0) := fun h9 => c9 ((fi_eq rfl (by decide)).mpr h9)
                exact hj939 _ _ hG hS hf2 _ (lv_sub hl [0, 1, 2, 3, 4, 5] rfl)
              · have hc943 : v942.toInt = 0 := (fi_eq rfl (by decide)).mp c9
                refine lv_aload_n hx hb dX5_chooseFrom_113 rfl (lv_at hl 1 rfl) ?_
                refine tk_get (ci := 5) (C := RX5) (T := TX5) (N := 11) (sp := (6, 30, 8, 0)) hx hb htl inX5 hown hK hG ht_a0 (by decide) tk_no rfl 6 (by decide) (htl _ mw_152) (fun _ h9 => h9) rfl dX5_chooseFrom_114 (fun v9 hf944 hV9 => ?_)
                obtain ⟨b945, rfl, ht_b945⟩ := hV9
                have ht_b945 : t b945 = (30, 8, 0) := ht_b945
                refine lv_iload_n hx hb dX5_chooseFrom_117 rfl (lv_at hl 2 rfl) ?_
                refine tk_aald hx hb hK hG 6 rfl rfl ht_b945 (by decide) (fun _ h => h) tk_no (I := 3) (by decide) (by decide) (by decide) dX5_chooseFrom_118 (fun o946 ht_o946 => ?_)
                obtain ⟨b947, rfl, ht_b947⟩ := ht_o946
                have ht_b947 : t b947 = (20, 8, 0) := ht_b947
                refine fx_top (v := .ref b947) rfl ?_
                refine lv_iload hx hb dX5_chooseFrom_119 (lv_at hl 0 rfl) ?_
                refine tk_iald hx hb hK hG ht_b947 (by decide) (fun _ h => h) tk_no rfl (by omega) (by omega) dX5_chooseFrom_121 (fun v948 _ _ => ?_)
                have hr_v948 := tk_rng v948
                refine lv_istore (lv' := [(6, .int v948), (5, .int v491), (0, .ref a0), (1, .int 3), (2, .int p2), (3, .int p3), (4, .int p4)]) hx hb dX5_chooseFrom_122 hl (by decide) rfl (fun ls hl => ?_)
                refine lv_aload_n hx hb dX5_chooseFrom_124 rfl (lv_at hl 2 rfl) ?_
                refine tk_get (ci := 5) (C := RX5) (T := TX5) (N := 11) (sp := (6, 20, 8, 0)) hx hb htl inX5 hown hK hG ht_a0 (by decide) tk_no rfl 7 (by decide) (htl _ mw_153) (fun _ h9 => h9) rfl dX5_chooseFrom_125 (fun v9 hf949 hV9 => ?_)
                obtain ⟨b950, rfl, ht_b950⟩ := hV9
                have ht_b950 : t b950 = (20, 8, 0) := ht_b950
                refine lv_iload_n hx hb dX5_chooseFrom_128 rfl (lv_at hl 3 rfl) ?_
                refine lv_iload hx hb dX5_chooseFrom_129 (lv_at hl 1 rfl) ?_
                refine tk_iast hx hb hK hG hS ht_b950 (by decide) (fun _ => Iff.rfl) tk_no (I := 3) (by decide) (by decide) (by decide) trivial (tk_w.of ht_b950 (by decide) (List.mem_of_getElem? (i := 0) rfl) (Nat.le_refl _) (Nat.le_refl _)) dX5_chooseFrom_131 (fun H locs hG hS hq9 => ?_)
                have hf2 := hf2.kept (hq9 _ (tk_ne ht_ld20 ht_b950 (Or.inl (by decide))))
                refine lv_aload_n hx hb dX5_chooseFrom_132 rfl (lv_at hl 2 rfl) ?_
                refine lv_iload_n hx hb dX5_chooseFrom_133 rfl (lv_at hl 3 rfl) ?_
                refine lv_iconst (v := 1) hx hb dX5_chooseFrom_134 (by decide) ?_
                refine lv_iadd hx hb dX5_chooseFrom_135 ?_
                refine fx_ti (v := 4) (by decide) ?_
                refine lv_iload_n hx hb dX5_chooseFrom_136 rfl (lv_at hl 4 rfl) ?_
                refine lv_iconst (v := 1) hx hb dX5_chooseFrom_137 (by decide) ?_
                refine lv_iload hx hb dX5_chooseFrom_138 (lv_at hl 1 rfl) ?_
                refine lv_ishl hx hb dX5_chooseFrom_140 ?_
                refine tk_say (P := fun z => 1 ≤ z.toInt ∧ z.toInt ≤ 1024) (tk_shl1 v491 (by omega) (by omega)) (fun v952 h_v952 => ?_)
                refine lv_ior hx hb dX5_chooseFrom_141 ?_
                refine tk_any (fun v953 => ?_)
                refine lv_iload_n hx hb dX5_chooseFrom_142 rfl (lv_at hl 5 rfl) ?_
                refine lv_iload hx hb dX5_chooseFrom_143 (lv_at hl 0 rfl) ?_
                have hj957 : ∀ (v956 : Int32), 0 ≤ v956.toInt → v956.toInt ≤ 1 → ∀ ls : Array Slot, lv_has ls 7 [(6, .int v948), (5, .int v491), (0, .ref a0), (1, .int 3), (2, .int p2), (3, .int p3), (4, .int p4)] → W p l e ({ frames := 9, cells := 0, slots := 0, locals := 560 }) s m args below meth c H locs 0 0 (MQ below (tv D cy ld t [] (fun H => True) (tk_w t [(20, 0, 0), (6, 0, 0)])) args s 0 0 (tk_w t [(20, 0, 0), (6, 0, 0)])) (F0 m 153 ls [.int v956, .int p3, .int v953, .int 4, .ref a0]) := by
                  intro v956 hq0_j957 hq1_j957 ls hl
                  refine lv_iadd hx hb dX5_chooseFrom_153 ?_
                  obtain ⟨v958, hm_v958⟩ : ∃ z : Int32, p3 + v956 = z := ⟨_, rfl⟩
                  refine fx_ti hm_v958 ?_
                  refine lv_iload hx hb dX5_chooseFrom_154 (lv_at hl 6 rfl) ?_
                  refine lv_iload hx hb dX5_chooseFrom_156 (lv_at hl 0 rfl) ?_
                  have hj962 : ∀ (v961 : Int32), 0 ≤ v961.toInt → v961.toInt ≤ 1 → ∀ ls : Array Slot, lv_has ls 7 [(5, .int v491), (0, .ref a0), (1, .int 3), (2, .int p2), (3, .int p3), (4, .int p4)] → W p l e ({ frames := 9, cells := 0, slots := 0, locals := 560 }) s m args below meth c H locs 0 0 (MQ below (tv D cy ld t [] (fun H => True) (tk_w t [(20, 0, 0), (6, 0, 0)])) args s 0 0 (tk_w t [(20, 0, 0), (6, 0, 0)])) (F0 m 166 ls [.int v961, .int p4, .int v958, .int v953, .int 4, .ref a0]) := by
                    intro v961 hq0_j962 hq1_j962 ls hl
                    refine lv_iadd hx hb dX5_chooseFrom_166 ?_
                    obtain ⟨v963, hm_v963⟩ : ∃ z : Int32, p4 + v961 = z := ⟨_, rfl⟩
                    refine fx_ti hm_v963 ?_
                    have hk_4 : (4 : Int32).toInt = 4 := by decide
                    refine tk_Vv (As := [.int 4, .int v953, .int v958, .int v963]) (rest := []) (ci := 5) ⟨hx, hb, hml, hown, hts⟩ hK hG hZ hS (k_X5_chooseFrom_4 l D cy ld t a0 v953 v958 v963 ht_a0) trivial ⟨callB_of 4 hts (wl_in mw_1427) rfl rfl rfl (htl _ mw_40) (htl _ mw_1424) hd_yX5_chooseFrom ⟨(Nat.le_of_ble_eq_true rfl), (Nat.le_of_ble_eq_true rfl)⟩, htl _ mw_1425, htl _ mw_1426⟩ ht_a0 (by decide) tk_no rfl (tk_w.pick [0, 1] rfl) rfl hl.1 rfl (Nat.le_of_ble_eq_true rfl) dX5_chooseFrom_167 ⟨(Nat.le_of_ble_eq_true rfl), (Nat.le_of_ble_eq_true rfl)⟩ (fun H locs hpo hG hS hq9 => ?_)
                    have hf2 := hf2.call hq9 (tk_w.no ht_ld20 (by decide))
                    exact hj939 _ _ hG hS hf2 _ (lv_sub hl [0, 1, 2, 3, 4, 5] rfl)
                  refine lv_if_ge (tgt := 165) hx hb dX5_chooseFrom_158 (by decide) (fun c9 => ?_) (fun c9 => ?_)
                  · have hc959 : 0 ≤ v948.toInt := (fi_le (by decide) rfl).mp c9
                    refine lv_iconst (v := 0) hx hb dX5_chooseFrom_165 (by decide) ?_
                    have hk_0 : (0 : Int32).toInt = 0 := by decide
                    exact hj962 0 (by omega) (by omega) _ (lv_sub hl [1, 2, 3, 4, 5, 6] rfl)
                  · have hc959 : ¬ (0 ≤ v948.toInt) := fun h9 => c9 ((fi_le (by decide) rfl).mpr h9)
                    refine lv_iconst (v := 1) hx hb dX5_chooseFrom_161 (by decide) ?_
                    refine lv_goto (tgt := 166) hx hb dX5_chooseFrom_162 (by decide) ?_
                    have hk_1 : (1 : Int32).toInt = 1 := by decide
                    exact hj962 1 (by omega) (by omega) _ (lv_sub hl [1, 2, 3, 4, 5, 6] rfl)
                refine lv_if_le (tgt := 152) hx hb dX5_chooseFrom_145 (by decide) (fun c9 => ?_) (fun c9 => ?_)
                · have hc954 : v948.toInt ≤ 0 := (fi_le rfl (by decide)).mp c9
                  refine lv_iconst (v := 0) hx hb dX5_chooseFrom_152 (by decide) ?_
                  have hk_0 : (0 : Int32).toInt = 0 := by decide
                  exact hj957 0 (by omega) (by omega) _ (lv_sub hl [0, 1, 2, 3, 4, 5, 6] rfl)
                · have hc954 : ¬ (v948.toInt ≤ 0) := fun h9 => c9 ((fi_le rfl (by decide)).mpr h9)
                  refine lv_iconst (v := 1) hx hb dX5_chooseFrom_148 (by decide) ?_
                  refine lv_goto (tgt := 153) hx hb dX5_chooseFrom_149 (by decide) ?_
                  have hk_1 : (1 : Int32).toInt = 1 := by decide
                  exact hj957 1 (by omega) (by omega) _ (lv_sub hl [0, 1, 2, 3, 4, 5, 6] rfl)
      have hk_0 : (0 : Int32).toInt = 0 := by decide
      exact hl905 9 0 _ _ (by omega) (by omega) (by omega) hG hS hf2 _ (lv_sub hl [0, 1, 2, 3, 4, 5] rfl)
  · have hc4 : ¬ (3 < v3.toInt) := fun h9 => c9 ((fi_lt (by decide) rfl).mpr h9)
    refine lv_iload_n hx hb dX5_chooseFrom_11 rfl (lv_at hl 3 rfl) ?_
    refine lv_aload_n hx hb dX5_chooseFrom_12 rfl (lv_at hl 0 rfl) ?_
    refine tk_get (ci := 5) (C := RX5) (T := TX5) (N := 11) (sp := (0, (-2147483648), 2147483647, 0)) hx hb htl inX5 hown hK hG ht_a0 (by decide) tk_no rfl 9 (by decide) (htl _ mw_1421) (fun _ h9 => h9) rfl dX5_chooseFrom_13 (fun v9 hf965 hV9 => ?_)
    obtain ⟨v966, rfl, ha_v966, hb_v966⟩ := hV9
    have hj994 : ∀ (H : Heap) (locs : List Loc), tk_G D cy ld t [] H → va_S (tk_w t [(20, 0, 0), (6, 0, 0)]) s.heap H locs → tk_f D H (ld 20) 2 0 (.int v3) → ∀ ls : Array Slot, lv_has ls 7 [] → W p l e ({ frames := 9, cells := 0, slots := 0, locals := 560 }) s m args below meth c H locs 0 0 (MQ below (tv D cy ld t [] (fun H => True) (tk_w t [(20, 0, 0), (6, 0, 0)])) args s 0 0 (tk_w t [(20, 0, 0), (6, 0, 0)])) (F0 m 62 ls []) := by
      intro H locs hG hS hf2 ls hl
      exact tk_vret hx hb hr hlocks trivial hG hS dX5_chooseFrom_62
    refine lv_icmp_gt (tgt := 36) hx hb dX5_chooseFrom_16 (by decide) (fun c9 => ?_) (fun c9 => ?_)
    · have hc967 : v966.toInt < p3.toInt := (fi_lt rfl rfl).mp c9
      refine lv_aload_n hx hb dX5_chooseFrom_36 rfl (lv_at hl 0 rfl) ?_
      refine lv_iload_n hx hb dX5_chooseFrom_37 rfl (lv_at hl 3 rfl) ?_
      refine tk_put (ci := 5) (v := .int p3) (ty := .int) (C := RX5) (T := TX5) (N := 11) (sp := (0, (-2147483648), 2147483647, 0)) hx hb htl inX5 tyX5 tyX5_ok nmX5 hown hK hG hS ht_a0 (by decide) tk_no rfl 9 (by decide) (htl _ mw_1421) (fun _ h9 => h9) rfl (tyX5_ok 9 (by decide)) rfl rfl rfl (tk_Vi (tk_rng _).1 (tk_rng _).2) (fun _ h => h) (tk_w.of ht_a0 (by decide) (List.mem_of_getElem? (i := 1) rfl) (Nat.le_refl _) (Nat.le_refl _)) dX5_chooseFrom_38 (fun H locs hG hS hf995 hq9 hj9 => ?_)
      have hf2 := hf2.kept (hq9 _ (tk_ne ht_ld20 ht_a0 (Or.inl (by decide))))
      refine lv_aload_n hx hb dX5_chooseFrom_41 rfl (lv_at hl 0 rfl) ?_
      refine lv_iload hx hb dX5_chooseFrom_42 (lv_at hl 4 rfl) ?_
      refine tk_put (ci := 5) (v := .int p4) (ty := .int) (C := RX5) (T := TX5) (N := 11) (sp := (0, (-2147483648), 2147483647, 0)) hx hb htl inX5 tyX5 tyX5_ok nmX5 hown hK hG hS ht_a0 (by decide) tk_no rfl 10 (by decide) (htl _ mw_1422) (fun _ h9 => h9) rfl (tyX5_ok 10 (by decide)) rfl rfl rfl (tk_Vi (tk_rng _).1 (tk_rng _).2) (fun _ h => h) (tk_w.of ht_a0 (by decide) (List.mem_of_getElem? (i := 1) rfl) (Nat.le_refl _) (Nat.le_refl _)) dX5_chooseFrom_44 (fun H locs hG hS hf997 hq9 hj9 => ?_)
      have hf2 := hf2.kept (hq9 _ (tk_ne ht_ld20 ht_a0 (Or.inl (by decide))))
      refine lv_aload_n hx hb dX5_chooseFrom_47 rfl (lv_at hl 0 rfl) ?_
      refine tk_get (ci := 5) (C := RX5) (T := TX5) (N := 11) (sp := (6, 20, 8, 0)) hx hb htl inX5 hown hK hG ht_a0 (by decide) tk_no rfl 7 (by decide) (htl _ mw_153) (fun _ h9 => h9) rfl dX5_chooseFrom_48 (fun v9 hf999 hV9 => ?_)
      obtain ⟨b1000, rfl, ht_b1000⟩ := hV9
      have ht_b1000 : t b1000 = (20, 8, 0) := ht_b1000
      refine lv_iconst (v := 0) hx hb dX5_chooseFrom_51 (by decide) ?_
      refine lv_aload_n hx hb dX5_chooseFrom_52 rfl (lv_at hl 0 rfl) ?_
      refine tk_get (ci := 5) (C := RX5) (T := TX5) (N := 11) (sp := (6, 20, 8, 0)) hx hb htl inX5 hown hK hG ht_a0 (by decide) tk_no rfl 8 (by decide) (htl _ mw_154) (fun _ h9 => h9) rfl dX5_chooseFrom_53 (fun v9 hf1001 hV9 => ?_)
      obtain ⟨b1002, rfl, ht_b1002⟩ := hV9
      have ht_b1002 : t b1002 = (20, 8, 0) := ht_b1002
      refine lv_iconst (v := 0) hx hb dX5_chooseFrom_56 (by decide) ?_
      refine lv_bipush (v := 8) hx hb dX5_chooseFrom_57 (by decide) ?_
      refine tk_copy (SP := 0) (DP := 0) (NC := 8) hx hb (by rw [hml]; exact hl.1.symm) hown (htl _ mw_1428) (htl _ mw_655) (htl _ mw_656) (htl _ mw_657) hK hG hS ht_b1000 ht_b1002 (by decide) (by decide) (fun _ h => h) (fun _ => Iff.rfl) tk_no tk_no (by decide) (by decide) (by decide) (by decide) (by decide) (by decide) (by decide) (by decide) (fun _ _ _ _ _ => trivial) (tk_w.of ht_b1002 (by decide) (List.mem_of_getElem? (i := 0) rfl) (Nat.le_refl _) (Nat.le_refl _)) (Nat.le_of_ble_eq_true rfl) (Nat.le_of_ble_eq_true rfl) dX5_chooseFrom_59 (fun H locs hG hS hq9 => ?_)
      have hf2 := hf2.kept (hq9 _ (tk_ne ht_ld20 ht_b1002 (Or.inl (by decide))))
      exact hj994 _ _ hG hS hf2 _ (lv_sub hl [] rfl)
    · have hc967 : ¬ (v966.toInt < p3.toInt) := fun h9 => c9 ((fi_lt rfl rfl).mpr h9)
      refine lv_iload_n hx hb dX5_chooseFrom_19 rfl (lv_at hl 3 rfl) ?_
      refine lv_aload_n hx hb dX5_chooseFrom_20 rfl (lv_at hl 0 rfl) ?_
      refine tk_get (ci := 5) (C := RX5) (T := TX5) (N := 11) (sp := (0, (-2147483648), 2147483647, 0)) hx hb htl inX5 hown hK hG ht_a0 (by decide) tk_no rfl 9 (by decide) (htl _ mw_1421) (fun _ h9 => h9) rfl dX5_chooseFrom_21 (fun v9 hf1004 hV9 => ?_)
      obtain ⟨v1005, rfl, ha_v1005, hb_v1005⟩ := hV9
      refine lv_icmp_ne (tgt := 62) hx hb dX5_chooseFrom_24 (by decide) (fun c9 => ?_) (fun c9 => ?_)
      · have hc1006 : ¬ (p3.toInt = v1005.toInt) := fun h9 => c9 ((fi_eq rfl rfl).mpr h9)
        exact hj994 _ _ hG hS hf2 _ (lv_sub hl [] rfl)
      · have hc1006 : p3.toInt = v1005.toInt := (fi_eq rfl rfl).mp c9
        refine lv_iload hx hb dX5_chooseFrom_27 (lv_at hl 4 rfl) ?_
        refine lv_aload_n hx hb dX5_chooseFrom_29 rfl (lv_at hl 0 rfl) ?_
        refine tk_get (ci := 5) (C := RX5) (T := TX5) (N := 11) (sp := (0, (-2147483648), 2147483647, 0)) hx hb htl inX5 hown hK hG ht_a0 (by decide) tk_no rfl 10 (by decide) (htl _ mw_1422) (fun _ h9 => h9) rfl dX5_chooseFrom_30 (fun v9 hf1007 hV9 => ?_)
        obtain ⟨v1008, rfl, ha_v1008, hb_v1008⟩ := hV9
        refine lv_icmp_ge (tgt := 62) hx hb dX5_chooseFrom_33 (by decide) (fun c9 => ?_) (fun c9 => ?_)
        · have hc1009 : v1008.toInt ≤ p4.toInt := (fi_le rfl rfl).mp c9
          exact hj994 _ _ hG hS hf2 _ (lv_sub hl [] rfl)
        · have hc1009 : ¬ (v1008.toInt ≤ p4.toInt) := fun h9 => c9 ((fi_le rfl rfl).mpr h9)
          refine lv_aload_n hx hb dX5_chooseFrom_36 rfl (lv_at hl 0 rfl) ?_
          refine lv_iload_n hx hb dX5_chooseFrom_37 rfl (lv_at hl 3 rfl) ?_
          refine tk_put (ci := 5) (v := .int p3) (ty := .int) (C := RX5) (T := TX5) (N := 11) (sp := (0, (-2147483648), 2147483647, 0)) hx hb htl inX5 tyX5 tyX5_ok nmX5 hown hK hG hS ht_a0 (by decide) tk_no rfl 9 (by decide) (htl _ mw_1421) (fun _ h9 => h9) rfl (tyX5_ok 9 (by decide)) rfl rfl rfl (tk_Vi (tk_rng _).1 (tk_rng _).2) (fun _ h => h) (tk_w.of ht_a0 (by decide) (List.mem_of_getElem? (i := 1) rfl) (Nat.le_refl _) (Nat.le_refl _)) dX5_chooseFrom_38 (fun H locs hG hS hf1010 hq9 hj9 => ?_)
          have hf2 := hf2.kept (hq9 _ (tk_ne ht_ld20 ht_a0 (Or.inl (by decide))))
          refine lv_aload_n hx hb dX5_chooseFrom_41 rfl (lv_at hl 0 rfl) ?_
          refine lv_iload hx hb dX5_chooseFrom_42 (lv_at hl 4 rfl) ?_
          refine tk_put (ci := 5) (v := .int p4) (ty := .int) (C := RX5) (T := TX5) (N := 11) (sp := (0, (-2147483648), 2147483647, 0)) hx hb htl inX5 tyX5 tyX5_ok nmX5 hown hK hG hS ht_a0 (by decide) tk_no rfl 10 (by decide) (htl _ mw_1422) (fun _ h9 => h9) rfl (tyX5_ok 10 (by decide)) rfl rfl rfl (tk_Vi (tk_rng _).1 (tk_rng _).2) (fun _ h => h) (tk_w.of ht_a0 (by decide) (List.mem_of_getElem? (i := 1) rfl) (Nat.le_refl _) (Nat.le_refl _)) dX5_chooseFrom_44 (fun H locs hG hS hf1012 hq9 hj9 => ?_)
          have hf2 := hf2.kept (hq9 _ (tk_ne ht_ld20 ht_a0 (Or.inl (by decide))))
          refine lv_aload_n hx hb dX5_chooseFrom_47 rfl (lv_at hl 0 rfl) ?_
          refine tk_get (ci := 5) (C := RX5) (T := TX5) (N := 11) (sp := (6, 20, 8, 0)) hx hb htl inX5 hown hK hG ht_a0 (by decide) tk_no rfl 7 (by decide) (htl _ mw_153) (fun _ h9 => h9) rfl dX5_chooseFrom_48 (fun v9 hf1014 hV9 => ?_)
          obtain ⟨b1015, rfl, ht_b1015⟩ := hV9
          have ht_b1015 : t b1015 = (20, 8, 0) := ht_b1015
          refine lv_iconst (v := 0) hx hb dX5_chooseFrom_51 (by decide) ?_
          refine lv_aload_n hx hb dX5_chooseFrom_52 rfl (lv_at hl 0 rfl) ?_
          refine tk_get (ci := 5) (C := RX5) (T := TX5) (N := 11) (sp := (6, 20, 8, 0)) hx hb htl inX5 hown hK hG ht_a0 (by decide) tk_no rfl 8 (by decide) (htl _ mw_154) (fun _ h9 => h9) rfl dX5_chooseFrom_53 (fun v9 hf1016 hV9 => ?_)
          obtain ⟨b1017, rfl, ht_b1017⟩ := hV9
          have ht_b1017 : t b1017 = (20, 8, 0) := ht_b1017
          refine lv_iconst (v := 0) hx hb dX5_chooseFrom_56 (by decide) ?_
          refine lv_bipush (v := 8) hx hb dX5_chooseFrom_57 (by decide) ?_
          refine tk_copy (SP := 0) (DP := 0) (NC := 8) hx hb (by rw [hml]; exact hl.1.symm) hown (htl _ mw_1428) (htl _ mw_655) (htl _ mw_656) (htl _ mw_657) hK hG hS ht_b1015 ht_b1017 (by decide) (by decide) (fun _ h => h) (fun _ => Iff.rfl) tk_no tk_no (by decide) (by decide) (by decide) (by decide) (by decide) (by decide) (by decide) (by decide) (fun _ _ _ _ _ => trivial) (tk_w.of ht_b1017 (by decide) (List.mem_of_getElem? (i := 0) rfl) (Nat.le_refl _) (Nat.le_refl _)) (Nat.le_of_ble_eq_true rfl) (Nat.le_of_ble_eq_true rfl) dX5_chooseFrom_59 (fun H locs hG hS hq9 => ?_)
          have hf2 := hf2.kept (hq9 _ (tk_ne ht_ld20 ht_b1017 (Or.inl (by decide))))
          exact hj994 _ _ hG hS hf2 _ (lv_sub hl [] rfl)
set_option maxHeartbeats 4000000 in
set_option maxRecDepth 100000 in
theorem k_X5_chooseFrom_2 (l : Launch) (D : va_G) (cy : Nat → ClassId) (ld : Nat → Nat) (t : tk_T) (a0 : Nat) (p2 : Int32) (p3 : Int32) (p4 : Int32) (ht_a0 : t a0 = (6, 0, 0)) : Met l yX5_chooseFrom (wl yX5_chooseFrom cX5_chooseFrom 7 none) ({ frames := 10, cells := 0, slots := 0, locals := 630 }) (tp D cy ld t [] [.ref a0, .int 2, .int p2, .int p3, .int p4] (fun H => True)) (tv D cy ld t [] (fun H => True) (tk_w t [(20, 0, 0), (6, 0, 0)])) 0 0 (tk_w t [(20, 0, 0), (6, 0, 0)]) := by
  refine tk_met (y := yX5_chooseFrom) (cc := cX5_chooseFrom) (maxL := 7) (ret := none) (av := [.ref a0, .int 2, .int p2, .int p3, .int p4]) _ _ (by decide) (Nat.le_of_ble_eq_true rfl) ?_
  intro p e s m args below meth c hx hb hr hml hts htl hown hlocks hK H locs hH hG hS hB hZ ls hl
  have hown : s.vm.findClass RX5 = some m.cls := hown
  have hl : lv_has ls 7 [(0, .ref a0), (1, .int 2), (2, .int p2), (3, .int p3), (4, .int p4)] := hl
  have hr_p2 := tk_rng p2
  have hr_p3 := tk_rng p3
  have hr_p4 := tk_rng p4
  refine lv_iload_n hx hb dX5_chooseFrom_0 rfl (lv_at hl 1 rfl) ?_
  refine lv_aload_n hx hb dX5_chooseFrom_1 rfl (lv_at hl 0 rfl) ?_
  refine tk_get (ci := 5) (C := RX5) (T := TX5) (N := 11) (sp := (8, 20, 3, 0)) hx hb htl inX5 hown hK hG ht_a0 (by decide) tk_no rfl 0 (by decide) (htl _ mw_155) (fun _ h9 => h9) rfl dX5_chooseFrom_2 (fun v9 hf1 hV9 => ?_)
  obtain ⟨rfl, ht_ld20⟩ := hV9
  have ht_ld20 : t (ld 20) = (3, 0, 0) := ht_ld20
  refine fx_top (v := .ref (ld 20)) rfl ?_
  refine tk_get (ci := 2) (C := RX2) (T := TX2) (N := 20) (sp := (0, 0, 8, 0)) hx hb htl inX2 hown hK hG ht_ld20 (by decide) tk_no rfl 0 (by decide) (htl _ mw_1419) (fun _ h9 => h9) rfl dX5_chooseFrom_5 (fun v9 hf2 hV9 => ?_)
  obtain ⟨v3, rfl, ha_v3, hb_v3⟩ := hV9
  refine lv_icmp_lt (tgt := 63) hx hb dX5_chooseFrom_8 (by decide) (fun c9 => ?_) (fun c9 => ?_)
  · have hc4 : 2 < v3.toInt := (fi_lt (by decide) rfl).mp c9
    refine lv_aload_n hx hb dX5_chooseFrom_63 rfl (lv_at hl 0 rfl) ?_
    refine tk_get (ci := 5) (C := RX5) (T := TX5) (N := 11) (sp := (8, 20, 3, 0)) hx hb htl inX5 hown hK hG ht_a0 (by decide) tk_no rfl 0 (by decide) (htl _ mw_155) (fun _ h9 => h9) rfl dX5_chooseFrom_64 (fun v9 hf5 hV9 => ?_)
    obtain ⟨rfl, ht_ld20⟩ := hV9
    have ht_ld20 : t (ld 20) = (3, 0, 0) := ht_ld20
    refine fx_top (v := .ref (ld 20)) rfl ?_
    refine tk_get (ci := 2) (C := RX2) (T := TX2) (N := 20) (sp := (1, 21, 8, 0)) hx hb htl inX2 hown hK hG ht_ld20 (by decide) tk_no rfl 2 (by decide) (htl _ mw_1420) (fun _ h9 => h9) rfl dX5_chooseFrom_67 (fun v9 hf6 hV9 => ?_)
    obtain ⟨b7, rfl, ht_b7⟩ := hV9
    have ht_b7 : t b7 = (21, 8, 0) := ht_b7
    refine lv_iload_n hx hb dX5_chooseFrom_70 rfl (lv_at hl 1 rfl) ?_
    refine tk_iald hx hb hK hG ht_b7 (by decide) (fun _ h => h) tk_no (I := 2) (by decide) (by decide) (by decide) dX5_chooseFrom_71 (fun v8 hE9 _ => ?_)
    have he_v8 : 0 ≤ v8.toInt ∧ v8.toInt ≤ 1 := hE9
    have hj486 : ∀ (H : Heap) (locs : List Loc), tk_G D cy ld t [] H → va_S (tk_w t [(20, 0, 0), (6, 0, 0)]) s.heap H locs → tk_f D H (ld 20) 2 0 (.int v3) → ∀ ls : Array Slot, lv_has ls 7 [(0, .ref a0), (1, .int 2), (2, .int p2), (3, .int p3), (4, .int p4)] → W p l e ({ frames := 10, cells := 0, slots := 0, locals := 630 }) s m args below meth c H locs 0 0 (MQ below (tv D cy ld t [] (fun H => True) (tk_w t [(20, 0, 0), (6, 0, 0)])) args s 0 0 (tk_w t [(20, 0, 0), (6, 0, 0)])) (F0 m 176 ls []) := by
      intro H locs hG hS hf2 ls hl
      refine lv_aload_n hx hb dX5_chooseFrom_176 rfl (lv_at hl 0 rfl) ?_
      refine tk_get (ci := 5) (C := RX5) (T := TX5) (N := 11) (sp := (6, 20, 8, 0)) hx hb htl inX5 hown hK hG ht_a0 (by decide) tk_no rfl 7 (by decide) (htl _ mw_153) (fun _ h9 => h9) rfl dX5_chooseFrom_177 (fun v9 hf487 hV9 => ?_)
      obtain ⟨b488, rfl, ht_b488⟩ := hV9
      have ht_b488 : t b488 = (20, 8, 0) := ht_b488
      refine lv_iload_n hx hb dX5_chooseFrom_180 rfl (lv_at hl 1 rfl) ?_
      refine lv_bipush (v := 100) hx hb dX5_chooseFrom_181 (by decide) ?_
      refine tk_iast hx hb hK hG hS ht_b488 (by decide) (fun _ => Iff.rfl) tk_no (I := 2) (by decide) (by decide) (by decide) trivial (tk_w.of ht_b488 (by decide) (List.mem_of_getElem? (i := 0) rfl) (Nat.le_refl _) (Nat.le_refl _)) dX5_chooseFrom_183 (fun H locs hG hS hq9 => ?_)
      have hf2 := hf2.kept (hq9 _ (tk_ne ht_ld20 ht_b488 (Or.inl (by decide))))
      refine lv_aload_n hx hb dX5_chooseFrom_184 rfl (lv_at hl 0 rfl) ?_
      refine lv_iload_n hx hb dX5_chooseFrom_185 rfl (lv_at hl 1 rfl) ?_
      refine lv_iconst (v := 1) hx hb dX5_chooseFrom_186 (by decide) ?_
      refine lv_iadd hx hb dX5_chooseFrom_187 ?_
      refine fx_ti (v := 3) (by decide) ?_
      refine lv_iload_n hx hb dX5_chooseFrom_188 rfl (lv_at hl 2 rfl) ?_
      refine lv_iload_n hx hb dX5_chooseFrom_189 rfl (lv_at hl 3 rfl) ?_
      refine lv_iload hx hb dX5_chooseFrom_190 (lv_at hl 4 rfl) ?_
      have hk_3 : (3 : Int32).toInt = 3 := by decide
      refine tk_Vv (As := [.int 3, .int p2, .int p3, .int p4]) (rest := []) (ci := 5) ⟨hx, hb, hml, hown, hts⟩ hK hG hZ hS (k_X5_chooseFrom_3 l D cy ld t a0 p2 p3 p4 ht_a0) trivial ⟨callB_of 4 hts (wl_in mw_1427) rfl rfl rfl (htl _ mw_40) (htl _ mw_1424) hd_yX5_chooseFrom ⟨(Nat.le_of_ble_eq_true rfl), (Nat.le_of_ble_eq_true rfl)⟩, htl _ mw_1425, htl _ mw_1426⟩ ht_a0 (by decide) tk_no rfl (tk_w.pick [0, 1] rfl) rfl hl.1 rfl (Nat.le_of_ble_eq_true rfl) dX5_chooseFrom_192 ⟨(Nat.le_of_ble_eq_true rfl), (Nat.le_of_ble_eq_true rfl)⟩ (fun H locs hpo hG hS hq9 => ?_)
      have hf2 := hf2.call hq9 (tk_w.no ht_ld20 (by decide))
      exact tk_vret hx hb hr hlocks trivial hG hS dX5_chooseFrom_195
    refine lv_if_ne (tgt := 176) hx hb dX5_chooseFrom_72 (by decide) (fun c9 => ?_) (fun c9 => ?_)
    · have hc9 : ¬ (v8.toInt = 0) := fun h9 => c9 ((fi_eq rfl (by decide)).mpr h9)
      exact hj486 _ _ hG hS hf2 _ (lv_sub hl [0, 1, 2, 3, 4] rfl)
    · have hc9 : v8.toInt = 0 := (fi_eq rfl (by decide)).mp c9
      refine lv_iconst (v := 0) hx hb dX5_chooseFrom_75 (by decide) ?_
      refine lv_istore (lv' := [(5, .int 0), (0, .ref a0), (1, .int 2), (2, .int p2), (3, .int p3), (4, .int p4)]) hx hb dX5_chooseFrom_76 hl (by decide) rfl (fun ls hl => ?_)
      have hl905 : ∀ (N : Nat) (v491 : Int32) (H : Heap) (locs : List Loc), v491.toInt ≤ 8 → 0 ≤ v491.toInt → (-1) * v491.toInt + 8 < (N : Int) → tk_G D cy ld t [] H → va_S (tk_w t [(20, 0, 0), (6, 0, 0)]) s.heap H locs → tk_f D H (ld 20) 2 0 (.int v3) → ∀ ls : Array Slot, lv_has ls 7 [(5, .int v491), (0, .ref a0), (1, .int 2), (2, .int p2), (3, .int p3), (4, .int p4)] → W p l e ({ frames := 10, cells := 0, slots := 0, locals := 630 }) s m args below meth c H locs 0 0 (MQ below (tv D cy ld t [] (fun H => True) (tk_w t [(20, 0, 0), (6, 0, 0)])) args s 0 0 (tk_w t [(20, 0, 0), (6, 0, 0)])) (F0 m 78 ls []) := by
        intro N
        induction N with
        | zero => intro v491 H locs hq0_l905 hq1_l905 hm_l905 hG hS hf2 ls hl; exfalso; omega
        | succ N ih =>
          intro v491 H locs hq0_l905 hq1_l905 hm_l905 hG hS hf2 ls hl
          refine lv_iload hx hb dX5_chooseFrom_78 (lv_at hl 0 rfl) ?_
          refine lv_aload_n hx hb dX5_chooseFrom_80 rfl (lv_at hl 1 rfl) ?_
          refine tk_get (ci := 5) (C := RX5) (T := TX5) (N := 11) (sp := (8, 20, 3, 0)) hx hb htl inX5 hown hK hG ht_a0 (by decide) tk_no rfl 0 (by decide) (htl _ mw_155) (fun _ h9 => h9) rfl dX5_chooseFrom_81 (fun v9 hf906 hV9 => ?_)
          obtain ⟨rfl, ht_ld20⟩ := hV9
          have ht_ld20 : t (ld 20) = (3, 0, 0) := ht_ld20
          refine fx_top (v := .ref (ld 20)) rfl ?_
          refine tk_getk (ci := 2) (C := RX2) (T := TX2) (N := 20) (sp := (0, 0, 8, 0)) hx hb htl inX2 hown hK hG ht_ld20 (by decide) tk_no rfl 0 (by decide) (htl _ mw_1419) (fun _ h9 => h9) rfl hf2 dX5_chooseFrom_84 ?_
          refine lv_icmp_ge (tgt := 176) hx hb dX5_chooseFrom_87 (by decide) (fun c9 => ?_) (fun c9 => ?_)
          · have hc907 : v3.toInt ≤ v491.toInt := (fi_le rfl rfl).mp c9
            exact hj486 _ _ hG hS hf2 _ (lv_sub hl [1, 2, 3, 4, 5] rfl)
          · have hc907 : ¬ (v3.toInt ≤ v491.toInt) := fun h9 => c9 ((fi_le rfl rfl).mpr h9)
            refine lv_aload_n hx hb dX5_chooseFrom_90 rfl (lv_at hl 1 rfl) ?_
            refine tk_get (ci := 5) (C := RX5) (T := TX5) (N := 11) (sp := (8, 20, 3, 0)) hx hb htl inX5 hown hK hG ht_a0 (by decide) tk_no rfl 0 (by decide) (htl _ mw_155) (fun _ h9 => h9) rfl dX5_chooseFrom_91 (fun v9 hf908 hV9 => ?_)
            obtain ⟨rfl, ht_ld20⟩ := hV9
            have ht_ld20 : t (ld 20) = (3, 0, 0) := ht_ld20
            refine fx_top (v := .ref (ld 20)) rfl ?_
            refine tk_get (ci := 2) (C := RX2) (T := TX2) (N := 20) (sp := (1, 21, 8, 0)) hx hb htl inX2 hown hK hG ht_ld20 (by decide) tk_no rfl 2 (by decide) (htl _ mw_1420) (fun _ h9 => h9) rfl dX5_chooseFrom_94 (fun v9 hf909 hV9 => ?_)
            obtain ⟨b910, rfl, ht_b910⟩ := hV9
            have ht_b910 : t b910 = (21, 8, 0) := ht_b910
            refine lv_iload hx hb dX5_chooseFrom_97 (lv_at hl 0 rfl) ?_
            refine tk_iald hx hb hK hG ht_b910 (by decide) (fun _ h => h) tk_no rfl (by omega) (by omega) dX5_chooseFrom_99 (fun v911 hE9 _ => ?_)
            have he_v911 : 0 ≤ v911.toInt ∧ v911.toInt ≤ 1 := hE9
            refine lv_iconst (v := 1) hx hb dX5_chooseFrom_100 (by decide) ?_
            have hj939 : ∀ (H : Heap) (locs : List Loc), tk_G D cy ld t [] H → va_S (tk_w t [(20, 0, 0), (6, 0, 0)]) s.heap H locs → tk_f D H (ld 20) 2 0 (.int v3) → ∀ ls : Array Slot, lv_has ls 7 [(5, .int v491), (0, .ref a0), (1, .int 2), (2, .int p2), (3, .int p3), (4, .int p4)] → W p l e ({ frames := 10, cells := 0, slots := 0, locals := 630 }) s m args below meth c H locs 0 0 (MQ below (tv D cy ld t [] (fun H => True) (tk_w t [(20, 0, 0), (6, 0, 0)])) args s 0 0 (tk_w t [(20, 0, 0), (6, 0, 0)])) (F0 m 170 ls []) := by
              intro H locs hG hS hf2 ls hl
              obtain ⟨v940, h_v940, e_v940⟩ := tk_inc v491 1 (by decide) (by omega) (by omega)
              refine lv_iinc (v := v940) (lv' := [(5, .int v940), (0, .ref a0), (1, .int 2), (2, .int p2), (3, .int p3), (4, .int p4)]) hx hb dX5_chooseFrom_170 hl (k := 0) rfl e_v940 (by decide) rfl (fun ls hl => ?_)
              refine lv_goto (tgt := 78) hx hb dX5_chooseFrom_173 (by decide) ?_
              exact ih v940 _ _ (by omega) (by omega) (by omega) hG hS hf2 _ (lv_sub hl [0, 1, 2, 3, 4, 5] rfl)
            refine lv_icmp_ne (tgt := 170) hx hb dX5_chooseFrom_101 (by decide) (fun c9 => ?_) (fun c9 => ?_)
            · have hc912 : ¬ (v911.toInt = 1) := fun h9 => c9 ((fi_eq rfl (by decide)).mpr h9)
              exact hj939 _ _ hG hS hf2 _ (lv_sub hl [0, 1, 2, 3, 4, 5] rfl)
            · have hc912 : v911.toInt = 1 := (fi_eq rfl (by decide)).mp c9
              refine lv_iload_n hx hb dX5_chooseFrom_104 rfl (lv_at hl 3 rfl) ?_
              refine lv_iload hx hb dX5_chooseFrom_105 (lv_at hl 0 rfl) ?_
              refine lv_ishr hx hb dX5_chooseFrom_107 ?_
              refine tk_any (fun v941 => ?_)
              refine lv_iconst (v := 1) hx hb dX5_chooseFrom_108 (by decide) ?_
              refine lv_iand hx hb dX5_chooseFrom_109 ?_
              refine tk_say (P := fun z => 0 ≤ z.toInt ∧ z.toInt ≤ 1) (tk_and v941 1 (by decide) (by decide)) (fun v942 h_v942 => ?_)
              refine lv_if_ne (tgt := 170) hx hb dX5_chooseFrom_110 (by decide) (fun c9 => ?_) (fun c9 => ?_)
              · have hc943 : ¬ (v942.toInt = 0) := fun h9 => c9 ((fi_eq rfl (by decide)).mpr h9)
                exact hj939 _ _ hG hS hf2 _ (lv_sub hl [0, 1, 2, 3, 4, 5] rfl)
              · have hc943 : v942.toInt = 0 := (fi_eq rfl (by decide)).mp c9
                refine lv_aload_n hx hb dX5_chooseFrom_113 rfl (lv_at hl 1 rfl) ?_
                refine tk_get (ci := 5) (C := RX5) (T := TX5) (N := 11) (sp := (6, 30, 8, 0)) hx hb htl inX5 hown hK hG ht_a0 (by decide) tk_no rfl 6 (by decide) (htl _ mw_152) (fun _ h9 => h9) rfl dX5_chooseFrom_114 (fun v9 hf944 hV9 => ?_)
                obtain ⟨b945, rfl, ht_b945⟩ := hV9
                have ht_b945 : t b945 = (30, 8, 0) := ht_b945
                refine lv_iload_n hx hb dX5_chooseFrom_117 rfl (lv_at hl 2 rfl) ?_
                refine tk_aald hx hb hK hG 6 rfl rfl ht_b945 (by decide) (fun _ h => h) tk_no (I := 2) (by decide) (by decide) (by decide) dX5_chooseFrom_118 (fun o946 ht_o946 => ?_)
                obtain ⟨b947, rfl, ht_b947⟩ := ht_o946
                have ht_b947 : t b947 = (20, 8, 0) := ht_b947
                refine fx_top (v := .ref b947) rfl ?_
                refine lv_iload hx hb dX5_chooseFrom_119 (lv_at hl 0 rfl) ?_
                refine tk_iald hx hb hK hG ht_b947 (by decide) (fun _ h => h) tk_no rfl (by omega) (by omega) dX5_chooseFrom_121 (fun v948 _ _ => ?_)
                have hr_v948 := tk_rng v948
                refine lv_istore (lv' := [(6, .int v948), (5, .int v491), (0, .ref a0), (1, .int 2), (2, .int p2), (3, .int p3), (4, .int p4)]) hx hb dX5_chooseFrom_122 hl (by decide) rfl (fun ls hl => ?_)
                refine lv_aload_n hx hb dX5_chooseFrom_124 rfl (lv_at hl 2 rfl) ?_
                refine tk_get (ci := 5) (C := RX5) (T := TX5) (N := 11) (sp := (6, 20, 8, 0)) hx hb htl inX5 hown hK hG ht_a0 (by decide) tk_no rfl 7 (by decide) (htl _ mw_153) (fun _ h9 => h9) rfl dX5_chooseFrom_125 (fun v9 hf949 hV9 => ?_)
                obtain ⟨b950, rfl, ht_b950⟩ := hV9
                have ht_b950 : t b950 = (20, 8, 0) := ht_b950
                refine lv_iload_n hx hb dX5_chooseFrom_128 rfl (lv_at hl 3 rfl) ?_
                refine lv_iload hx hb dX5_chooseFrom_129 (lv_at hl 1 rfl) ?_
                refine tk_iast hx hb hK hG hS ht_b950 (by decide) (fun _ => Iff.rfl) tk_no (I := 2) (by decide) (by decide) (by decide) trivial (tk_w.of ht_b950 (by decide) (List.mem_of_getElem? (i := 0) rfl) (Nat.le_refl _) (Nat.le_refl _)) dX5_chooseFrom_131 (fun H locs hG hS hq9 => ?_)
                have hf2 := hf2.kept (hq9 _ (tk_ne ht_ld20 ht_b950 (Or.inl (by decide))))
                refine lv_aload_n hx hb dX5_chooseFrom_132 rfl (lv_at hl 2 rfl) ?_
                refine lv_iload_n hx hb dX5_chooseFrom_133 rfl (lv_at hl 3 rfl) ?_
                refine lv_iconst (v := 1) hx hb dX5_chooseFrom_134 (by decide) ?_
                refine lv_iadd hx hb dX5_chooseFrom_135 ?_
                refine fx_ti (v := 3) (by decide) ?_
                refine lv_iload_n hx hb dX5_chooseFrom_136 rfl (lv_at hl 4 rfl) ?_
                refine lv_iconst (v := 1) hx hb dX5_chooseFrom_137 (by decide) ?_
                refine lv_iload hx hb dX5_chooseFrom_138 (lv_at hl 1 rfl) ?_
                refine lv_ishl hx hb dX5_chooseFrom_140 ?_
                refine tk_say (P := fun z => 1 ≤ z.toInt ∧ z.toInt ≤ 1024) (tk_shl1 v491 (by omega) (by omega)) (fun v952 h_v952 => ?_)
                refine lv_ior hx hb dX5_chooseFrom_141 ?_
                refine tk_any (fun v953 => ?_)
                refine lv_iload_n hx hb dX5_chooseFrom_142 rfl (lv_at hl 5 rfl) ?_
                refine lv_iload hx hb dX5_chooseFrom_143 (lv_at hl 0 rfl) ?_
                have hj957 : ∀ (v956 : Int32), 0 ≤ v956.toInt → v956.toInt ≤ 1 → ∀ ls : Array Slot, lv_has ls 7 [(6, .int v948), (5, .int v491), (0, .ref a0), (1, .int 2), (2, .int p2), (3, .int p3), (4, .int p4)] → W p l e ({ frames := 10, cells := 0, slots := 0, locals := 630 }) s m args below meth c H locs 0 0 (MQ below (tv D cy ld t [] (fun H => True) (tk_w t [(20, 0, 0), (6, 0, 0)])) args s 0 0 (tk_w t [(20, 0, 0), (6, 0, 0)])) (F0 m 153 ls [.int v956, .int p3, .int v953, .int 3, .ref a0]) := by
                  intro v956 hq0_j957 hq1_j957 ls hl
                  refine lv_iadd hx hb dX5_chooseFrom_153 ?_
                  obtain ⟨v958, hm_v958⟩ : ∃ z : Int32, p3 + v956 = z := ⟨_, rfl⟩
                  refine fx_ti hm_v958 ?_
                  refine lv_iload hx hb dX5_chooseFrom_154 (lv_at hl 6 rfl) ?_
                  refine lv_iload hx hb dX5_chooseFrom_156 (lv_at hl 0 rfl) ?_
                  have hj962 : ∀ (v961 : Int32), 0 ≤ v961.toInt → v961.toInt ≤ 1 → ∀ ls : Array Slot, lv_has ls 7 [(5, .int v491), (0, .ref a0), (1, .int 2), (2, .int p2), (3, .int p3), (4, .int p4)] → W p l e ({ frames := 10, cells := 0, slots := 0, locals := 630 }) s m args below meth c H locs 0 0 (MQ below (tv D cy ld t [] (fun H => True) (tk_w t [(20, 0, 0), (6, 0, 0)])) args s 0 0 (tk_w t [(20, 0, 0), (6, 0, 0)])) (F0 m 166 ls [.int v961, .int p4, .int v958, .int v953, .int 3, .ref a0]) := by
                    intro v961 hq0_j962 hq1_j962 ls hl
                    refine lv_iadd hx hb dX5_chooseFrom_166 ?_
                    obtain ⟨v963, hm_v963⟩ : ∃ z : Int32, p4 + v961 = z := ⟨_, rfl⟩
                    refine fx_ti hm_v963 ?_
                    have hk_3 : (3 : Int32).toInt = 3 := by decide
                    refine tk_Vv (As := [.int 3, .int v953, .int v958, .int v963]) (rest := []) (ci := 5) ⟨hx, hb, hml, hown, hts⟩ hK hG hZ hS (k_X5_chooseFrom_3 l D cy ld t a0 v953 v958 v963 ht_a0) trivial ⟨callB_of 4 hts (wl_in mw_1427) rfl rfl rfl (htl _ mw_40) (htl _ mw_1424) hd_yX5_chooseFrom ⟨(Nat.le_of_ble_eq_true rfl), (Nat.le_of_ble_eq_true rfl)⟩, htl _ mw_1425, htl _ mw_1426⟩ ht_a0 (by decide) tk_no rfl (tk_w.pick [0, 1] rfl) rfl hl.1 rfl (Nat.le_of_ble_eq_true rfl) dX5_chooseFrom_167 ⟨(Nat.le_of_ble_eq_true rfl), (Nat.le_of_ble_eq_true rfl)⟩ (fun H locs hpo hG hS hq9 => ?_)
                    have hf2 := hf2.call hq9 (tk_w.no ht_ld20 (by decide))
                    exact hj939 _ _ hG hS hf2 _ (lv_sub hl [0, 1, 2, 3, 4, 5] rfl)
                  refine lv_if_ge (tgt := 165) hx hb dX5_chooseFrom_158 (by decide) (fun c9 => ?_) (fun c9 => ?_)
                  · have hc959 : 0 ≤ v948.toInt := (fi_le (by decide) rfl).mp c9
                    refine lv_iconst (v := 0) hx hb dX5_chooseFrom_165 (by decide) ?_
                    have hk_0 : (0 : Int32).toInt = 0 := by decide
                    exact hj962 0 (by omega) (by omega) _ (lv_sub hl [1, 2, 3, 4, 5, 6] rfl)
                  · have hc959 : ¬ (0 ≤ v948.toInt) := fun h9 => c9 ((fi_le (by decide) rfl).mpr h9)
                    refine lv_iconst (v := 1) hx hb dX5_chooseFrom_161 (by decide) ?_
                    refine lv_goto (tgt := 166) hx hb dX5_chooseFrom_162 (by decide) ?_
                    have hk_1 : (1 : Int32).toInt = 1 := by decide
                    exact hj962 1 (by omega) (by omega) _ (lv_sub hl [1, 2, 3, 4, 5, 6] rfl)
                refine lv_if_le (tgt := 152) hx hb dX5_chooseFrom_145 (by decide) (fun c9 => ?_) (fun c9 => ?_)
                · have hc954 : v948.toInt ≤ 0 := (fi_le rfl (by decide)).mp c9
                  refine lv_iconst (v := 0) hx hb dX5_chooseFrom_152 (by decide) ?_
                  have hk_0 : (0 : Int32).toInt = 0 := by decide
                  exact hj957 0 (by omega) (by omega) _ (lv_sub hl [0, 1, 2, 3, 4, 5, 6] rfl)
                · have hc954 : ¬ (v948.toInt ≤ 0) := fun h9 => c9 ((fi_le rfl (by decide)).mpr h9)
                  refine lv_iconst (v := 1) hx hb dX5_chooseFrom_148 (by decide) ?_
                  refine lv_goto (tgt := 153) hx hb dX5_chooseFrom_149 (by decide) ?_
                  have hk_1 : (1 : Int32).toInt = 1 := by decide
                  exact hj957 1 (by omega) (by omega) _ (lv_sub hl [0, 1, 2, 3, 4, 5, 6] rfl)
      have hk_0 : (0 : Int32).toInt = 0 := by decide
      exact hl905 9 0 _ _ (by omega) (by omega) (by omega) hG hS hf2 _ (lv_sub hl [0, 1, 2, 3, 4, 5] rfl)
  · have hc4 : ¬ (2 < v3.toInt) := fun h9 => c9 ((fi_lt (by decide) rfl).mpr h9)
    refine lv_iload_n hx hb dX5_chooseFrom_11 rfl (lv_at hl 3 rfl) ?_
    refine lv_aload_n hx hb dX5_chooseFrom_12 rfl (lv_at hl 0 rfl) ?_
    refine tk_get (ci := 5) (C := RX5) (T := TX5) (N := 11) (sp := (0, (-2147483648), 2147483647, 0)) hx hb htl inX5 hown hK hG ht_a0 (by decide) tk_no rfl 9 (by decide) (htl _ mw_1421) (fun _ h9 => h9) rfl dX5_chooseFrom_13 (fun v9 hf965 hV9 => ?_)
    obtain ⟨v966, rfl, ha_v966, hb_v966⟩ := hV9
    have hj994 : ∀ (H : Heap) (locs : List Loc), tk_G D cy ld t [] H → va_S (tk_w t [(20, 0, 0), (6, 0, 0)]) s.heap H locs → tk_f D H (ld 20) 2 0 (.int v3) → ∀ ls : Array Slot, lv_has ls 7 [] → W p l e ({ frames := 10, cells := 0, slots := 0, locals := 630 }) s m args below meth c H locs 0 0 (MQ below (tv D cy ld t [] (fun H => True) (tk_w t [(20, 0, 0), (6, 0, 0)])) args s 0 0 (tk_w t [(20, 0, 0), (6, 0, 0)])) (F0 m 62 ls []) := by
      intro H locs hG hS hf2 ls hl
      exact tk_vret hx hb hr hlocks trivial hG hS dX5_chooseFrom_62
    refine lv_icmp_gt (tgt := 36) hx hb dX5_chooseFrom_16 (by decide) (fun c9 => ?_) (fun c9 => ?_)
    · have hc967 : v966.toInt < p3.toInt := (fi_lt rfl rfl).mp c9
      refine lv_aload_n hx hb dX5_chooseFrom_36 rfl (lv_at hl 0 rfl) ?_
      refine lv_iload_n hx hb dX5_chooseFrom_37 rfl (lv_at hl 3 rfl) ?_
      refine tk_put (ci := 5) (v := .int p3) (ty := .int) (C := RX5) (T := TX5) (N := 11) (sp := (0, (-2147483648), 2147483647, 0)) hx hb htl inX5 tyX5 tyX5_ok nmX5 hown hK hG hS ht_a0 (by decide) tk_no rfl 9 (by decide) (htl _ mw_1421) (fun _ h9 => h9) rfl (tyX5_ok 9 (by decide)) rfl rfl rfl (tk_Vi (tk_rng _).1 (tk_rng _).2) (fun _ h => h) (tk_w.of ht_a0 (by decide) (List.mem_of_getElem? (i := 1) rfl) (Nat.le_refl _) (Nat.le_refl _)) dX5_chooseFrom_38 (fun H locs hG hS hf995 hq9 hj9 => ?_)
      have hf2 := hf2.kept (hq9 _ (tk_ne ht_ld20 ht_a0 (Or.inl (by decide))))
      refine lv_aload_n hx hb dX5_chooseFrom_41 rfl (lv_at hl 0 rfl) ?_
      refine lv_iload hx hb dX5_chooseFrom_42 (lv_at hl 4 rfl) ?_
      refine tk_put (ci := 5) (v := .int p4) (ty := .int) (C := RX5) (T := TX5) (N := 11) (sp := (0, (-2147483648), 2147483647, 0)) hx hb htl inX5 tyX5 tyX5_ok nmX5 hown hK hG hS ht_a0 (by decide) tk_no rfl 10 (by decide) (htl _ mw_1422) (fun _ h9 => h9) rfl (tyX5_ok 10 (by decide)) rfl rfl rfl (tk_Vi (tk_rng _).1 (tk_rng _).2) (fun _ h => h) (tk_w.of ht_a0 (by decide) (List.mem_of_getElem? (i := 1) rfl) (Nat.le_refl _) (Nat.le_refl _)) dX5_chooseFrom_44 (fun H locs hG hS hf997 hq9 hj9 => ?_)
      have hf2 := hf2.kept (hq9 _ (tk_ne ht_ld20 ht_a0 (Or.inl (by decide))))
      refine lv_aload_n hx hb dX5_chooseFrom_47 rfl (lv_at hl 0 rfl) ?_
      refine tk_get (ci := 5) (C := RX5) (T := TX5) (N := 11) (sp := (6, 20, 8, 0)) hx hb htl inX5 hown hK hG ht_a0 (by decide) tk_no rfl 7 (by decide) (htl _ mw_153) (fun _ h9 => h9) rfl dX5_chooseFrom_48 (fun v9 hf999 hV9 => ?_)
      obtain ⟨b1000, rfl, ht_b1000⟩ := hV9
      have ht_b1000 : t b1000 = (20, 8, 0) := ht_b1000
      refine lv_iconst (v := 0) hx hb dX5_chooseFrom_51 (by decide) ?_
      refine lv_aload_n hx hb dX5_chooseFrom_52 rfl (lv_at hl 0 rfl) ?_
      refine tk_get (ci := 5) (C := RX5) (T := TX5) (N := 11) (sp := (6, 20, 8, 0)) hx hb htl inX5 hown hK hG ht_a0 (by decide) tk_no rfl 8 (by decide) (htl _ mw_154) (fun _ h9 => h9) rfl dX5_chooseFrom_53 (fun v9 hf1001 hV9 => ?_)
      obtain ⟨b1002, rfl, ht_b1002⟩ := hV9
      have ht_b1002 : t b1002 = (20, 8, 0) := ht_b1002
      refine lv_iconst (v := 0) hx hb dX5_chooseFrom_56 (by decide) ?_
      refine lv_bipush (v := 8) hx hb dX5_chooseFrom_57 (by decide) ?_
      refine tk_copy (SP := 0) (DP := 0) (NC := 8) hx hb (by rw [hml]; exact hl.1.symm) hown (htl _ mw_1428) (htl _ mw_655) (htl _ mw_656) (htl _ mw_657) hK hG hS ht_b1000 ht_b1002 (by decide) (by decide) (fun _ h => h) (fun _ => Iff.rfl) tk_no tk_no (by decide) (by decide) (by decide) (by decide) (by decide) (by decide) (by decide) (by decide) (fun _ _ _ _ _ => trivial) (tk_w.of ht_b1002 (by decide) (List.mem_of_getElem? (i := 0) rfl) (Nat.le_refl _) (Nat.le_refl _)) (Nat.le_of_ble_eq_true rfl) (Nat.le_of_ble_eq_true rfl) dX5_chooseFrom_59 (fun H locs hG hS hq9 => ?_)
      have hf2 := hf2.kept (hq9 _ (tk_ne ht_ld20 ht_b1002 (Or.inl (by decide))))
      exact hj994 _ _ hG hS hf2 _ (lv_sub hl [] rfl)
    · have hc967 : ¬ (v966.toInt < p3.toInt) := fun h9 => c9 ((fi_lt rfl rfl).mpr h9)
      refine lv_iload_n hx hb dX5_chooseFrom_19 rfl (lv_at hl 3 rfl) ?_
      refine lv_aload_n hx hb dX5_chooseFrom_20 rfl (lv_at hl 0 rfl) ?_
      refine tk_get (ci := 5) (C := RX5) (T := TX5) (N := 11) (sp := (0, (-2147483648), 2147483647, 0)) hx hb htl inX5 hown hK hG ht_a0 (by decide) tk_no rfl 9 (by decide) (htl _ mw_1421) (fun _ h9 => h9) rfl dX5_chooseFrom_21 (fun v9 hf1004 hV9 => ?_)
      obtain ⟨v1005, rfl, ha_v1005, hb_v1005⟩ := hV9
      refine lv_icmp_ne (tgt := 62) hx hb dX5_chooseFrom_24 (by decide) (fun c9 => ?_) (fun c9 => ?_)
      · have hc1006 : ¬ (p3.toInt = v1005.toInt) := fun h9 => c9 ((fi_eq rfl rfl).mpr h9)
        exact hj994 _ _ hG hS hf2 _ (lv_sub hl [] rfl)
      · have hc1006 : p3.toInt = v1005.toInt := (fi_eq rfl rfl).mp c9
        refine lv_iload hx hb dX5_chooseFrom_27 (lv_at hl 4 rfl) ?_
        refine lv_aload_n hx hb dX5_chooseFrom_29 rfl (lv_at hl 0 rfl) ?_
        refine tk_get (ci := 5) (C := RX5) (T := TX5) (N := 11) (sp := (0, (-2147483648), 2147483647, 0)) hx hb htl inX5 hown hK hG ht_a0 (by decide) tk_no rfl 10 (by decide) (htl _ mw_1422) (fun _ h9 => h9) rfl dX5_chooseFrom_30 (fun v9 hf1007 hV9 => ?_)
        obtain ⟨v1008, rfl, ha_v1008, hb_v1008⟩ := hV9
        refine lv_icmp_ge (tgt := 62) hx hb dX5_chooseFrom_33 (by decide) (fun c9 => ?_) (fun c9 => ?_)
        · have hc1009 : v1008.toInt ≤ p4.toInt := (fi_le rfl rfl).mp c9
          exact hj994 _ _ hG hS hf2 _ (lv_sub hl [] rfl)
        · have hc1009 : ¬ (v1008.toInt ≤ p4.toInt) := fun h9 => c9 ((fi_le rfl rfl).mpr h9)
          refine lv_aload_n hx hb dX5_chooseFrom_36 rfl (lv_at hl 0 rfl) ?_
          refine lv_iload_n hx hb dX5_chooseFrom_37 rfl (lv_at hl 3 rfl) ?_
          refine tk_put (ci := 5) (v := .int p3) (ty := .int) (C := RX5) (T := TX5) (N := 11) (sp := (0, (-2147483648), 2147483647, 0)) hx hb htl inX5 tyX5 tyX5_ok nmX5 hown hK hG hS ht_a0 (by decide) tk_no rfl 9 (by decide) (htl _ mw_1421) (fun _ h9 => h9) rfl (tyX5_ok 9 (by decide)) rfl rfl rfl (tk_Vi (tk_rng _).1 (tk_rng _).2) (fun _ h => h) (tk_w.of ht_a0 (by decide) (List.mem_of_getElem? (i := 1) rfl) (Nat.le_refl _) (Nat.le_refl _)) dX5_chooseFrom_38 (fun H locs hG hS hf1010 hq9 hj9 => ?_)
          have hf2 := hf2.kept (hq9 _ (tk_ne ht_ld20 ht_a0 (Or.inl (by decide))))
          refine lv_aload_n hx hb dX5_chooseFrom_41 rfl (lv_at hl 0 rfl) ?_
          refine lv_iload hx hb dX5_chooseFrom_42 (lv_at hl 4 rfl) ?_
          refine tk_put (ci := 5) (v := .int p4) (ty := .int) (C := RX5) (T := TX5) (N := 11) (sp := (0, (-2147483648), 2147483647, 0)) hx hb htl inX5 tyX5 tyX5_ok nmX5 hown hK hG hS ht_a0 (by decide) tk_no rfl 10 (by decide) (htl _ mw_1422) (fun _ h9 => h9) rfl (tyX5_ok 10 (by decide)) rfl rfl rfl (tk_Vi (tk_rng _).1 (tk_rng _).2) (fun _ h => h) (tk_w.of ht_a0 (by decide) (List.mem_of_getElem? (i := 1) rfl) (Nat.le_refl _) (Nat.le_refl _)) dX5_chooseFrom_44 (fun H locs hG hS hf1012 hq9 hj9 => ?_)
          have hf2 := hf2.kept (hq9 _ (tk_ne ht_ld20 ht_a0 (Or.inl (by decide))))
          refine lv_aload_n hx hb dX5_chooseFrom_47 rfl (lv_at hl 0 rfl) ?_
          refine tk_get (ci := 5) (C := RX5) (T := TX5) (N := 11) (sp := (6, 20, 8, 0)) hx hb htl inX5 hown hK hG ht_a0 (by decide) tk_no rfl 7 (by decide) (htl _ mw_153) (fun _ h9 => h9) rfl dX5_chooseFrom_48 (fun v9 hf1014 hV9 => ?_)
          obtain ⟨b1015, rfl, ht_b1015⟩ := hV9
          have ht_b1015 : t b1015 = (20, 8, 0) := ht_b1015
          refine lv_iconst (v := 0) hx hb dX5_chooseFrom_51 (by decide) ?_
          refine lv_aload_n hx hb dX5_chooseFrom_52 rfl (lv_at hl 0 rfl) ?_
          refine tk_get (ci := 5) (C := RX5) (T := TX5) (N := 11) (sp := (6, 20, 8, 0)) hx hb htl inX5 hown hK hG ht_a0 (by decide) tk_no rfl 8 (by decide) (htl _ mw_154) (fun _ h9 => h9) rfl dX5_chooseFrom_53 (fun v9 hf1016 hV9 => ?_)
          obtain ⟨b1017, rfl, ht_b1017⟩ := hV9
          have ht_b1017 : t b1017 = (20, 8, 0) := ht_b1017
          refine lv_iconst (v := 0) hx hb dX5_chooseFrom_56 (by decide) ?_
          refine lv_bipush (v := 8) hx hb dX5_chooseFrom_57 (by decide) ?_
          refine tk_copy (SP := 0) (DP := 0) (NC := 8) hx hb (by rw [hml]; exact hl.1.symm) hown (htl _ mw_1428) (htl _ mw_655) (htl _ mw_656) (htl _ mw_657) hK hG hS ht_b1015 ht_b1017 (by decide) (by decide) (fun _ h => h) (fun _ => Iff.rfl) tk_no tk_no (by decide) (by decide) (by decide) (by decide) (by decide) (by decide) (by decide) (by decide) (fun _ _ _ _ _ => trivial) (tk_w.of ht_b1017 (by decide) (List.mem_of_getElem? (i := 0) rfl) (Nat.le_refl _) (Nat.le_refl _)) (Nat.le_of_ble_eq_true rfl) (Nat.le_of_ble_eq_true rfl) dX5_chooseFrom_59 (fun H locs hG hS hq9 => ?_)
          have hf2 := hf2.kept (hq9 _ (tk_ne ht_ld20 ht_b1017 (Or.inl (by decide))))
          exact hj994 _ _ hG hS hf2 _ (lv_sub hl [] rfl)
set_option maxHeartbeats 4000000 in
set_option maxRecDepth 100000 in
theorem k_X5_chooseFrom_1 (l : Launch) (D : va_G) (cy : Nat → ClassId) (ld : Nat → Nat) (t : tk_T) (a0 : Nat) (p2 : Int32) (p3 : Int32) (p4 : Int32) (ht_a0 : t a0 = (6, 0, 0)) : Met l yX5_chooseFrom (wl yX5_chooseFrom cX5_chooseFrom 7 none) ({ frames := 11, cells := 0, slots := 0, locals := 700 }) (tp D cy ld t [] [.ref a0, .int 1, .int p2, .int p3, .int p4] (fun H => True)) (tv D cy ld t [] (fun H => True) (tk_w t [(20, 0, 0), (6, 0, 0)])) 0 0 (tk_w t [(20, 0, 0), (6, 0, 0)]) := by
  refine tk_met (y := yX5_chooseFrom) (cc := cX5_chooseFrom) (maxL := 7) (ret := none) (av := [.ref a0, .int 1, .int p2, .int p3, .int p4]) _ _ (by decide) (Nat.le_of_ble_eq_true rfl) ?_
  intro p e s m args below meth c hx hb hr hml hts htl hown hlocks hK H locs hH hG hS hB hZ ls hl
  have hown : s.vm.findClass RX5 = some m.cls := hown
  have hl : lv_has ls 7 [(0, .ref a0), (1, .int 1), (2, .int p2), (3, .int p3), (4, .int p4)] := hl
  have hr_p2 := tk_rng p2
  have hr_p3 := tk_rng p3
  have hr_p4 := tk_rng p4
  refine lv_iload_n hx hb dX5_chooseFrom_0 rfl (lv_at hl 1 rfl) ?_
  refine lv_aload_n hx hb dX5_chooseFrom_1 rfl (lv_at hl 0 rfl) ?_
  refine tk_get (ci := 5) (C := RX5) (T := TX5) (N := 11) (sp := (8, 20, 3, 0)) hx hb htl inX5 hown hK hG ht_a0 (by decide) tk_no rfl 0 (by decide) (htl _ mw_155) (fun _ h9 => h9) rfl dX5_chooseFrom_2 (fun v9 hf1 hV9 => ?_)
  obtain ⟨rfl, ht_ld20⟩ := hV9
  have ht_ld20 : t (ld 20) = (3, 0, 0) := ht_ld20
  refine fx_top (v := .ref (ld 20)) rfl ?_
  refine tk_get (ci := 2) (C := RX2) (T := TX2) (N := 20) (sp := (0, 0, 8, 0)) hx hb htl inX2 hown hK hG ht_ld20 (by decide) tk_no rfl 0 (by decide) (htl _ mw_1419) (fun _ h9 => h9) rfl dX5_chooseFrom_5 (fun v9 hf2 hV9 => ?_)
  obtain ⟨v3, rfl, ha_v3, hb_v3⟩ := hV9
  refine lv_icmp_lt (tgt := 63) hx hb dX5_chooseFrom_8 (by decide) (fun c9 => ?_) (fun c9 => ?_)
  · have hc4 : 1 < v3.toInt := (fi_lt (by decide) rfl).mp c9
    refine lv_aload_n hx hb dX5_chooseFrom_63 rfl (lv_at hl 0 rfl) ?_
    refine tk_get (ci := 5) (C := RX5) (T := TX5) (N := 11) (sp := (8, 20, 3, 0)) hx hb htl inX5 hown hK hG ht_a0 (by decide) tk_no rfl 0 (by decide) (htl _ mw_155) (fun _ h9 => h9) rfl dX5_chooseFrom_64 (fun v9 hf5 hV9 => ?_)
    obtain ⟨rfl, ht_ld20⟩ := hV9
    have ht_ld20 : t (ld 20) = (3, 0, 0) := ht_ld20
    refine fx_top (v := .ref (ld 20)) rfl ?_
    refine tk_get (ci := 2) (C := RX2) (T := TX2) (N := 20) (sp := (1, 21, 8, 0)) hx hb htl inX2 hown hK hG ht_ld20 (by decide) tk_no rfl 2 (by decide) (htl _ mw_1420) (fun _ h9 => h9) rfl dX5_chooseFrom_67 (fun v9 hf6 hV9 => ?_)
    obtain ⟨b7, rfl, ht_b7⟩ := hV9
    have ht_b7 : t b7 = (21, 8, 0) := ht_b7
    refine lv_iload_n hx hb dX5_chooseFrom_70 rfl (lv_at hl 1 rfl) ?_
    refine tk_iald hx hb hK hG ht_b7 (by decide) (fun _ h => h) tk_no (I := 1) (by decide) (by decide) (by decide) dX5_chooseFrom_71 (fun v8 hE9 _ => ?_)
    have he_v8 : 0 ≤ v8.toInt ∧ v8.toInt ≤ 1 := hE9
    have hj486 : ∀ (H : Heap) (locs : List Loc), tk_G D cy ld t [] H → va_S (tk_w t [(20, 0, 0), (6, 0, 0)]) s.heap H locs → tk_f D H (ld 20) 2 0 (.int v3) → ∀ ls : Array Slot, lv_has ls 7 [(0, .ref a0), (1, .int 1), (2, .int p2), (3, .int p3), (4, .int p4)] → W p l e ({ frames := 11, cells := 0, slots := 0, locals := 700 }) s m args below meth c H locs 0 0 (MQ below (tv D cy ld t [] (fun H => True) (tk_w t [(20, 0, 0), (6, 0, 0)])) args s 0 0 (tk_w t [(20, 0, 0), (6, 0, 0)])) (F0 m 176 ls []) := by
      intro H locs hG hS hf2 ls hl
      refine lv_aload_n hx hb dX5_chooseFrom_176 rfl (lv_at hl 0 rfl) ?_
      refine tk_get (ci := 5) (C := RX5) (T := TX5) (N := 11) (sp := (6, 20, 8, 0)) hx hb htl inX5 hown hK hG ht_a0 (by decide) tk_no rfl 7 (by decide) (htl _ mw_153) (fun _ h9 => h9) rfl dX5_chooseFrom_177 (fun v9 hf487 hV9 => ?_)
      obtain ⟨b488, rfl, ht_b488⟩ := hV9
      have ht_b488 : t b488 = (20, 8, 0) := ht_b488
      refine lv_iload_n hx hb dX5_chooseFrom_180 rfl (lv_at hl 1 rfl) ?_
      refine lv_bipush (v := 100) hx hb dX5_chooseFrom_181 (by decide) ?_
      refine tk_iast hx hb hK hG hS ht_b488 (by decide) (fun _ => Iff.rfl) tk_no (I := 1) (by decide) (by decide) (by decide) trivial (tk_w.of ht_b488 (by decide) (List.mem_of_getElem? (i := 0) rfl) (Nat.le_refl _) (Nat.le_refl _)) dX5_chooseFrom_183 (fun H locs hG hS hq9 => ?_)
      have hf2 := hf2.kept (hq9 _ (tk_ne ht_ld20 ht_b488 (Or.inl (by decide))))
      refine lv_aload_n hx hb dX5_chooseFrom_184 rfl (lv_at hl 0 rfl) ?_
      refine lv_iload_n hx hb dX5_chooseFrom_185 rfl (lv_at hl 1 rfl) ?_
      refine lv_iconst (v := 1) hx hb dX5_chooseFrom_186 (by decide) ?_
      refine lv_iadd hx hb dX5_chooseFrom_187 ?_
      refine fx_ti (v := 2) (by decide) ?_
      refine lv_iload_n hx hb dX5_chooseFrom_188 rfl (lv_at hl 2 rfl) ?_
      refine lv_iload_n hx hb dX5_chooseFrom_189 rfl (lv_at hl 3 rfl) ?_
      refine lv_iload hx hb dX5_chooseFrom_190 (lv_at hl 4 rfl) ?_
      have hk_2 : (2 : Int32).toInt = 2 := by decide
      refine tk_Vv (As := [.int 2, .int p2, .int p3, .int p4]) (rest := []) (ci := 5) ⟨hx, hb, hml, hown, hts⟩ hK hG hZ hS (k_X5_chooseFrom_2 l D cy ld t a0 p2 p3 p4 ht_a0) trivial ⟨callB_of 4 hts (wl_in mw_1427) rfl rfl rfl (htl _ mw_40) (htl _ mw_1424) hd_yX5_chooseFrom ⟨(Nat.le_of_ble_eq_true rfl), (Nat.le_of_ble_eq_true rfl)⟩, htl _ mw_1425, htl _ mw_1426⟩ ht_a0 (by decide) tk_no rfl (tk_w.pick [0, 1] rfl) rfl hl.1 rfl (Nat.le_of_ble_eq_true rfl) dX5_chooseFrom_192 ⟨(Nat.le_of_ble_eq_true rfl), (Nat.le_of_ble_eq_true rfl)⟩ (fun H locs hpo hG hS hq9 => ?_)
      have hf2 := hf2.call hq9 (tk_w.no ht_ld20 (by decide))
      exact tk_vret hx hb hr hlocks trivial hG hS dX5_chooseFrom_195
    refine lv_if_ne (tgt := 176) hx hb dX5_chooseFrom_72 (by decide) (fun c9 => ?_) (fun c9 => ?_)
    · have hc9 : ¬ (v8.toInt = 0) := fun h9 => c9 ((fi_eq rfl (by decide)).mpr h9)
      exact hj486 _ _ hG hS hf2 _ (lv_sub hl [0, 1, 2, 3, 4] rfl)
    · have hc9 : v8.toInt = 0 := (fi_eq rfl (by decide)).mp c9
      refine lv_iconst (v := 0) hx hb dX5_chooseFrom_75 (by decide) ?_
      refine lv_istore (lv' := [(5, .int 0), (0, .ref a0), (1, .int 1), (2, .int p2), (3, .int p3), (4, .int p4)]) hx hb dX5_chooseFrom_76 hl (by decide) rfl (fun ls hl => ?_)
      have hl905 : ∀ (N : Nat) (v491 : Int32) (H : Heap) (locs : List Loc), v491.toInt ≤ 8 → 0 ≤ v491.toInt → (-1) * v491.toInt + 8 < (N : Int) → tk_G D cy ld t [] H → va_S (tk_w t [(20, 0, 0), (6, 0, 0)]) s.heap H locs → tk_f D H (ld 20) 2 0 (.int v3) → ∀ ls : Array Slot, lv_has ls 7 [(5, .int v491), (0, .ref a0), (1, .int 1), (2, .int p2), (3, .int p3), (4, .int p4)] → W p l e ({ frames := 11, cells := 0, slots := 0, locals := 700 }) s m args below meth c H locs 0 0 (MQ below (tv D cy ld t [] (fun H => True) (tk_w t [(20, 0, 0), (6, 0, 0)])) args s 0 0 (tk_w t [(20, 0, 0), (6, 0, 0)])) (F0 m 78 ls []) := by
        intro N
        induction N with
        | zero => intro v491 H locs hq0_l905 hq1_l905 hm_l905 hG hS hf2 ls hl; exfalso; omega
        | succ N ih =>
          intro v491 H locs hq0_l905 hq1_l905 hm_l905 hG hS hf2 ls hl
          refine lv_iload hx hb dX5_chooseFrom_78 (lv_at hl 0 rfl) ?_
          refine lv_aload_n hx hb dX5_chooseFrom_80 rfl (lv_at hl 1 rfl) ?_
          refine tk_get (ci := 5) (C := RX5) (T := TX5) (N := 11) (sp := (8, 20, 3, 0)) hx hb htl inX5 hown hK hG ht_a0 (by decide) tk_no rfl 0 (by decide) (htl _ mw_155) (fun _ h9 => h9) rfl dX5_chooseFrom_81 (fun v9 hf906 hV9 => ?_)
          obtain ⟨rfl, ht_ld20⟩ := hV9
          have ht_ld20 : t (ld 20) = (3, 0, 0) := ht_ld20
          refine fx_top (v := .ref (ld 20)) rfl ?_
          refine tk_getk (ci := 2) (C := RX2) (T := TX2) (N := 20) (sp := (0, 0, 8, 0)) hx hb htl inX2 hown hK hG ht_ld20 (by decide) tk_no rfl 0 (by decide) (htl _ mw_1419) (fun _ h9 => h9) rfl hf2 dX5_chooseFrom_84 ?_
          refine lv_icmp_ge (tgt := 176) hx hb dX5_chooseFrom_87 (by decide) (fun c9 => ?_) (fun c9 => ?_)
          · have hc907 : v3.toInt ≤ v491.toInt := (fi_le rfl rfl).mp c9
            exact hj486 _ _ hG hS hf2 _ (lv_sub hl [1, 2, 3, 4, 5] rfl)
          · have hc907 : ¬ (v3.toInt ≤ v491.toInt) := fun h9 => c9 ((fi_le rfl rfl).mpr h9)
            refine lv_aload_n hx hb dX5_chooseFrom_90 rfl (lv_at hl 1 rfl) ?_
            refine tk_get (ci := 5) (C := RX5) (T := TX5) (N := 11) (sp := (8, 20, 3, 0)) hx hb htl inX5 hown hK hG ht_a0 (by decide) tk_no rfl 0 (by decide) (htl _ mw_155) (fun _ h9 => h9) rfl dX5_chooseFrom_91 (fun v9 hf908 hV9 => ?_)
            obtain ⟨rfl, ht_ld20⟩ := hV9
            have ht_ld20 : t (ld 20) = (3, 0, 0) := ht_ld20
            refine fx_top (v := .ref (ld 20)) rfl ?_
            refine tk_get (ci := 2) (C := RX2) (T := TX2) (N := 20) (sp := (1, 21, 8, 0)) hx hb htl inX2 hown hK hG ht_ld20 (by decide) tk_no rfl 2 (by decide) (htl _ mw_1420) (fun _ h9 => h9) rfl dX5_chooseFrom_94 (fun v9 hf909 hV9 => ?_)
            obtain ⟨b910, rfl, ht_b910⟩ := hV9
            have ht_b910 : t b910 = (21, 8, 0) := ht_b910
            refine lv_iload hx hb dX5_chooseFrom_97 (lv_at hl 0 rfl) ?_
            refine tk_iald hx hb hK hG ht_b910 (by decide) (fun _ h => h) tk_no rfl (by omega) (by omega) dX5_chooseFrom_99 (fun v911 hE9 _ => ?_)
            have he_v911 : 0 ≤ v911.toInt ∧ v911.toInt ≤ 1 := hE9
            refine lv_iconst (v := 1) hx hb dX5_chooseFrom_100 (by decide) ?_
            have hj939 : ∀ (H : Heap) (locs : List Loc), tk_G D cy ld t [] H → va_S (tk_w t [(20, 0, 0), (6, 0, 0)]) s.heap H locs → tk_f D H (ld 20) 2 0 (.int v3) → ∀ ls : Array Slot, lv_has ls 7 [(5, .int v491), (0, .ref a0), (1, .int 1), (2, .int p2), (3, .int p3), (4, .int p4)] → W p l e ({ frames := 11, cells := 0, slots := 0, locals := 700 }) s m args below meth c H locs 0 0 (MQ below (tv D cy ld t [] (fun H => True) (tk_w t [(20, 0, 0), (6, 0, 0)])) args s 0 0 (tk_w t [(20, 0, 0), (6, 0, 0)])) (F0 m 170 ls []) := by
              intro H locs hG hS hf2 ls hl
              obtain ⟨v940, h_v940, e_v940⟩ := tk_inc v491 1 (by decide) (by omega) (by omega)
              refine lv_iinc (v := v940) (lv' := [(5, .int v940), (0, .ref a0), (1, .int 1), (2, .int p2), (3, .int p3), (4, .int p4)]) hx hb dX5_chooseFrom_170 hl (k := 0) rfl e_v940 (by decide) rfl (fun ls hl => ?_)
              refine lv_goto (tgt := 78) hx hb dX5_chooseFrom_173 (by decide) ?_
              exact ih v940 _ _ (by omega) (by omega) (by omega) hG hS hf2 _ (lv_sub hl [0, 1, 2, 3, 4, 5] rfl)
            refine lv_icmp_ne (tgt := 170) hx hb dX5_chooseFrom_101 (by decide) (fun c9 => ?_) (fun c9 => ?_)
            · have hc912 : ¬ (v911.toInt = 1) := fun h9 => c9 ((fi_eq rfl (by decide)).mpr h9)
              exact hj939 _ _ hG hS hf2 _ (lv_sub hl [0, 1, 2, 3, 4, 5] rfl)
            · have hc912 : v911.toInt = 1 := (fi_eq rfl (by decide)).mp c9
              refine lv_iload_n hx hb dX5_chooseFrom_104 rfl (lv_at hl 3 rfl) ?_
              refine lv_iload hx hb dX5_chooseFrom_105 (lv_at hl 0 rfl) ?_
              refine lv_ishr hx hb dX5_chooseFrom_107 ?_
              refine tk_any (fun v941 => ?_)
              refine lv_iconst (v := 1) hx hb dX5_chooseFrom_108 (by decide) ?_
              refine lv_iand hx hb dX5_chooseFrom_109 ?_
              refine tk_say (P := fun z => 0 ≤ z.toInt ∧ z.toInt ≤ 1) (tk_and v941 1 (by decide) (by decide)) (fun v942 h_v942 => ?_)
              refine lv_if_ne (tgt := 170) hx hb dX5_chooseFrom_110 (by decide) (fun c9 => ?_) (fun c9 => ?_)
              · have hc943 : ¬ (v942.toInt = 0) := fun h9 => c9 ((fi_eq rfl (by decide)).mpr h9)
                exact hj939 _ _ hG hS hf2 _ (lv_sub hl [0, 1, 2, 3, 4, 5] rfl)
              · have hc943 : v942.toInt = 0 := (fi_eq rfl (by decide)).mp c9
                refine lv_aload_n hx hb dX5_chooseFrom_113 rfl (lv_at hl 1 rfl) ?_
                refine tk_get (ci := 5) (C := RX5) (T := TX5) (N := 11) (sp := (6, 30, 8, 0)) hx hb htl inX5 hown hK hG ht_a0 (by decide) tk_no rfl 6 (by decide) (htl _ mw_152) (fun _ h9 => h9) rfl dX5_chooseFrom_114 (fun v9 hf944 hV9 => ?_)
                obtain ⟨b945, rfl, ht_b945⟩ := hV9
                have ht_b945 : t b945 = (30, 8, 0) := ht_b945
                refine lv_iload_n hx hb dX5_chooseFrom_117 rfl (lv_at hl 2 rfl) ?_
                refine tk_aald hx hb hK hG 6 rfl rfl ht_b945 (by decide) (fun _ h => h) tk_no (I := 1) (by decide) (by decide) (by decide) dX5_chooseFrom_118 (fun o946 ht_o946 => ?_)
                obtain ⟨b947, rfl, ht_b947⟩ := ht_o946
                have ht_b947 : t b947 = (20, 8, 0) := ht_b947
                refine fx_top (v := .ref b947) rfl ?_
                refine lv_iload hx hb dX5_chooseFrom_119 (lv_at hl 0 rfl) ?_
                refine tk_iald hx hb hK hG ht_b947 (by decide) (fun _ h => h) tk_no rfl (by omega) (by omega) dX5_chooseFrom_121 (fun v948 _ _ => ?_)
                have hr_v948 := tk_rng v948
                refine lv_istore (lv' := [(6, .int v948), (5, .int v491), (0, .ref a0), (1, .int 1), (2, .int p2), (3, .int p3), (4, .int p4)]) hx hb dX5_chooseFrom_122 hl (by decide) rfl (fun ls hl => ?_)
                refine lv_aload_n hx hb dX5_chooseFrom_124 rfl (lv_at hl 2 rfl) ?_
                refine tk_get (ci := 5) (C := RX5) (T := TX5) (N := 11) (sp := (6, 20, 8, 0)) hx hb htl inX5 hown hK hG ht_a0 (by decide) tk_no rfl 7 (by decide) (htl _ mw_153) (fun _ h9 => h9) rfl dX5_chooseFrom_125 (fun v9 hf949 hV9 => ?_)
                obtain ⟨b950, rfl, ht_b950⟩ := hV9
                have ht_b950 : t b950 = (20, 8, 0) := ht_b950
                refine lv_iload_n hx hb dX5_chooseFrom_128 rfl (lv_at hl 3 rfl) ?_
                refine lv_iload hx hb dX5_chooseFrom_129 (lv_at hl 1 rfl) ?_
                refine tk_iast hx hb hK hG hS ht_b950 (by decide) (fun _ => Iff.rfl) tk_no (I := 1) (by decide) (by decide) (by decide) trivial (tk_w.of ht_b950 (by decide) (List.mem_of_getElem? (i := 0) rfl) (Nat.le_refl _) (Nat.le_refl _)) dX5_chooseFrom_131 (fun H locs hG hS hq9 => ?_)
                have hf2 := hf2.kept (hq9 _ (tk_ne ht_ld20 ht_b950 (Or.inl (by decide))))
                refine lv_aload_n hx hb dX5_chooseFrom_132 rfl (lv_at hl 2 rfl) ?_
                refine lv_iload_n hx hb dX5_chooseFrom_133 rfl (lv_at hl 3 rfl) ?_
                refine lv_iconst (v := 1) hx hb dX5_chooseFrom_134 (by decide) ?_
                refine lv_iadd hx hb dX5_chooseFrom_135 ?_
                refine fx_ti (v := 2) (by decide) ?_
                refine lv_iload_n hx hb dX5_chooseFrom_136 rfl (lv_at hl 4 rfl) ?_
                refine lv_iconst (v := 1) hx hb dX5_chooseFrom_137 (by decide) ?_
                refine lv_iload hx hb dX5_chooseFrom_138 (lv_at hl 1 rfl) ?_
                refine lv_ishl hx hb dX5_chooseFrom_140 ?_
                refine tk_say (P := fun z => 1 ≤ z.toInt ∧ z.toInt ≤ 1024) (tk_shl1 v491 (by omega) (by omega)) (fun v952 h_v952 => ?_)
                refine lv_ior hx hb dX5_chooseFrom_141 ?_
                refine tk_any (fun v953 => ?_)
                refine lv_iload_n hx hb dX5_chooseFrom_142 rfl (lv_at hl 5 rfl) ?_
                refine lv_iload hx hb dX5_chooseFrom_143 (lv_at hl 0 rfl) ?_
                have hj957 : ∀ (v956 : Int32), 0 ≤ v956.toInt → v956.toInt ≤ 1 → ∀ ls : Array Slot, lv_has ls 7 [(6, .int v948), (5, .int v491), (0, .ref a0), (1, .int 1), (2, .int p2), (3, .int p3), (4, .int p4)] → W p l e ({ frames := 11, cells := 0, slots := 0, locals := 700 }) s m args below meth c H locs 0 0 (MQ below (tv D cy ld t [] (fun H => True) (tk_w t [(20, 0, 0), (6, 0, 0)])) args s 0 0 (tk_w t [(20, 0, 0), (6, 0, 0)])) (F0 m 153 ls [.int v956, .int p3, .int v953, .int 2, .ref a0]) := by
                  intro v956 hq0_j957 hq1_j957 ls hl
                  refine lv_iadd hx hb dX5_chooseFrom_153 ?_
                  obtain ⟨v958, hm_v958⟩ : ∃ z : Int32, p3 + v956 = z := ⟨_, rfl⟩
                  refine fx_ti hm_v958 ?_
                  refine lv_iload hx hb dX5_chooseFrom_154 (lv_at hl 6 rfl) ?_
                  refine lv_iload hx hb dX5_chooseFrom_156 (lv_at hl 0 rfl) ?_
                  have hj962 : ∀ (v961 : Int32), 0 ≤ v961.toInt → v961.toInt ≤ 1 → ∀ ls : Array Slot, lv_has ls 7 [(5, .int v491), (0, .ref a0), (1, .int 1), (2, .int p2), (3, .int p3), (4, .int p4)] → W p l e ({ frames := 11, cells := 0, slots := 0, locals := 700 }) s m args below meth c H locs 0 0 (MQ below (tv D cy ld t [] (fun H => True) (tk_w t [(20, 0, 0), (6, 0, 0)])) args s 0 0 (tk_w t [(20, 0, 0), (6, 0, 0)])) (F0 m 166 ls [.int v961, .int p4, .int v958, .int v953, .int 2, .ref a0]) := by
                    intro v961 hq0_j962 hq1_j962 ls hl
                    refine lv_iadd hx hb dX5_chooseFrom_166 ?_
                    obtain ⟨v963, hm_v963⟩ : ∃ z : Int32, p4 + v961 = z := ⟨_, rfl⟩
                    refine fx_ti hm_v963 ?_
                    have hk_2 : (2 : Int32).toInt = 2 := by decide
                    refine tk_Vv (As := [.int 2, .int v953, .int v958, .int v963]) (rest := []) (ci := 5) ⟨hx, hb, hml, hown, hts⟩ hK hG hZ hS (k_X5_chooseFrom_2 l D cy ld t a0 v953 v958 v963 ht_a0) trivial ⟨callB_of 4 hts (wl_in mw_1427) rfl rfl rfl (htl _ mw_40) (htl _ mw_1424) hd_yX5_chooseFrom ⟨(Nat.le_of_ble_eq_true rfl), (Nat.le_of_ble_eq_true rfl)⟩, htl _ mw_1425, htl _ mw_1426⟩ ht_a0 (by decide) tk_no rfl (tk_w.pick [0, 1] rfl) rfl hl.1 rfl (Nat.le_of_ble_eq_true rfl) dX5_chooseFrom_167 ⟨(Nat.le_of_ble_eq_true rfl), (Nat.le_of_ble_eq_true rfl)⟩ (fun H locs hpo hG hS hq9 => ?_)
                    have hf2 := hf2.call hq9 (tk_w.no ht_ld20 (by decide))
                    exact hj939 _ _ hG hS hf2 _ (lv_sub hl [0, 1, 2, 3, 4, 5] rfl)
                  refine lv_if_ge (tgt := 165) hx hb dX5_chooseFrom_158 (by decide) (fun c9 => ?_) (fun c9 => ?_)
                  · have hc959 : 0 ≤ v948.toInt := (fi_le (by decide) rfl).mp c9
                    refine lv_iconst (v := 0) hx hb dX5_chooseFrom_165 (by decide) ?_
                    have hk_0 : (0 : Int32).toInt = 0 := by decide
                    exact hj962 0 (by omega) (by omega) _ (lv_sub hl [1, 2, 3, 4, 5, 6] rfl)
                  · have hc959 : ¬ (0 ≤ v948.toInt) := fun h9 => c9 ((fi_le (by decide) rfl).mpr h9)
                    refine lv_iconst (v := 1) hx hb dX5_chooseFrom_161 (by decide) ?_
                    refine lv_goto (tgt := 166) hx hb dX5_chooseFrom_162 (by decide) ?_
                    have hk_1 : (1 : Int32).toInt = 1 := by decide
                    exact hj962 1 (by omega) (by omega) _ (lv_sub hl [1, 2, 3, 4, 5, 6] rfl)
                refine lv_if_le (tgt := 152) hx hb dX5_chooseFrom_145 (by decide) (fun c9 => ?_) (fun c9 => ?_)
                · have hc954 : v948.toInt ≤ 0 := (fi_le rfl (by decide)).mp c9
                  refine lv_iconst (v := 0) hx hb dX5_chooseFrom_152 (by decide) ?_
                  have hk_0 : (0 : Int32).toInt = 0 := by decide
                  exact hj957 0 (by omega) (by omega) _ (lv_sub hl [0, 1, 2, 3, 4, 5, 6] rfl)
                · have hc954 : ¬ (v948.toInt ≤ 0) := fun h9 => c9 ((fi_le rfl (by decide)).mpr h9)
                  refine lv_iconst (v := 1) hx hb dX5_chooseFrom_148 (by decide) ?_
                  refine lv_goto (tgt := 153) hx hb dX5_chooseFrom_149 (by decide) ?_
                  have hk_1 : (1 : Int32).toInt = 1 := by decide
                  exact hj957 1 (by omega) (by omega) _ (lv_sub hl [0, 1, 2, 3, 4, 5, 6] rfl)
      have hk_0 : (0 : Int32).toInt = 0 := by decide
      exact hl905 9 0 _ _ (by omega) (by omega) (by omega) hG hS hf2 _ (lv_sub hl [0, 1, 2, 3, 4, 5] rfl)
  · have hc4 : ¬ (1 < v3.toInt) := fun h9 => c9 ((fi_lt (by decide) rfl).mpr h9)
    refine lv_iload_n hx hb dX5_chooseFrom_11 rfl (lv_at hl 3 rfl) ?_
    refine lv_aload_n hx hb dX5_chooseFrom_12 rfl (lv_at hl 0 rfl) ?_
    refine tk_get (ci := 5) (C := RX5) (T := TX5) (N := 11) (sp := (0, (-2147483648), 2147483647, 0)) hx hb htl inX5 hown hK hG ht_a0 (by decide) tk_no rfl 9 (by decide) (htl _ mw_1421) (fun _ h9 => h9) rfl dX5_chooseFrom_13 (fun v9 hf965 hV9 => ?_)
    obtain ⟨v966, rfl, ha_v966, hb_v966⟩ := hV9
    have hj994 : ∀ (H : Heap) (locs : List Loc), tk_G D cy ld t [] H → va_S (tk_w t [(20, 0, 0), (6, 0, 0)]) s.heap H locs → tk_f D H (ld 20) 2 0 (.int v3) → ∀ ls : Array Slot, lv_has ls 7 [] → W p l e ({ frames := 11, cells := 0, slots := 0, locals := 700 }) s m args below meth c H locs 0 0 (MQ below (tv D cy ld t [] (fun H => True) (tk_w t [(20, 0, 0), (6, 0, 0)])) args s 0 0 (tk_w t [(20, 0, 0), (6, 0, 0)])) (F0 m 62 ls []) := by
      intro H locs hG hS hf2 ls hl
      exact tk_vret hx hb hr hlocks trivial hG hS dX5_chooseFrom_62
    refine lv_icmp_gt (tgt := 36) hx hb dX5_chooseFrom_16 (by decide) (fun c9 => ?_) (fun c9 => ?_)
    · have hc967 : v966.toInt < p3.toInt := (fi_lt rfl rfl).mp c9
      refine lv_aload_n hx hb dX5_chooseFrom_36 rfl (lv_at hl 0 rfl) ?_
      refine lv_iload_n hx hb dX5_chooseFrom_37 rfl (lv_at hl 3 rfl) ?_
      refine tk_put (ci := 5) (v := .int p3) (ty := .int) (C := RX5) (T := TX5) (N := 11) (sp := (0, (-2147483648), 2147483647, 0)) hx hb htl inX5 tyX5 tyX5_ok nmX5 hown hK hG hS ht_a0 (by decide) tk_no rfl 9 (by decide) (htl _ mw_1421) (fun _ h9 => h9) rfl (tyX5_ok 9 (by decide)) rfl rfl rfl (tk_Vi (tk_rng _).1 (tk_rng _).2) (fun _ h => h) (tk_w.of ht_a0 (by decide) (List.mem_of_getElem? (i := 1) rfl) (Nat.le_refl _) (Nat.le_refl _)) dX5_chooseFrom_38 (fun H locs hG hS hf995 hq9 hj9 => ?_)
      have hf2 := hf2.kept (hq9 _ (tk_ne ht_ld20 ht_a0 (Or.inl (by decide))))
      refine lv_aload_n hx hb dX5_chooseFrom_41 rfl (lv_at hl 0 rfl) ?_
      refine lv_iload hx hb dX5_chooseFrom_42 (lv_at hl 4 rfl) ?_
      refine tk_put (ci := 5) (v := .int p4) (ty := .int) (C := RX5) (T := TX5) (N := 11) (sp := (0, (-2147483648), 2147483647, 0)) hx hb htl inX5 tyX5 tyX5_ok nmX5 hown hK hG hS ht_a0 (by decide) tk_no rfl 10 (by decide) (htl _ mw_1422) (fun _ h9 => h9) rfl (tyX5_ok 10 (by decide)) rfl rfl rfl (tk_Vi (tk_rng _).1 (tk_rng _).2) (fun _ h => h) (tk_w.of ht_a0 (by decide) (List.mem_of_getElem? (i := 1) rfl) (Nat.le_refl _) (Nat.le_refl _)) dX5_chooseFrom_44 (fun H locs hG hS hf997 hq9 hj9 => ?_)
      have hf2 := hf2.kept (hq9 _ (tk_ne ht_ld20 ht_a0 (Or.inl (by decide))))
      refine lv_aload_n hx hb dX5_chooseFrom_47 rfl (lv_at hl 0 rfl) ?_
      refine tk_get (ci := 5) (C := RX5) (T := TX5) (N := 11) (sp := (6, 20, 8, 0)) hx hb htl inX5 hown hK hG ht_a0 (by decide) tk_no rfl 7 (by decide) (htl _ mw_153) (fun _ h9 => h9) rfl dX5_chooseFrom_48 (fun v9 hf999 hV9 => ?_)
      obtain ⟨b1000, rfl, ht_b1000⟩ := hV9
      have ht_b1000 : t b1000 = (20, 8, 0) := ht_b1000
      refine lv_iconst (v := 0) hx hb dX5_chooseFrom_51 (by decide) ?_
      refine lv_aload_n hx hb dX5_chooseFrom_52 rfl (lv_at hl 0 rfl) ?_
      refine tk_get (ci := 5) (C := RX5) (T := TX5) (N := 11) (sp := (6, 20, 8, 0)) hx hb htl inX5 hown hK hG ht_a0 (by decide) tk_no rfl 8 (by decide) (htl _ mw_154) (fun _ h9 => h9) rfl dX5_chooseFrom_53 (fun v9 hf1001 hV9 => ?_)
      obtain ⟨b1002, rfl, ht_b1002⟩ := hV9
      have ht_b1002 : t b1002 = (20, 8, 0) := ht_b1002
      refine lv_iconst (v := 0) hx hb dX5_chooseFrom_56 (by decide) ?_
      refine lv_bipush (v := 8) hx hb dX5_chooseFrom_57 (by decide) ?_
      refine tk_copy (SP := 0) (DP := 0) (NC := 8) hx hb (by rw [hml]; exact hl.1.symm) hown (htl _ mw_1428) (htl _ mw_655) (htl _ mw_656) (htl _ mw_657) hK hG hS ht_b1000 ht_b1002 (by decide) (by decide) (fun _ h => h) (fun _ => Iff.rfl) tk_no tk_no (by decide) (by decide) (by decide) (by decide) (by decide) (by decide) (by decide) (by decide) (fun _ _ _ _ _ => trivial) (tk_w.of ht_b1002 (by decide) (List.mem_of_getElem? (i := 0) rfl) (Nat.le_refl _) (Nat.le_refl _)) (Nat.le_of_ble_eq_true rfl) (Nat.le_of_ble_eq_true rfl) dX5_chooseFrom_59 (fun H locs hG hS hq9 => ?_)
      have hf2 := hf2.kept (hq9 _ (tk_ne ht_ld20 ht_b1002 (Or.inl (by decide))))
      exact hj994 _ _ hG hS hf2 _ (lv_sub hl [] rfl)
    · have hc967 : ¬ (v966.toInt < p3.toInt) := fun h9 => c9 ((fi_lt rfl rfl).mpr h9)
      refine lv_iload_n hx hb dX5_chooseFrom_19 rfl (lv_at hl 3 rfl) ?_
      refine lv_aload_n hx hb dX5_chooseFrom_20 rfl (lv_at hl 0 rfl) ?_
      refine tk_get (ci := 5) (C := RX5) (T := TX5) (N := 11) (sp := (0, (-2147483648), 2147483647, 0)) hx hb htl inX5 hown hK hG ht_a0 (by decide) tk_no rfl 9 (by decide) (htl _ mw_1421) (fun _ h9 => h9) rfl dX5_chooseFrom_21 (fun v9 hf1004 hV9 => ?_)
      obtain ⟨v1005, rfl, ha_v1005, hb_v1005⟩ := hV9
      refine lv_icmp_ne (tgt := 62) hx hb dX5_chooseFrom_24 (by decide) (fun c9 => ?_) (fun c9 => ?_)
      · have hc1006 : ¬ (p3.toInt = v1005.toInt) := fun h9 => c9 ((fi_eq rfl rfl).mpr h9)
        exact hj994 _ _ hG hS hf2 _ (lv_sub hl [] rfl)
      · have hc1006 : p3.toInt = v1005.toInt := (fi_eq rfl rfl).mp c9
        refine lv_iload hx hb dX5_chooseFrom_27 (lv_at hl 4 rfl) ?_
        refine lv_aload_n hx hb dX5_chooseFrom_29 rfl (lv_at hl 0 rfl) ?_
        refine tk_get (ci := 5) (C := RX5) (T := TX5) (N := 11) (sp := (0, (-2147483648), 2147483647, 0)) hx hb htl inX5 hown hK hG ht_a0 (by decide) tk_no rfl 10 (by decide) (htl _ mw_1422) (fun _ h9 => h9) rfl dX5_chooseFrom_30 (fun v9 hf1007 hV9 => ?_)
        obtain ⟨v1008, rfl, ha_v1008, hb_v1008⟩ := hV9
        refine lv_icmp_ge (tgt := 62) hx hb dX5_chooseFrom_33 (by decide) (fun c9 => ?_) (fun c9 => ?_)
        · have hc1009 : v1008.toInt ≤ p4.toInt := (fi_le rfl rfl).mp c9
          exact hj994 _ _ hG hS hf2 _ (lv_sub hl [] rfl)
        · have hc1009 : ¬ (v1008.toInt ≤ p4.toInt) := fun h9 => c9 ((fi_le rfl rfl).mpr h9)
          refine lv_aload_n hx hb dX5_chooseFrom_36 rfl (lv_at hl 0 rfl) ?_
          refine lv_iload_n hx hb dX5_chooseFrom_37 rfl (lv_at hl 3 rfl) ?_
          refine tk_put (ci := 5) (v := .int p3) (ty := .int) (C := RX5) (T := TX5) (N := 11) (sp := (0, (-2147483648), 2147483647, 0)) hx hb htl inX5 tyX5 tyX5_ok nmX5 hown hK hG hS ht_a0 (by decide) tk_no rfl 9 (by decide) (htl _ mw_1421) (fun _ h9 => h9) rfl (tyX5_ok 9 (by decide)) rfl rfl rfl (tk_Vi (tk_rng _).1 (tk_rng _).2) (fun _ h => h) (tk_w.of ht_a0 (by decide) (List.mem_of_getElem? (i := 1) rfl) (Nat.le_refl _) (Nat.le_refl _)) dX5_chooseFrom_38 (fun H locs hG hS hf1010 hq9 hj9 => ?_)
          have hf2 := hf2.kept (hq9 _ (tk_ne ht_ld20 ht_a0 (Or.inl (by decide))))
          refine lv_aload_n hx hb dX5_chooseFrom_41 rfl (lv_at hl 0 rfl) ?_
          refine lv_iload hx hb dX5_chooseFrom_42 (lv_at hl 4 rfl) ?_
          refine tk_put (ci := 5) (v := .int p4) (ty := .int) (C := RX5) (T := TX5) (N := 11) (sp := (0, (-2147483648), 2147483647, 0)) hx hb htl inX5 tyX5 tyX5_ok nmX5 hown hK hG hS ht_a0 (by decide) tk_no rfl 10 (by decide) (htl _ mw_1422) (fun _ h9 => h9) rfl (tyX5_ok 10 (by decide)) rfl rfl rfl (tk_Vi (tk_rng _).1 (tk_rng _).2) (fun _ h => h) (tk_w.of ht_a0 (by decide) (List.mem_of_getElem? (i := 1) rfl) (Nat.le_refl _) (Nat.le_refl _)) dX5_chooseFrom_44 (fun H locs hG hS hf1012 hq9 hj9 => ?_)
          have hf2 := hf2.kept (hq9 _ (tk_ne ht_ld20 ht_a0 (Or.inl (by decide))))
          refine lv_aload_n hx hb dX5_chooseFrom_47 rfl (lv_at hl 0 rfl) ?_
          refine tk_get (ci := 5) (C := RX5) (T := TX5) (N := 11) (sp := (6, 20, 8, 0)) hx hb htl inX5 hown hK hG ht_a0 (by decide) tk_no rfl 7 (by decide) (htl _ mw_153) (fun _ h9 => h9) rfl dX5_chooseFrom_48 (fun v9 hf1014 hV9 => ?_)
          obtain ⟨b1015, rfl, ht_b1015⟩ := hV9
          have ht_b1015 : t b1015 = (20, 8, 0) := ht_b1015
          refine lv_iconst (v := 0) hx hb dX5_chooseFrom_51 (by decide) ?_
          refine lv_aload_n hx hb dX5_chooseFrom_52 rfl (lv_at hl 0 rfl) ?_
          refine tk_get (ci := 5) (C := RX5) (T := TX5) (N := 11) (sp := (6, 20, 8, 0)) hx hb htl inX5 hown hK hG ht_a0 (by decide) tk_no rfl 8 (by decide) (htl _ mw_154) (fun _ h9 => h9) rfl dX5_chooseFrom_53 (fun v9 hf1016 hV9 => ?_)
          obtain ⟨b1017, rfl, ht_b1017⟩ := hV9
          have ht_b1017 : t b1017 = (20, 8, 0) := ht_b1017
          refine lv_iconst (v := 0) hx hb dX5_chooseFrom_56 (by decide) ?_
          refine lv_bipush (v := 8) hx hb dX5_chooseFrom_57 (by decide) ?_
          refine tk_copy (SP := 0) (DP := 0) (NC := 8) hx hb (by rw [hml]; exact hl.1.symm) hown (htl _ mw_1428) (htl _ mw_655) (htl _ mw_656) (htl _ mw_657) hK hG hS ht_b1015 ht_b1017 (by decide) (by decide) (fun _ h => h) (fun _ => Iff.rfl) tk_no tk_no (by decide) (by decide) (by decide) (by decide) (by decide) (by decide) (by decide) (by decide) (fun _ _ _ _ _ => trivial) (tk_w.of ht_b1017 (by decide) (List.mem_of_getElem? (i := 0) rfl) (Nat.le_refl _) (Nat.le_refl _)) (Nat.le_of_ble_eq_true rfl) (Nat.le_of_ble_eq_true rfl) dX5_chooseFrom_59 (fun H locs hG hS hq9 => ?_)
          have hf2 := hf2.kept (hq9 _ (tk_ne ht_ld20 ht_b1017 (Or.inl (by decide))))
          exact hj994 _ _ hG hS hf2 _ (lv_sub hl [] rfl)
