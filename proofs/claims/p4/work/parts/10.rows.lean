set_option maxHeartbeats 4000000 in
set_option maxRecDepth 100000 in
theorem k_X5_worthOf_1 (l : Launch) (D : va_G) (cy : Nat → ClassId) (ld : Nat → Nat) (t : tk_T) (a0 : Nat) (p2 : Int32) (p3 : Int32) (ht_a0 : t a0 = (6, 0, 0)) : Met l yX5_worthOf (wl yX5_worthOf cX5_worthOf 11 (some .int)) ({ frames := 9, cells := 0, slots := 0, locals := 560 }) (tp D cy ld t [] [.ref a0, .int 1, .int p2, .int p3] (fun H => True)) (ti D cy ld t [] (fun r H => (-1000000000) ≤ r.toInt ∧ r.toInt ≤ 1000000000) (tk_w t [(20, 0, 0), (12, 0, 0), (9, 0, 0), (20, 12, 12), (10, 12, 12), (20, 13, 13), (10, 13, 13), (20, 14, 14), (10, 14, 14)])) 0 0 (tk_w t [(20, 0, 0), (12, 0, 0), (9, 0, 0), (20, 12, 12), (10, 12, 12), (20, 13, 13), (10, 13, 13), (20, 14, 14), (10, 14, 14)]) := by
  refine tk_met (y := yX5_worthOf) (cc := cX5_worthOf) (maxL := 11) (ret := (some .int)) (av := [.ref a0, .int 1, .int p2, .int p3]) _ _ (by decide) (Nat.le_of_ble_eq_true rfl) ?_
  intro p e s m args below meth c hx hb hr hml hts htl hown hlocks hK H locs hH hG hS hB hZ ls hl
  have hown : s.vm.findClass RX5 = some m.cls := hown
  have hl : lv_has ls 11 [(0, .ref a0), (1, .int 1), (2, .int p2), (3, .int p3)] := hl
  have hr_p2 := tk_rng p2
  have hr_p3 := tk_rng p3
  refine lv_iload_n hx hb dX5_worthOf_0 rfl (lv_at hl 1 rfl) ?_
  refine lv_aload_n hx hb dX5_worthOf_1 rfl (lv_at hl 0 rfl) ?_
  refine tk_get (ci := 5) (C := RX5) (T := TX5) (N := 11) (sp := (0, (-2147483648), 2147483647, 0)) hx hb htl inX5 hown hK hG ht_a0 (by decide) tk_no rfl 3 (by decide) (htl _ mw_1286) (fun _ h9 => h9) rfl dX5_worthOf_2 (fun v9 hf1 hV9 => ?_)
  obtain ⟨v2, rfl, (ha_v2 : (-2147483648) ≤ v2.toInt), (hb_v2 : v2.toInt ≤ 2147483647)⟩ := hV9
  refine lv_icmp_ge (tgt := 25) hx hb dX5_worthOf_5 (by decide) (fun c9 => ?_) (fun c9 => ?_)
  · have hc3 : v2.toInt ≤ 1 := (fi_le rfl (show (1 : Int32).toInt = 1 by decide)).mp c9
    refine lv_iconst (v := 0) hx hb dX5_worthOf_25 (by decide) ?_
    have hk_0 : (0 : Int32).toInt = 0 := by decide
    exact tk_iret (v := 0) hx hb hr rfl hlocks (show (-1000000000) ≤ (0 : Int32).toInt ∧ (0 : Int32).toInt ≤ 1000000000 from ⟨(by omega), (by omega)⟩) hG hS dX5_worthOf_26
  · have hc3 : ¬ (v2.toInt ≤ 1) := fun h9 => c9 ((fi_le rfl (show (1 : Int32).toInt = 1 by decide)).mpr h9)
    refine lv_iload_n hx hb dX5_worthOf_8 rfl (lv_at hl 1 rfl) ?_
    refine lv_iconst (v := 4) hx hb dX5_worthOf_9 (by decide) ?_
    refine lv_icmp_ge (tgt := 25) hx hb dX5_worthOf_10 (by decide) (fun c9 => absurd c9 (by decide)) (fun _ => ?_)
    refine lv_aload_n hx hb dX5_worthOf_13 rfl (lv_at hl 0 rfl) ?_
    refine tk_get (ci := 5) (C := RX5) (T := TX5) (N := 11) (sp := (6, 26, 5, 0)) hx hb htl inX5 hown hK hG ht_a0 (by decide) tk_no rfl 2 (by decide) (htl _ mw_149) (fun _ h9 => h9) rfl dX5_worthOf_14 (fun v9 hf4 hV9 => ?_)
    obtain ⟨b5, rfl, ht_b5⟩ := hV9
    have ht_b5 : t b5 = (26, 5, 0) := ht_b5
    refine lv_iload_n hx hb dX5_worthOf_17 rfl (lv_at hl 1 rfl) ?_
    refine tk_aald hx hb hK hG 3 rfl rfl ht_b5 (by decide) (fun _ h => h) tk_no (I := 1) (by decide) (by decide) (by decide) dX5_worthOf_18 (fun o6 ht_o6 => ?_)
    obtain ⟨rfl, ht_ld31⟩ := ht_o6
    have ht_ld31 : t (ld 31) = (10, 0, 11) := ht_ld31
    refine fx_top (v := .ref (ld 31)) rfl ?_
    obtain ⟨v9, hf7, hV9⟩ := tk_peek (ci := 9) (C := RX9) (T := TX9) (N := 11) (sp := (0, (-1), 7, 0)) hG ht_ld31 (by decide) tk_no rfl 5 (by decide) rfl
    obtain ⟨v8, rfl, (ha_v8 : (-1) ≤ v8.toInt), (hb_v8 : v8.toInt ≤ 7)⟩ := hV9
    refine tk_Vi (As := []) (rest := []) (ci := 9) ⟨hx, hb, hml, hown, hts⟩ hK hG hZ hS (k_X9_isDuel l D cy ld t 11 (ld 31) v8 ht_ld31 (by omega) (by omega)) hf7 ⟨callB_of 0 hts (wl_in mw_840) rfl rfl rfl (htl _ mw_76) (htl _ mw_1299) hd_yX9_isDuel ⟨(Nat.le_of_ble_eq_true rfl), (Nat.le_of_ble_eq_true rfl)⟩, htl _ mw_838, htl _ mw_839⟩ ht_ld31 (by decide) tk_no rfl (tk_w.pick [] rfl) rfl hl.1 rfl (Nat.le_of_ble_eq_true rfl) dX5_worthOf_19 ⟨(Nat.le_of_ble_eq_true rfl), (Nat.le_of_ble_eq_true rfl)⟩ (fun v9 H locs hpo hG hS hq9 => ?_)
    have hf7 := hf7.call hq9 tk_w.nil
    obtain ⟨hpo11, hpo12, hpo13, hpo14, hpo15⟩ := hpo
    refine lv_if_ne (tgt := 27) hx hb dX5_worthOf_22 (by decide) (fun c9 => ?_) (fun c9 => ?_)
    · have hc16 : ¬ (v9.toInt = 0) := fun h9 => c9 ((fi_eq rfl (show (0 : Int32).toInt = 0 by decide)).mpr h9)
      refine lv_aload_n hx hb dX5_worthOf_27 rfl (lv_at hl 0 rfl) ?_
      refine tk_get (ci := 5) (C := RX5) (T := TX5) (N := 11) (sp := (6, 26, 5, 0)) hx hb htl inX5 hown hK hG ht_a0 (by decide) tk_no rfl 2 (by decide) (htl _ mw_149) (fun _ h9 => h9) rfl dX5_worthOf_28 (fun v9 hf17 hV9 => ?_)
      obtain ⟨b18, rfl, ht_b18⟩ := hV9
      have ht_b18 : t b18 = (26, 5, 0) := ht_b18
      refine lv_iload_n hx hb dX5_worthOf_31 rfl (lv_at hl 1 rfl) ?_
      refine tk_aald hx hb hK hG 3 rfl rfl ht_b18 (by decide) (fun _ h => h) tk_no (I := 1) (by decide) (by decide) (by decide) dX5_worthOf_32 (fun o19 ht_o19 => ?_)
      obtain ⟨rfl, ht_ld31⟩ := ht_o19
      have ht_ld31 : t (ld 31) = (10, 0, 11) := ht_ld31
      refine fx_top (v := .ref (ld 31)) rfl ?_
      refine lv_astore (lv' := [(4, .ref (ld 31)), (0, .ref a0), (1, .int 1), (2, .int p2), (3, .int p3)]) hx hb dX5_worthOf_33 hl (by decide) rfl (fun ls hl => ?_)
      refine lv_aload_n hx hb dX5_worthOf_35 rfl (lv_at hl 1 rfl) ?_
      refine tk_get (ci := 5) (C := RX5) (T := TX5) (N := 11) (sp := (6, 26, 5, 0)) hx hb htl inX5 hown hK hG ht_a0 (by decide) tk_no rfl 2 (by decide) (htl _ mw_149) (fun _ h9 => h9) rfl dX5_worthOf_36 (fun v9 hf20 hV9 => ?_)
      obtain ⟨b21, rfl, ht_b21⟩ := hV9
      have ht_b21 : t b21 = (26, 5, 0) := ht_b21
      refine lv_iload_n hx hb dX5_worthOf_39 rfl (lv_at hl 2 rfl) ?_
      refine lv_iconst (v := 1) hx hb dX5_worthOf_40 (by decide) ?_
      refine lv_iadd hx hb dX5_worthOf_41 ?_
      refine fx_ti (v := 2) (by decide) ?_
      refine tk_aald hx hb hK hG 3 rfl rfl ht_b21 (by decide) (fun _ h => h) tk_no (I := 2) (by decide) (by decide) (by decide) dX5_worthOf_42 (fun o22 ht_o22 => ?_)
      obtain ⟨rfl, ht_ld32⟩ := ht_o22
      have ht_ld32 : t (ld 32) = (10, 0, 12) := ht_ld32
      refine fx_top (v := .ref (ld 32)) rfl ?_
      refine lv_astore (lv' := [(5, .ref (ld 32)), (4, .ref (ld 31)), (0, .ref a0), (1, .int 1), (2, .int p2), (3, .int p3)]) hx hb dX5_worthOf_43 hl (by decide) rfl (fun ls hl => ?_)
      refine lv_iconst (v := (-1)) hx hb dX5_worthOf_45 (by decide) ?_
      refine lv_istore (lv' := [(6, .int (-1)), (5, .ref (ld 32)), (4, .ref (ld 31)), (0, .ref a0), (1, .int 1), (2, .int p2), (3, .int p3)]) hx hb dX5_worthOf_46 hl (by decide) rfl (fun ls hl => ?_)
      refine lv_iconst (v := 0) hx hb dX5_worthOf_48 (by decide) ?_
      refine lv_istore (lv' := [(7, .int 0), (6, .int (-1)), (5, .ref (ld 32)), (4, .ref (ld 31)), (0, .ref a0), (1, .int 1), (2, .int p2), (3, .int p3)]) hx hb dX5_worthOf_49 hl (by decide) rfl (fun ls hl => ?_)
      refine lv_iconst (v := 0) hx hb dX5_worthOf_51 (by decide) ?_
      refine lv_istore (lv' := [(8, .int 0), (7, .int 0), (6, .int (-1)), (5, .ref (ld 32)), (4, .ref (ld 31)), (0, .ref a0), (1, .int 1), (2, .int p2), (3, .int p3)]) hx hb dX5_worthOf_52 hl (by decide) rfl (fun ls hl => ?_)
      have hl1927 : ∀ (N_l1927 : Nat) (v23 : Int32) (v24 : Int32) (v25 : Int32) (H : Heap) (locs : List Loc), v23.toInt ≤ 10 → (-1) ≤ v25.toInt → 0 ≤ v23.toInt + (-1) * v25.toInt + (-1) → v24.toInt ≤ 1000000000 → (-1000000000) ≤ v24.toInt → (-1) * v23.toInt + 10 < (N_l1927 : Int) → tk_G D cy ld t [] H → va_S (tk_w t [(20, 0, 0), (12, 0, 0), (9, 0, 0), (20, 12, 12), (10, 12, 12), (20, 13, 13), (10, 13, 13), (20, 14, 14), (10, 14, 14)]) s.heap H locs → tk_f D H (ld 31) 9 5 (.int v8) → ∀ ls : Array Slot, lv_has ls 11 [(8, .int v23), (7, .int v24), (6, .int v25), (5, .ref (ld 32)), (4, .ref (ld 31)), (0, .ref a0), (1, .int 1), (2, .int p2), (3, .int p3)] → W p l e ({ frames := 9, cells := 0, slots := 0, locals := 560 }) s m args below meth c H locs 0 0 (MQ below (ti D cy ld t [] (fun r H => (-1000000000) ≤ r.toInt ∧ r.toInt ≤ 1000000000) (tk_w t [(20, 0, 0), (12, 0, 0), (9, 0, 0), (20, 12, 12), (10, 12, 12), (20, 13, 13), (10, 13, 13), (20, 14, 14), (10, 14, 14)])) args s 0 0 (tk_w t [(20, 0, 0), (12, 0, 0), (9, 0, 0), (20, 12, 12), (10, 12, 12), (20, 13, 13), (10, 13, 13), (20, 14, 14), (10, 14, 14)])) (F0 m 54 ls []) := by
        intro N_l1927
        induction N_l1927 with
        | zero => intro v23 v24 v25 H locs hq0_l1927 hq1_l1927 hq2_l1927 hq3_l1927 hq4_l1927 hm_l1927 hG hS hf7 ls hl; exfalso; omega
        | succ N_l1927 ih_l1927 =>
          intro v23 v24 v25 H locs hq0_l1927 hq1_l1927 hq2_l1927 hq3_l1927 hq4_l1927 hm_l1927 hG hS hf7 ls hl
          refine lv_iload hx hb dX5_worthOf_54 (lv_at hl 0 rfl) ?_
          refine lv_aload_n hx hb dX5_worthOf_56 rfl (lv_at hl 5 rfl) ?_
          refine tk_get (ci := 5) (C := RX5) (T := TX5) (N := 11) (sp := (8, 20, 3, 0)) hx hb htl inX5 hown hK hG ht_a0 (by decide) tk_no rfl 0 (by decide) (htl _ mw_155) (fun _ h9 => h9) rfl dX5_worthOf_57 (fun v9 hf1928 hV9 => ?_)
          obtain ⟨rfl, ht_ld20⟩ := hV9
          have ht_ld20 : t (ld 20) = (3, 0, 0) := ht_ld20
          refine fx_top (v := .ref (ld 20)) rfl ?_
          refine tk_get (ci := 2) (C := RX2) (T := TX2) (N := 20) (sp := (0, 0, 10, 0)) hx hb htl inX2 hown hK hG ht_ld20 (by decide) tk_no rfl 4 (by decide) (htl _ mw_1297) (fun _ h9 => h9) rfl dX5_worthOf_60 (fun v9 hf1929 hV9 => ?_)
          obtain ⟨v1930, rfl, (ha_v1930 : 0 ≤ v1930.toInt), (hb_v1930 : v1930.toInt ≤ 10)⟩ := hV9
          have hj2076 : ∀ (_ : Unit), ∀ ls : Array Slot, lv_has ls 11 [(7, .int v24), (6, .int v25), (0, .ref a0), (1, .int 1)] → W p l e ({ frames := 9, cells := 0, slots := 0, locals := 560 }) s m args below meth c H locs 0 0 (MQ below (ti D cy ld t [] (fun r H => (-1000000000) ≤ r.toInt ∧ r.toInt ≤ 1000000000) (tk_w t [(20, 0, 0), (12, 0, 0), (9, 0, 0), (20, 12, 12), (10, 12, 12), (20, 13, 13), (10, 13, 13), (20, 14, 14), (10, 14, 14)])) args s 0 0 (tk_w t [(20, 0, 0), (12, 0, 0), (9, 0, 0), (20, 12, 12), (10, 12, 12), (20, 13, 13), (10, 13, 13), (20, 14, 14), (10, 14, 14)])) (F0 m 183 ls []) := by
            intro _  ls hl
            refine lv_iload_n hx hb dX5_worthOf_183 rfl (lv_at hl 3 rfl) ?_
            refine lv_if_ne (tgt := 193) hx hb dX5_worthOf_184 (by decide) (fun _ => ?_) (fun c9 => absurd c9 (by decide))
            refine lv_iload hx hb dX5_worthOf_193 (lv_at hl 0 rfl) ?_
            exact tk_iret (v := v24) hx hb hr rfl hlocks (show (-1000000000) ≤ v24.toInt ∧ v24.toInt ≤ 1000000000 from ⟨(by omega), (by omega)⟩) hG hS dX5_worthOf_195
          refine lv_icmp_ge (tgt := 183) hx hb dX5_worthOf_63 (by decide) (fun c9 => ?_) (fun c9 => ?_)
          · have hc1931 : v1930.toInt ≤ v23.toInt := (fi_le rfl rfl).mp c9
            exact hj2076 () _ (lv_sub hl [1, 2, 5, 6] rfl)
          · have hc1931 : ¬ (v1930.toInt ≤ v23.toInt) := fun h9 => c9 ((fi_le rfl rfl).mpr h9)
            refine lv_iload hx hb dX5_worthOf_66 (lv_at hl 2 rfl) ?_
            refine lv_iconst (v := (-1)) hx hb dX5_worthOf_68 (by decide) ?_
            refine lv_icmp_eq (tgt := 78) hx hb dX5_worthOf_69 (by decide) (fun c9 => ?_) (fun c9 => ?_)
            · have hc2077 : v25.toInt = (-1) := (fi_eq rfl (show ((-1) : Int32).toInt = (-1) by decide)).mp c9
              refine lv_aload_n hx hb dX5_worthOf_78 rfl (lv_at hl 5 rfl) ?_
              refine tk_get (ci := 5) (C := RX5) (T := TX5) (N := 11) (sp := (6, 9, 0, 0)) hx hb htl inX5 hown hK hG ht_a0 (by decide) tk_no rfl 1 (by decide) (htl _ mw_156) (fun _ h9 => h9) rfl dX5_worthOf_79 (fun v9 hf2078 hV9 => ?_)
              obtain ⟨b2079, rfl, ht_b2079⟩ := hV9
              have ht_b2079 : t b2079 = (9, 0, 0) := ht_b2079
              refine lv_aload hx hb dX5_worthOf_82 (lv_at hl 4 rfl) ?_
              refine lv_iload hx hb dX5_worthOf_84 (lv_at hl 0 rfl) ?_
              refine tk_Vi (As := [.ref (ld 31), .int v23]) (rest := []) (ci := 8) ⟨hx, hb, hml, hown, hts⟩ hK hG hZ hS (k_X8_isBarred l D cy ld t 11 b2079 (ld 31) v23 v8 ht_b2079 ht_ld31 (by omega) (by omega) (by omega) (by omega)) hf7 ⟨callB_of 2 hts (wl_in mw_901) rfl rfl rfl (htl _ mw_21) (htl _ mw_1300) hd_yX8_isBarred ⟨(Nat.le_of_ble_eq_true rfl), (Nat.le_of_ble_eq_true rfl)⟩, htl _ mw_899, htl _ mw_900⟩ ht_b2079 (by decide) tk_no rfl (tk_w.pick [0, 1, 2] rfl) rfl hl.1 rfl (Nat.le_of_ble_eq_true rfl) dX5_worthOf_86 ⟨(Nat.le_of_ble_eq_true rfl), (Nat.le_of_ble_eq_true rfl)⟩ (fun v2080 H locs hpo hG hS hq9 => ?_)
              have hf7 := hf7.call hq9 (tk_w.no ht_ld31 (by decide))
              have hf1929 := hf1929.call hq9 (tk_w.no ht_ld20 (by decide))
              obtain ⟨hpo2082, hpo2083, hpo2084, hpo2085⟩ := hpo
              have hj2119 : ∀ (v2116 : Int32) (v2117 : Int32) (H : Heap) (locs : List Loc), (-1000000000) ≤ v2116.toInt → v2116.toInt ≤ 1000000000 → 0 ≤ (-1) * v2117.toInt + v23.toInt → 0 ≤ v2117.toInt + (-1) * v25.toInt → tk_G D cy ld t [] H → va_S (tk_w t [(20, 0, 0), (12, 0, 0), (9, 0, 0), (20, 12, 12), (10, 12, 12), (20, 13, 13), (10, 13, 13), (20, 14, 14), (10, 14, 14)]) s.heap H locs → tk_f D H (ld 31) 9 5 (.int v8) → tk_f D H (ld 20) 2 4 (.int v1930) → ∀ ls : Array Slot, lv_has ls 11 [(7, .int v2116), (6, .int v2117), (8, .int v23), (5, .ref (ld 32)), (4, .ref (ld 31)), (0, .ref a0), (1, .int 1), (2, .int p2), (3, .int p3)] → W p l e ({ frames := 9, cells := 0, slots := 0, locals := 560 }) s m args below meth c H locs 0 0 (MQ below (ti D cy ld t [] (fun r H => (-1000000000) ≤ r.toInt ∧ r.toInt ≤ 1000000000) (tk_w t [(20, 0, 0), (12, 0, 0), (9, 0, 0), (20, 12, 12), (10, 12, 12), (20, 13, 13), (10, 13, 13), (20, 14, 14), (10, 14, 14)])) args s 0 0 (tk_w t [(20, 0, 0), (12, 0, 0), (9, 0, 0), (20, 12, 12), (10, 12, 12), (20, 13, 13), (10, 13, 13), (20, 14, 14), (10, 14, 14)])) (F0 m 177 ls []) := by
                intro v2116 v2117 H locs hq0_j2119 hq1_j2119 hq2_j2119 hq3_j2119 hG hS hf7 hf1929 ls hl
                obtain ⟨v2120, h_v2120, e_v2120⟩ := tk_inc v23 1 (by decide) (by omega) (by omega)
                refine lv_iinc (v := v2120) (lv' := [(8, .int v2120), (7, .int v2116), (6, .int v2117), (5, .ref (ld 32)), (4, .ref (ld 31)), (0, .ref a0), (1, .int 1), (2, .int p2), (3, .int p3)]) hx hb dX5_worthOf_177 hl (k := 2) rfl e_v2120 (by decide) rfl (fun ls hl => ?_)
                refine lv_goto (tgt := 54) hx hb dX5_worthOf_180 (by decide) ?_
                exact ih_l1927 v2120 v2116 v2117 _ _ (by omega) (by omega) (by omega) (by omega) (by omega) (by omega) hG hS hf7 _ (lv_sub hl [0, 1, 2, 3, 4, 5, 6, 7, 8] rfl)
              refine lv_if_eq (tgt := 95) hx hb dX5_worthOf_89 (by decide) (fun c9 => ?_) (fun c9 => ?_)
              · have hc2086 : v2080.toInt = 0 := (fi_eq rfl (show (0 : Int32).toInt = 0 by decide)).mp c9
                refine lv_aload hx hb dX5_worthOf_95 (lv_at hl 3 rfl) ?_
                refine lv_aload hx hb dX5_worthOf_97 (lv_at hl 4 rfl) ?_
                refine tk_Vv (As := [.ref (ld 31)]) (rest := []) (ci := 9) ⟨hx, hb, hml, hown, hts⟩ hK hG hZ hS (k_X9_copyFrom l D cy ld t 12 11 (ld 32) (ld 31) v8 ht_ld32 ht_ld31 (by omega) (by omega) (by omega)) hf7 ⟨callB_of 1 hts (wl_in mw_821) rfl rfl rfl (htl _ mw_76) (htl _ mw_1292) hd_yX9_copyFrom ⟨(Nat.le_of_ble_eq_true rfl), (Nat.le_of_ble_eq_true rfl)⟩, htl _ mw_819, htl _ mw_820⟩ ht_ld32 (by decide) tk_no rfl (tk_w.pick [3, 4] rfl) rfl hl.1 rfl (Nat.le_of_ble_eq_true rfl) dX5_worthOf_99 ⟨(Nat.le_of_ble_eq_true rfl), (Nat.le_of_ble_eq_true rfl)⟩ (fun H locs hpo hG hS hq9 => ?_)
                have hf7 := hf7.call hq9 (tk_w.no ht_ld31 (by decide))
                have hf1929 := hf1929.call hq9 (tk_w.no ht_ld20 (by decide))
                have hf2122 := hpo
                refine lv_iload hx hb dX5_worthOf_102 (lv_at hl 2 rfl) ?_
                refine lv_iconst (v := (-1)) hx hb dX5_worthOf_104 (by decide) ?_
                refine lv_icmp_ne (tgt := 112) hx hb dX5_worthOf_105 (by decide) (fun c9 => absurd ((fi_eq rfl (show ((-1) : Int32).toInt = (-1) by decide)).mpr (show v25.toInt = (-1) by omega)) c9) (fun _ => ?_)
                refine lv_iload_n hx hb dX5_worthOf_108 rfl (lv_at hl 7 rfl) ?_
                refine lv_goto (tgt := 118) hx hb dX5_worthOf_109 (by decide) ?_
                refine lv_istore (lv' := [(9, .int p2), (8, .int v23), (7, .int v24), (6, .int v25), (5, .ref (ld 32)), (4, .ref (ld 31)), (0, .ref a0), (1, .int 1), (2, .int p2), (3, .int p3)]) hx hb dX5_worthOf_118 hl (by decide) rfl (fun ls hl => ?_)
                refine lv_aload_n hx hb dX5_worthOf_120 rfl (lv_at hl 6 rfl) ?_
                refine tk_get (ci := 5) (C := RX5) (T := TX5) (N := 11) (sp := (6, 9, 0, 0)) hx hb htl inX5 hown hK hG ht_a0 (by decide) tk_no rfl 1 (by decide) (htl _ mw_156) (fun _ h9 => h9) rfl dX5_worthOf_121 (fun v9 hf2123 hV9 => ?_)
                obtain ⟨b2124, rfl, ht_b2124⟩ := hV9
                have ht_b2124 : t b2124 = (9, 0, 0) := ht_b2124
                refine lv_aload hx hb dX5_worthOf_124 (lv_at hl 4 rfl) ?_
                refine lv_iload hx hb dX5_worthOf_126 (lv_at hl 1 rfl) ?_
                refine tk_Vi (As := [.ref (ld 32), .int v23]) (rest := []) (ci := 8) ⟨hx, hb, hml, hown, hts⟩ hK hG hZ hS (k_X8_singOn l D cy ld t 12 b2124 (ld 32) v23 v8 ht_b2124 ht_ld32 (by omega) (by omega) (by omega) (by omega)) hf2122 ⟨callB_of 2 hts (wl_in mw_946) rfl rfl rfl (htl _ mw_21) (htl _ mw_1301) hd_yX8_singOn ⟨(Nat.le_of_ble_eq_true rfl), (Nat.le_of_ble_eq_true rfl)⟩, htl _ mw_944, htl _ mw_945⟩ ht_b2124 (by decide) tk_no rfl (tk_w.pick [0, 1, 2, 3, 4] rfl) rfl hl.1 rfl (Nat.le_of_ble_eq_true rfl) dX5_worthOf_128 ⟨(Nat.le_of_ble_eq_true rfl), (Nat.le_of_ble_eq_true rfl)⟩ (fun v2125 H locs hpo hG hS hq9 => ?_)
                have hf7 := hf7.call hq9 (tk_w.no ht_ld31 (by decide))
                have hf1929 := hf1929.call hq9 (tk_w.no ht_ld20 (by decide))
                have hj2139 : ∀ (v2137 : Int32) (H : Heap) (locs : List Loc), (-100) ≤ v2137.toInt → v2137.toInt ≤ 1000000000 → tk_G D cy ld t [] H → va_S (tk_w t [(20, 0, 0), (12, 0, 0), (9, 0, 0), (20, 12, 12), (10, 12, 12), (20, 13, 13), (10, 13, 13), (20, 14, 14), (10, 14, 14)]) s.heap H locs → tk_f D H (ld 31) 9 5 (.int v8) → tk_f D H (ld 20) 2 4 (.int v1930) → ∀ ls : Array Slot, lv_has ls 11 [(8, .int v23), (7, .int v24), (6, .int v25), (5, .ref (ld 32)), (4, .ref (ld 31)), (0, .ref a0), (1, .int 1), (2, .int p2), (3, .int p3)] → W p l e ({ frames := 9, cells := 0, slots := 0, locals := 560 }) s m args below meth c H locs 0 0 (MQ below (ti D cy ld t [] (fun r H => (-1000000000) ≤ r.toInt ∧ r.toInt ≤ 1000000000) (tk_w t [(20, 0, 0), (12, 0, 0), (9, 0, 0), (20, 12, 12), (10, 12, 12), (20, 13, 13), (10, 13, 13), (20, 14, 14), (10, 14, 14)])) args s 0 0 (tk_w t [(20, 0, 0), (12, 0, 0), (9, 0, 0), (20, 12, 12), (10, 12, 12), (20, 13, 13), (10, 13, 13), (20, 14, 14), (10, 14, 14)])) (F0 m 154 ls [.int v2137]) := by
                  intro v2137 H locs hq0_j2139 hq1_j2139 hG hS hf7 hf1929 ls hl
                  refine lv_istore (lv' := [(10, .int v2137), (8, .int v23), (7, .int v24), (6, .int v25), (5, .ref (ld 32)), (4, .ref (ld 31)), (0, .ref a0), (1, .int 1), (2, .int p2), (3, .int p3)]) hx hb dX5_worthOf_154 hl (by decide) rfl (fun ls hl => ?_)
                  refine lv_iload hx hb dX5_worthOf_156 (lv_at hl 3 rfl) ?_
                  refine lv_iconst (v := (-1)) hx hb dX5_worthOf_158 (by decide) ?_
                  refine lv_icmp_eq (tgt := 169) hx hb dX5_worthOf_159 (by decide) (fun _ => ?_) (fun c9 => absurd ((fi_eq rfl (show ((-1) : Int32).toInt = (-1) by decide)).mpr (show v25.toInt = (-1) by omega)) c9)
                  refine lv_iload hx hb dX5_worthOf_169 (lv_at hl 1 rfl) ?_
                  refine lv_istore (lv' := [(6, .int v23), (10, .int v2137), (8, .int v23), (7, .int v24), (5, .ref (ld 32)), (4, .ref (ld 31)), (0, .ref a0), (1, .int 1), (2, .int p2), (3, .int p3)]) hx hb dX5_worthOf_171 hl (by decide) rfl (fun ls hl => ?_)
                  refine lv_iload hx hb dX5_worthOf_173 (lv_at hl 1 rfl) ?_
                  refine lv_istore (lv' := [(7, .int v2137), (6, .int v23), (10, .int v2137), (8, .int v23), (5, .ref (ld 32)), (4, .ref (ld 31)), (0, .ref a0), (1, .int 1), (2, .int p2), (3, .int p3)]) hx hb dX5_worthOf_175 hl (by decide) rfl (fun ls hl => ?_)
                  exact hj2119 v2137 v23 _ _ (by omega) (by omega) (by omega) (by omega) hG hS hf7 hf1929 _ (lv_sub hl [0, 1, 3, 4, 5, 6, 7, 8, 9] rfl)
                refine lv_if_ne (tgt := 141) hx hb dX5_worthOf_131 (by decide) (fun c9 => ?_) (fun c9 => ?_)
                · have hc2127 : ¬ (v2125.toInt = 0) := fun h9 => c9 ((fi_eq rfl (show (0 : Int32).toInt = 0 by decide)).mpr h9)
                  refine lv_aload_n hx hb dX5_worthOf_141 rfl (lv_at hl 6 rfl) ?_
                  refine lv_iload_n hx hb dX5_worthOf_142 rfl (lv_at hl 7 rfl) ?_
                  refine lv_iconst (v := 1) hx hb dX5_worthOf_143 (by decide) ?_
                  refine lv_iadd hx hb dX5_worthOf_144 ?_
                  refine fx_ti (v := 2) (by decide) ?_
                  refine lv_iload_n hx hb dX5_worthOf_145 rfl (lv_at hl 9 rfl) ?_
                  refine lv_ineg hx hb dX5_worthOf_146 ?_
                  refine tk_any (fun v2140 => ?_)
                  refine lv_iload hx hb dX5_worthOf_147 (lv_at hl 0 rfl) ?_
                  refine lv_ineg hx hb dX5_worthOf_149 ?_
                  refine tk_any (fun v2141 => ?_)
                  have hk_2 : (2 : Int32).toInt = 2 := by decide
                  refine tk_Vi (As := [.int 2, .int v2140, .int v2141]) (rest := []) (ci := 5) ⟨hx, hb, hml, hown, hts⟩ hK hG hZ hS (k_X5_worthOf_2 l D cy ld t a0 v2140 v2141 ht_a0) trivial ⟨callB_of 3 hts (wl_in mw_1296) rfl rfl rfl (htl _ mw_40) (htl _ mw_1293) hd_yX5_worthOf ⟨(Nat.le_of_ble_eq_true rfl), (Nat.le_of_ble_eq_true rfl)⟩, htl _ mw_1294, htl _ mw_1295⟩ ht_a0 (by decide) tk_no rfl (tk_w.pick [0, 1, 2, 5, 6, 7, 8] rfl) rfl hl.1 rfl (Nat.le_of_ble_eq_true rfl) dX5_worthOf_150 ⟨(Nat.le_of_ble_eq_true rfl), (Nat.le_of_ble_eq_true rfl)⟩ (fun v2142 H locs hpo hG hS hq9 => ?_)
                  have hf7 := hf7.call hq9 (tk_w.no ht_ld31 (by decide))
                  have hf1929 := hf1929.call hq9 (tk_w.no ht_ld20 (by decide))
                  obtain ⟨hpo2144, hpo2145⟩ := hpo
                  refine lv_ineg hx hb dX5_worthOf_153 ?_
                  refine tk_neg rfl (by omega) (by omega) (fun v2146 h_v2146 => ?_)
                  exact hj2139 v2146 _ _ (by omega) (by omega) hG hS hf7 hf1929 _ (lv_sub hl [1, 2, 3, 4, 5, 6, 7, 8, 9] rfl)
                · have hc2127 : v2125.toInt = 0 := (fi_eq rfl (show (0 : Int32).toInt = 0 by decide)).mp c9
                  refine lv_bipush (v := 100) hx hb dX5_worthOf_134 (by decide) ?_
                  refine lv_iload_n hx hb dX5_worthOf_136 rfl (lv_at hl 7 rfl) ?_
                  refine lv_isub hx hb dX5_worthOf_137 ?_
                  refine fx_ti (v := 99) (by decide) ?_
                  refine lv_goto (tgt := 154) hx hb dX5_worthOf_138 (by decide) ?_
                  have hk_99 : (99 : Int32).toInt = 99 := by decide
                  exact hj2139 99 _ _ (by omega) (by omega) hG hS hf7 hf1929 _ (lv_sub hl [1, 2, 3, 4, 5, 6, 7, 8, 9] rfl)
              · have hc2086 : ¬ (v2080.toInt = 0) := fun h9 => c9 ((fi_eq rfl (show (0 : Int32).toInt = 0 by decide)).mpr h9)
                refine lv_goto (tgt := 177) hx hb dX5_worthOf_92 (by decide) ?_
                exact hj2119 v24 v25 _ _ (by omega) (by omega) (by omega) (by omega) hG hS hf7 hf1929 _ (lv_sub hl [1, 2, 0, 3, 4, 5, 6, 7, 8] rfl)
            · have hc2077 : ¬ (v25.toInt = (-1)) := fun h9 => c9 ((fi_eq rfl (show ((-1) : Int32).toInt = (-1) by decide)).mpr h9)
              refine lv_iload hx hb dX5_worthOf_72 (lv_at hl 1 rfl) ?_
              refine lv_iload_n hx hb dX5_worthOf_74 rfl (lv_at hl 8 rfl) ?_
              refine lv_icmp_ge (tgt := 183) hx hb dX5_worthOf_75 (by decide) (fun c9 => ?_) (fun c9 => ?_)
              · have hc2147 : p3.toInt ≤ v24.toInt := (fi_le rfl rfl).mp c9
                exact hj2076 () _ (lv_sub hl [1, 2, 5, 6] rfl)
              · have hc2147 : ¬ (p3.toInt ≤ v24.toInt) := fun h9 => c9 ((fi_le rfl rfl).mpr h9)
                refine lv_aload_n hx hb dX5_worthOf_78 rfl (lv_at hl 5 rfl) ?_
                refine tk_get (ci := 5) (C := RX5) (T := TX5) (N := 11) (sp := (6, 9, 0, 0)) hx hb htl inX5 hown hK hG ht_a0 (by decide) tk_no rfl 1 (by decide) (htl _ mw_156) (fun _ h9 => h9) rfl dX5_worthOf_79 (fun v9 hf2148 hV9 => ?_)
                obtain ⟨b2149, rfl, ht_b2149⟩ := hV9
                have ht_b2149 : t b2149 = (9, 0, 0) := ht_b2149
                refine lv_aload hx hb dX5_worthOf_82 (lv_at hl 4 rfl) ?_
                refine lv_iload hx hb dX5_worthOf_84 (lv_at hl 0 rfl) ?_
                refine tk_Vi (As := [.ref (ld 31), .int v23]) (rest := []) (ci := 8) ⟨hx, hb, hml, hown, hts⟩ hK hG hZ hS (k_X8_isBarred l D cy ld t 11 b2149 (ld 31) v23 v8 ht_b2149 ht_ld31 (by omega) (by omega) (by omega) (by omega)) hf7 ⟨callB_of 2 hts (wl_in mw_901) rfl rfl rfl (htl _ mw_21) (htl _ mw_1300) hd_yX8_isBarred ⟨(Nat.le_of_ble_eq_true rfl), (Nat.le_of_ble_eq_true rfl)⟩, htl _ mw_899, htl _ mw_900⟩ ht_b2149 (by decide) tk_no rfl (tk_w.pick [0, 1, 2] rfl) rfl hl.1 rfl (Nat.le_of_ble_eq_true rfl) dX5_worthOf_86 ⟨(Nat.le_of_ble_eq_true rfl), (Nat.le_of_ble_eq_true rfl)⟩ (fun v2150 H locs hpo hG hS hq9 => ?_)
                have hf7 := hf7.call hq9 (tk_w.no ht_ld31 (by decide))
                have hf1929 := hf1929.call hq9 (tk_w.no ht_ld20 (by decide))
                obtain ⟨hpo2152, hpo2153, hpo2154, hpo2155⟩ := hpo
                have hj2191 : ∀ (v2188 : Int32) (v2189 : Int32) (H : Heap) (locs : List Loc), v2188.toInt ≤ 1000000000 → 0 ≤ v2188.toInt + (-1) * v24.toInt → 0 ≤ (-1) * v2189.toInt + v23.toInt → 0 ≤ v2189.toInt + (-1) * v25.toInt → tk_G D cy ld t [] H → va_S (tk_w t [(20, 0, 0), (12, 0, 0), (9, 0, 0), (20, 12, 12), (10, 12, 12), (20, 13, 13), (10, 13, 13), (20, 14, 14), (10, 14, 14)]) s.heap H locs → tk_f D H (ld 31) 9 5 (.int v8) → tk_f D H (ld 20) 2 4 (.int v1930) → ∀ ls : Array Slot, lv_has ls 11 [(8, .int v23), (7, .int v2188), (6, .int v2189), (5, .ref (ld 32)), (4, .ref (ld 31)), (0, .ref a0), (1, .int 1), (2, .int p2), (3, .int p3)] → W p l e ({ frames := 9, cells := 0, slots := 0, locals := 560 }) s m args below meth c H locs 0 0 (MQ below (ti D cy ld t [] (fun r H => (-1000000000) ≤ r.toInt ∧ r.toInt ≤ 1000000000) (tk_w t [(20, 0, 0), (12, 0, 0), (9, 0, 0), (20, 12, 12), (10, 12, 12), (20, 13, 13), (10, 13, 13), (20, 14, 14), (10, 14, 14)])) args s 0 0 (tk_w t [(20, 0, 0), (12, 0, 0), (9, 0, 0), (20, 12, 12), (10, 12, 12), (20, 13, 13), (10, 13, 13), (20, 14, 14), (10, 14, 14)])) (F0 m 177 ls []) := by
                  intro v2188 v2189 H locs hq0_j2191 hq1_j2191 hq2_j2191 hq3_j2191 hG hS hf7 hf1929 ls hl
                  obtain ⟨v2192, h_v2192, e_v2192⟩ := tk_inc v23 1 (by decide) (by omega) (by omega)
                  refine lv_iinc (v := v2192) (lv' := [(8, .int v2192), (7, .int v2188), (6, .int v2189), (5, .ref (ld 32)), (4, .ref (ld 31)), (0, .ref a0), (1, .int 1), (2, .int p2), (3, .int p3)]) hx hb dX5_worthOf_177 hl (k := 0) rfl e_v2192 (by decide) rfl (fun ls hl => ?_)
                  refine lv_goto (tgt := 54) hx hb dX5_worthOf_180 (by decide) ?_
                  exact ih_l1927 v2192 v2188 v2189 _ _ (by omega) (by omega) (by omega) (by omega) (by omega) (by omega) hG hS hf7 _ (lv_sub hl [0, 1, 2, 3, 4, 5, 6, 7, 8] rfl)
                refine lv_if_eq (tgt := 95) hx hb dX5_worthOf_89 (by decide) (fun c9 => ?_) (fun c9 => ?_)
                · have hc2156 : v2150.toInt = 0 := (fi_eq rfl (show (0 : Int32).toInt = 0 by decide)).mp c9
                  refine lv_aload hx hb dX5_worthOf_95 (lv_at hl 3 rfl) ?_
                  refine lv_aload hx hb dX5_worthOf_97 (lv_at hl 4 rfl) ?_
                  refine tk_Vv (As := [.ref (ld 31)]) (rest := []) (ci := 9) ⟨hx, hb, hml, hown, hts⟩ hK hG hZ hS (k_X9_copyFrom l D cy ld t 12 11 (ld 32) (ld 31) v8 ht_ld32 ht_ld31 (by omega) (by omega) (by omega)) hf7 ⟨callB_of 1 hts (wl_in mw_821) rfl rfl rfl (htl _ mw_76) (htl _ mw_1292) hd_yX9_copyFrom ⟨(Nat.le_of_ble_eq_true rfl), (Nat.le_of_ble_eq_true rfl)⟩, htl _ mw_819, htl _ mw_820⟩ ht_ld32 (by decide) tk_no rfl (tk_w.pick [3, 4] rfl) rfl hl.1 rfl (Nat.le_of_ble_eq_true rfl) dX5_worthOf_99 ⟨(Nat.le_of_ble_eq_true rfl), (Nat.le_of_ble_eq_true rfl)⟩ (fun H locs hpo hG hS hq9 => ?_)
                  have hf7 := hf7.call hq9 (tk_w.no ht_ld31 (by decide))
                  have hf1929 := hf1929.call hq9 (tk_w.no ht_ld20 (by decide))
                  have hf2194 := hpo
                  refine lv_iload hx hb dX5_worthOf_102 (lv_at hl 2 rfl) ?_
                  refine lv_iconst (v := (-1)) hx hb dX5_worthOf_104 (by decide) ?_
                  refine lv_icmp_ne (tgt := 112) hx hb dX5_worthOf_105 (by decide) (fun _ => ?_) (fun c9 => absurd (show v25.toInt = (-1) from (fi_eq rfl (show ((-1) : Int32).toInt = (-1) by decide)).mp c9) (by omega))
                  refine lv_iload_n hx hb dX5_worthOf_112 rfl (lv_at hl 7 rfl) ?_
                  refine lv_iload hx hb dX5_worthOf_113 (lv_at hl 1 rfl) ?_
                  refine va_mmax hx hb (by rw [hml]; exact hl.1.symm) hown (htl _ mw_1298) (htl _ mw_948) (htl _ mw_474) (htl _ mw_949) (Nat.le_of_ble_eq_true rfl) (Nat.le_of_ble_eq_true rfl) (Nat.le_of_ble_eq_true rfl) (Nat.le_of_ble_eq_true rfl) dX5_worthOf_115 ?_
                  refine tk_say (P := fun z => p2.toInt ≤ z.toInt ∧ v24.toInt ≤ z.toInt ∧ (z.toInt = p2.toInt ∨ z.toInt = v24.toInt)) (tk_max rfl rfl) (fun v2195 h_v2195 => ?_)
                  refine lv_istore (lv' := [(9, .int v2195), (8, .int v23), (7, .int v24), (6, .int v25), (5, .ref (ld 32)), (4, .ref (ld 31)), (0, .ref a0), (1, .int 1), (2, .int p2), (3, .int p3)]) hx hb dX5_worthOf_118 hl (by decide) rfl (fun ls hl => ?_)
                  refine lv_aload_n hx hb dX5_worthOf_120 rfl (lv_at hl 6 rfl) ?_
                  refine tk_get (ci := 5) (C := RX5) (T := TX5) (N := 11) (sp := (6, 9, 0, 0)) hx hb htl inX5 hown hK hG ht_a0 (by decide) tk_no rfl 1 (by decide) (htl _ mw_156) (fun _ h9 => h9) rfl dX5_worthOf_121 (fun v9 hf2196 hV9 => ?_)
                  obtain ⟨b2197, rfl, ht_b2197⟩ := hV9
                  have ht_b2197 : t b2197 = (9, 0, 0) := ht_b2197
                  refine lv_aload hx hb dX5_worthOf_124 (lv_at hl 4 rfl) ?_
                  refine lv_iload hx hb dX5_worthOf_126 (lv_at hl 1 rfl) ?_
                  refine tk_Vi (As := [.ref (ld 32), .int v23]) (rest := []) (ci := 8) ⟨hx, hb, hml, hown, hts⟩ hK hG hZ hS (k_X8_singOn l D cy ld t 12 b2197 (ld 32) v23 v8 ht_b2197 ht_ld32 (by omega) (by omega) (by omega) (by omega)) hf2194 ⟨callB_of 2 hts (wl_in mw_946) rfl rfl rfl (htl _ mw_21) (htl _ mw_1301) hd_yX8_singOn ⟨(Nat.le_of_ble_eq_true rfl), (Nat.le_of_ble_eq_true rfl)⟩, htl _ mw_944, htl _ mw_945⟩ ht_b2197 (by decide) tk_no rfl (tk_w.pick [0, 1, 2, 3, 4] rfl) rfl hl.1 rfl (Nat.le_of_ble_eq_true rfl) dX5_worthOf_128 ⟨(Nat.le_of_ble_eq_true rfl), (Nat.le_of_ble_eq_true rfl)⟩ (fun v2198 H locs hpo hG hS hq9 => ?_)
                  have hf7 := hf7.call hq9 (tk_w.no ht_ld31 (by decide))
                  have hf1929 := hf1929.call hq9 (tk_w.no ht_ld20 (by decide))
                  have hj2212 : ∀ (v2210 : Int32) (H : Heap) (locs : List Loc), (-100) ≤ v2210.toInt → v2210.toInt ≤ 1000000000 → tk_G D cy ld t [] H → va_S (tk_w t [(20, 0, 0), (12, 0, 0), (9, 0, 0), (20, 12, 12), (10, 12, 12), (20, 13, 13), (10, 13, 13), (20, 14, 14), (10, 14, 14)]) s.heap H locs → tk_f D H (ld 31) 9 5 (.int v8) → tk_f D H (ld 20) 2 4 (.int v1930) → ∀ ls : Array Slot, lv_has ls 11 [(8, .int v23), (7, .int v24), (6, .int v25), (5, .ref (ld 32)), (4, .ref (ld 31)), (0, .ref a0), (1, .int 1), (2, .int p2), (3, .int p3)] → W p l e ({ frames := 9, cells := 0, slots := 0, locals := 560 }) s m args below meth c H locs 0 0 (MQ below (ti D cy ld t [] (fun r H => (-1000000000) ≤ r.toInt ∧ r.toInt ≤ 1000000000) (tk_w t [(20, 0, 0), (12, 0, 0), (9, 0, 0), (20, 12, 12), (10, 12, 12), (20, 13, 13), (10, 13, 13), (20, 14, 14), (10, 14, 14)])) args s 0 0 (tk_w t [(20, 0, 0), (12, 0, 0), (9, 0, 0), (20, 12, 12), (10, 12, 12), (20, 13, 13), (10, 13, 13), (20, 14, 14), (10, 14, 14)])) (F0 m 154 ls [.int v2210]) := by
                    intro v2210 H locs hq0_j2212 hq1_j2212 hG hS hf7 hf1929 ls hl
                    refine lv_istore (lv' := [(10, .int v2210), (8, .int v23), (7, .int v24), (6, .int v25), (5, .ref (ld 32)), (4, .ref (ld 31)), (0, .ref a0), (1, .int 1), (2, .int p2), (3, .int p3)]) hx hb dX5_worthOf_154 hl (by decide) rfl (fun ls hl => ?_)
                    refine lv_iload hx hb dX5_worthOf_156 (lv_at hl 3 rfl) ?_
                    refine lv_iconst (v := (-1)) hx hb dX5_worthOf_158 (by decide) ?_
                    refine lv_icmp_eq (tgt := 169) hx hb dX5_worthOf_159 (by decide) (fun c9 => absurd (show v25.toInt = (-1) from (fi_eq rfl (show ((-1) : Int32).toInt = (-1) by decide)).mp c9) (by omega)) (fun _ => ?_)
                    refine lv_iload hx hb dX5_worthOf_162 (lv_at hl 0 rfl) ?_
                    refine lv_iload hx hb dX5_worthOf_164 (lv_at hl 2 rfl) ?_
                    refine lv_icmp_le (tgt := 177) hx hb dX5_worthOf_166 (by decide) (fun c9 => ?_) (fun c9 => ?_)
                    · have hc2213 : v2210.toInt ≤ v24.toInt := (fi_le rfl rfl).mp c9
                      exact hj2191 v24 v25 _ _ (by omega) (by omega) (by omega) (by omega) hG hS hf7 hf1929 _ (lv_sub hl [1, 2, 3, 4, 5, 6, 7, 8, 9] rfl)
                    · have hc2213 : ¬ (v2210.toInt ≤ v24.toInt) := fun h9 => c9 ((fi_le rfl rfl).mpr h9)
                      refine lv_iload hx hb dX5_worthOf_169 (lv_at hl 1 rfl) ?_
                      refine lv_istore (lv' := [(6, .int v23), (10, .int v2210), (8, .int v23), (7, .int v24), (5, .ref (ld 32)), (4, .ref (ld 31)), (0, .ref a0), (1, .int 1), (2, .int p2), (3, .int p3)]) hx hb dX5_worthOf_171 hl (by decide) rfl (fun ls hl => ?_)
                      refine lv_iload hx hb dX5_worthOf_173 (lv_at hl 1 rfl) ?_
                      refine lv_istore (lv' := [(7, .int v2210), (6, .int v23), (10, .int v2210), (8, .int v23), (5, .ref (ld 32)), (4, .ref (ld 31)), (0, .ref a0), (1, .int 1), (2, .int p2), (3, .int p3)]) hx hb dX5_worthOf_175 hl (by decide) rfl (fun ls hl => ?_)
                      exact hj2191 v2210 v23 _ _ (by omega) (by omega) (by omega) (by omega) hG hS hf7 hf1929 _ (lv_sub hl [3, 0, 1, 4, 5, 6, 7, 8, 9] rfl)
                  refine lv_if_ne (tgt := 141) hx hb dX5_worthOf_131 (by decide) (fun c9 => ?_) (fun c9 => ?_)
                  · have hc2200 : ¬ (v2198.toInt = 0) := fun h9 => c9 ((fi_eq rfl (show (0 : Int32).toInt = 0 by decide)).mpr h9)
                    refine lv_aload_n hx hb dX5_worthOf_141 rfl (lv_at hl 6 rfl) ?_
                    refine lv_iload_n hx hb dX5_worthOf_142 rfl (lv_at hl 7 rfl) ?_
                    refine lv_iconst (v := 1) hx hb dX5_worthOf_143 (by decide) ?_
                    refine lv_iadd hx hb dX5_worthOf_144 ?_
                    refine fx_ti (v := 2) (by decide) ?_
                    refine lv_iload_n hx hb dX5_worthOf_145 rfl (lv_at hl 9 rfl) ?_
                    refine lv_ineg hx hb dX5_worthOf_146 ?_
                    refine tk_neg rfl (by omega) (by omega) (fun v2214 h_v2214 => ?_)
                    refine lv_iload hx hb dX5_worthOf_147 (lv_at hl 0 rfl) ?_
                    refine lv_ineg hx hb dX5_worthOf_149 ?_
                    refine tk_neg rfl (by omega) (by omega) (fun v2215 h_v2215 => ?_)
                    have hk_2 : (2 : Int32).toInt = 2 := by decide
                    refine tk_Vi (As := [.int 2, .int v2214, .int v2215]) (rest := []) (ci := 5) ⟨hx, hb, hml, hown, hts⟩ hK hG hZ hS (k_X5_worthOf_2 l D cy ld t a0 v2214 v2215 ht_a0) trivial ⟨callB_of 3 hts (wl_in mw_1296) rfl rfl rfl (htl _ mw_40) (htl _ mw_1293) hd_yX5_worthOf ⟨(Nat.le_of_ble_eq_true rfl), (Nat.le_of_ble_eq_true rfl)⟩, htl _ mw_1294, htl _ mw_1295⟩ ht_a0 (by decide) tk_no rfl (tk_w.pick [0, 1, 2, 5, 6, 7, 8] rfl) rfl hl.1 rfl (Nat.le_of_ble_eq_true rfl) dX5_worthOf_150 ⟨(Nat.le_of_ble_eq_true rfl), (Nat.le_of_ble_eq_true rfl)⟩ (fun v2216 H locs hpo hG hS hq9 => ?_)
                    have hf7 := hf7.call hq9 (tk_w.no ht_ld31 (by decide))
                    have hf1929 := hf1929.call hq9 (tk_w.no ht_ld20 (by decide))
                    obtain ⟨hpo2218, hpo2219⟩ := hpo
                    refine lv_ineg hx hb dX5_worthOf_153 ?_
                    refine tk_neg rfl (by omega) (by omega) (fun v2220 h_v2220 => ?_)
                    exact hj2212 v2220 _ _ (by omega) (by omega) hG hS hf7 hf1929 _ (lv_sub hl [1, 2, 3, 4, 5, 6, 7, 8, 9] rfl)
                  · have hc2200 : v2198.toInt = 0 := (fi_eq rfl (show (0 : Int32).toInt = 0 by decide)).mp c9
                    refine lv_bipush (v := 100) hx hb dX5_worthOf_134 (by decide) ?_
                    refine lv_iload_n hx hb dX5_worthOf_136 rfl (lv_at hl 7 rfl) ?_
                    refine lv_isub hx hb dX5_worthOf_137 ?_
                    refine fx_ti (v := 99) (by decide) ?_
                    refine lv_goto (tgt := 154) hx hb dX5_worthOf_138 (by decide) ?_
                    have hk_99 : (99 : Int32).toInt = 99 := by decide
                    exact hj2212 99 _ _ (by omega) (by omega) hG hS hf7 hf1929 _ (lv_sub hl [1, 2, 3, 4, 5, 6, 7, 8, 9] rfl)
                · have hc2156 : ¬ (v2150.toInt = 0) := fun h9 => c9 ((fi_eq rfl (show (0 : Int32).toInt = 0 by decide)).mpr h9)
                  refine lv_goto (tgt := 177) hx hb dX5_worthOf_92 (by decide) ?_
                  exact hj2191 v24 v25 _ _ (by omega) (by omega) (by omega) (by omega) hG hS hf7 hf1929 _ (lv_sub hl [0, 1, 2, 3, 4, 5, 6, 7, 8] rfl)
      have hk_0 : (0 : Int32).toInt = 0 := by decide
      have hk_0 : (0 : Int32).toInt = 0 := by decide
      have hk_m1 : ((-1) : Int32).toInt = (-1) := by decide
      exact hl1927 11 0 0 (-1) _ _ (by omega) (by omega) (by omega) (by omega) (by omega) (by omega) hG hS hf7 _ (lv_sub hl [0, 1, 2, 3, 4, 5, 6, 7, 8] rfl)
    · have hc16 : v9.toInt = 0 := (fi_eq rfl (show (0 : Int32).toInt = 0 by decide)).mp c9
      refine lv_iconst (v := 0) hx hb dX5_worthOf_25 (by decide) ?_
      have hk_0 : (0 : Int32).toInt = 0 := by decide
      exact tk_iret (v := 0) hx hb hr rfl hlocks (show (-1000000000) ≤ (0 : Int32).toInt ∧ (0 : Int32).toInt ≤ 1000000000 from ⟨(by omega), (by omega)⟩) hG hS dX5_worthOf_26
theorem dX5_worthOf_187 : decode cX5_worthOf 187 = .ok (.aload_n 0, 1) := by decide +kernel
theorem dX5_worthOf_188 : decode cX5_worthOf 188 = .ok (.iload 6, 2) := by decide +kernel
theorem dX5_worthOf_190 : decode cX5_worthOf 190 = .ok (.putfield 46, 3) := by decide +kernel
set_option maxHeartbeats 4000000 in
set_option maxRecDepth 100000 in
theorem k_X5_worthOf_0 (l : Launch) (D : va_G) (cy : Nat → ClassId) (ld : Nat → Nat) (t : tk_T) (a0 : Nat) (p2 : Int32) (p3 : Int32) (ht_a0 : t a0 = (6, 0, 0)) : Met l yX5_worthOf (wl yX5_worthOf cX5_worthOf 11 (some .int)) ({ frames := 10, cells := 0, slots := 0, locals := 630 }) (tp D cy ld t [] [.ref a0, .int 0, .int p2, .int p3] (fun H => True)) (ti D cy ld t [] (fun r H => (-1000000000) ≤ r.toInt ∧ r.toInt ≤ 1000000000) (tk_w t [(20, 0, 0), (12, 0, 0), (9, 0, 0), (20, 11, 11), (10, 11, 11), (20, 12, 12), (10, 12, 12), (20, 13, 13), (10, 13, 13), (20, 14, 14), (10, 14, 14), (6, 0, 0)])) 0 0 (tk_w t [(20, 0, 0), (12, 0, 0), (9, 0, 0), (20, 11, 11), (10, 11, 11), (20, 12, 12), (10, 12, 12), (20, 13, 13), (10, 13, 13), (20, 14, 14), (10, 14, 14), (6, 0, 0)]) := by
  refine tk_met (y := yX5_worthOf) (cc := cX5_worthOf) (maxL := 11) (ret := (some .int)) (av := [.ref a0, .int 0, .int p2, .int p3]) _ _ (by decide) (Nat.le_of_ble_eq_true rfl) ?_
  intro p e s m args below meth c hx hb hr hml hts htl hown hlocks hK H locs hH hG hS hB hZ ls hl
  have hown : s.vm.findClass RX5 = some m.cls := hown
  have hl : lv_has ls 11 [(0, .ref a0), (1, .int 0), (2, .int p2), (3, .int p3)] := hl
  have hr_p2 := tk_rng p2
  have hr_p3 := tk_rng p3
  refine lv_iload_n hx hb dX5_worthOf_0 rfl (lv_at hl 1 rfl) ?_
  refine lv_aload_n hx hb dX5_worthOf_1 rfl (lv_at hl 0 rfl) ?_
  refine tk_get (ci := 5) (C := RX5) (T := TX5) (N := 11) (sp := (0, (-2147483648), 2147483647, 0)) hx hb htl inX5 hown hK hG ht_a0 (by decide) tk_no rfl 3 (by decide) (htl _ mw_1286) (fun _ h9 => h9) rfl dX5_worthOf_2 (fun v9 hf1 hV9 => ?_)
  obtain ⟨v2, rfl, (ha_v2 : (-2147483648) ≤ v2.toInt), (hb_v2 : v2.toInt ≤ 2147483647)⟩ := hV9
  refine lv_icmp_ge (tgt := 25) hx hb dX5_worthOf_5 (by decide) (fun c9 => ?_) (fun c9 => ?_)
  · have hc3 : v2.toInt ≤ 0 := (fi_le rfl (show (0 : Int32).toInt = 0 by decide)).mp c9
    refine lv_iconst (v := 0) hx hb dX5_worthOf_25 (by decide) ?_
    have hk_0 : (0 : Int32).toInt = 0 := by decide
    exact tk_iret (v := 0) hx hb hr rfl hlocks (show (-1000000000) ≤ (0 : Int32).toInt ∧ (0 : Int32).toInt ≤ 1000000000 from ⟨(by omega), (by omega)⟩) hG hS dX5_worthOf_26
  · have hc3 : ¬ (v2.toInt ≤ 0) := fun h9 => c9 ((fi_le rfl (show (0 : Int32).toInt = 0 by decide)).mpr h9)
    refine lv_iload_n hx hb dX5_worthOf_8 rfl (lv_at hl 1 rfl) ?_
    refine lv_iconst (v := 4) hx hb dX5_worthOf_9 (by decide) ?_
    refine lv_icmp_ge (tgt := 25) hx hb dX5_worthOf_10 (by decide) (fun c9 => absurd c9 (by decide)) (fun _ => ?_)
    refine lv_aload_n hx hb dX5_worthOf_13 rfl (lv_at hl 0 rfl) ?_
    refine tk_get (ci := 5) (C := RX5) (T := TX5) (N := 11) (sp := (6, 26, 5, 0)) hx hb htl inX5 hown hK hG ht_a0 (by decide) tk_no rfl 2 (by decide) (htl _ mw_149) (fun _ h9 => h9) rfl dX5_worthOf_14 (fun v9 hf4 hV9 => ?_)
    obtain ⟨b5, rfl, ht_b5⟩ := hV9
    have ht_b5 : t b5 = (26, 5, 0) := ht_b5
    refine lv_iload_n hx hb dX5_worthOf_17 rfl (lv_at hl 1 rfl) ?_
    refine tk_aald hx hb hK hG 3 rfl rfl ht_b5 (by decide) (fun _ h => h) tk_no (I := 0) (by decide) (by decide) (by decide) dX5_worthOf_18 (fun o6 ht_o6 => ?_)
    obtain ⟨rfl, ht_ld30⟩ := ht_o6
    have ht_ld30 : t (ld 30) = (10, 0, 10) := ht_ld30
    refine fx_top (v := .ref (ld 30)) rfl ?_
    obtain ⟨v9, hf7, hV9⟩ := tk_peek (ci := 9) (C := RX9) (T := TX9) (N := 11) (sp := (0, (-1), 7, 0)) hG ht_ld30 (by decide) tk_no rfl 5 (by decide) rfl
    obtain ⟨v8, rfl, (ha_v8 : (-1) ≤ v8.toInt), (hb_v8 : v8.toInt ≤ 7)⟩ := hV9
    refine tk_Vi (As := []) (rest := []) (ci := 9) ⟨hx, hb, hml, hown, hts⟩ hK hG hZ hS (k_X9_isDuel l D cy ld t 10 (ld 30) v8 ht_ld30 (by omega) (by omega)) hf7 ⟨callB_of 0 hts (wl_in mw_840) rfl rfl rfl (htl _ mw_76) (htl _ mw_1299) hd_yX9_isDuel ⟨(Nat.le_of_ble_eq_true rfl), (Nat.le_of_ble_eq_true rfl)⟩, htl _ mw_838, htl _ mw_839⟩ ht_ld30 (by decide) tk_no rfl (tk_w.pick [] rfl) rfl hl.1 rfl (Nat.le_of_ble_eq_true rfl) dX5_worthOf_19 ⟨(Nat.le_of_ble_eq_true rfl), (Nat.le_of_ble_eq_true rfl)⟩ (fun v9 H locs hpo hG hS hq9 => ?_)
    have hf7 := hf7.call hq9 tk_w.nil
    obtain ⟨hpo11, hpo12, hpo13, hpo14, hpo15⟩ := hpo
    refine lv_if_ne (tgt := 27) hx hb dX5_worthOf_22 (by decide) (fun c9 => ?_) (fun c9 => ?_)
    · have hc16 : ¬ (v9.toInt = 0) := fun h9 => c9 ((fi_eq rfl (show (0 : Int32).toInt = 0 by decide)).mpr h9)
      refine lv_aload_n hx hb dX5_worthOf_27 rfl (lv_at hl 0 rfl) ?_
      refine tk_get (ci := 5) (C := RX5) (T := TX5) (N := 11) (sp := (6, 26, 5, 0)) hx hb htl inX5 hown hK hG ht_a0 (by decide) tk_no rfl 2 (by decide) (htl _ mw_149) (fun _ h9 => h9) rfl dX5_worthOf_28 (fun v9 hf17 hV9 => ?_)
      obtain ⟨b18, rfl, ht_b18⟩ := hV9
      have ht_b18 : t b18 = (26, 5, 0) := ht_b18
      refine lv_iload_n hx hb dX5_worthOf_31 rfl (lv_at hl 1 rfl) ?_
      refine tk_aald hx hb hK hG 3 rfl rfl ht_b18 (by decide) (fun _ h => h) tk_no (I := 0) (by decide) (by decide) (by decide) dX5_worthOf_32 (fun o19 ht_o19 => ?_)
      obtain ⟨rfl, ht_ld30⟩ := ht_o19
      have ht_ld30 : t (ld 30) = (10, 0, 10) := ht_ld30
      refine fx_top (v := .ref (ld 30)) rfl ?_
      refine lv_astore (lv' := [(4, .ref (ld 30)), (0, .ref a0), (1, .int 0), (2, .int p2), (3, .int p3)]) hx hb dX5_worthOf_33 hl (by decide) rfl (fun ls hl => ?_)
      refine lv_aload_n hx hb dX5_worthOf_35 rfl (lv_at hl 1 rfl) ?_
      refine tk_get (ci := 5) (C := RX5) (T := TX5) (N := 11) (sp := (6, 26, 5, 0)) hx hb htl inX5 hown hK hG ht_a0 (by decide) tk_no rfl 2 (by decide) (htl _ mw_149) (fun _ h9 => h9) rfl dX5_worthOf_36 (fun v9 hf20 hV9 => ?_)
      obtain ⟨b21, rfl, ht_b21⟩ := hV9
      have ht_b21 : t b21 = (26, 5, 0) := ht_b21
      refine lv_iload_n hx hb dX5_worthOf_39 rfl (lv_at hl 2 rfl) ?_
      refine lv_iconst (v := 1) hx hb dX5_worthOf_40 (by decide) ?_
      refine lv_iadd hx hb dX5_worthOf_41 ?_
      refine fx_ti (v := 1) (by decide) ?_
      refine tk_aald hx hb hK hG 3 rfl rfl ht_b21 (by decide) (fun _ h => h) tk_no (I := 1) (by decide) (by decide) (by decide) dX5_worthOf_42 (fun o22 ht_o22 => ?_)
      obtain ⟨rfl, ht_ld31⟩ := ht_o22
      have ht_ld31 : t (ld 31) = (10, 0, 11) := ht_ld31
      refine fx_top (v := .ref (ld 31)) rfl ?_
      refine lv_astore (lv' := [(5, .ref (ld 31)), (4, .ref (ld 30)), (0, .ref a0), (1, .int 0), (2, .int p2), (3, .int p3)]) hx hb dX5_worthOf_43 hl (by decide) rfl (fun ls hl => ?_)
      refine lv_iconst (v := (-1)) hx hb dX5_worthOf_45 (by decide) ?_
      refine lv_istore (lv' := [(6, .int (-1)), (5, .ref (ld 31)), (4, .ref (ld 30)), (0, .ref a0), (1, .int 0), (2, .int p2), (3, .int p3)]) hx hb dX5_worthOf_46 hl (by decide) rfl (fun ls hl => ?_)
      refine lv_iconst (v := 0) hx hb dX5_worthOf_48 (by decide) ?_
      refine lv_istore (lv' := [(7, .int 0), (6, .int (-1)), (5, .ref (ld 31)), (4, .ref (ld 30)), (0, .ref a0), (1, .int 0), (2, .int p2), (3, .int p3)]) hx hb dX5_worthOf_49 hl (by decide) rfl (fun ls hl => ?_)
      refine lv_iconst (v := 0) hx hb dX5_worthOf_51 (by decide) ?_
      refine lv_istore (lv' := [(8, .int 0), (7, .int 0), (6, .int (-1)), (5, .ref (ld 31)), (4, .ref (ld 30)), (0, .ref a0), (1, .int 0), (2, .int p2), (3, .int p3)]) hx hb dX5_worthOf_52 hl (by decide) rfl (fun ls hl => ?_)
      have hl1941 : ∀ (N_l1941 : Nat) (v23 : Int32) (v24 : Int32) (v25 : Int32) (H : Heap) (locs : List Loc), v23.toInt ≤ 10 → (-1) ≤ v25.toInt → 0 ≤ v23.toInt + (-1) * v25.toInt + (-1) → v24.toInt ≤ 1000000000 → (-1000000000) ≤ v24.toInt → (-1) * v23.toInt + 10 < (N_l1941 : Int) → tk_G D cy ld t [] H → va_S (tk_w t [(20, 0, 0), (12, 0, 0), (9, 0, 0), (20, 11, 11), (10, 11, 11), (20, 12, 12), (10, 12, 12), (20, 13, 13), (10, 13, 13), (20, 14, 14), (10, 14, 14), (6, 0, 0)]) s.heap H locs → tk_f D H (ld 30) 9 5 (.int v8) → ∀ ls : Array Slot, lv_has ls 11 [(8, .int v23), (7, .int v24), (6, .int v25), (5, .ref (ld 31)), (4, .ref (ld 30)), (0, .ref a0), (1, .int 0), (2, .int p2), (3, .int p3)] → W p l e ({ frames := 10, cells := 0, slots := 0, locals := 630 }) s m args below meth c H locs 0 0 (MQ below (ti D cy ld t [] (fun r H => (-1000000000) ≤ r.toInt ∧ r.toInt ≤ 1000000000) (tk_w t [(20, 0, 0), (12, 0, 0), (9, 0, 0), (20, 11, 11), (10, 11, 11), (20, 12, 12), (10, 12, 12), (20, 13, 13), (10, 13, 13), (20, 14, 14), (10, 14, 14), (6, 0, 0)])) args s 0 0 (tk_w t [(20, 0, 0), (12, 0, 0), (9, 0, 0), (20, 11, 11), (10, 11, 11), (20, 12, 12), (10, 12, 12), (20, 13, 13), (10, 13, 13), (20, 14, 14), (10, 14, 14), (6, 0, 0)])) (F0 m 54 ls []) := by
        intro N_l1941
        induction N_l1941 with
        | zero => intro v23 v24 v25 H locs hq0_l1941 hq1_l1941 hq2_l1941 hq3_l1941 hq4_l1941 hm_l1941 hG hS hf7 ls hl; exfalso; omega
        | succ N_l1941 ih_l1941 =>
          intro v23 v24 v25 H locs hq0_l1941 hq1_l1941 hq2_l1941 hq3_l1941 hq4_l1941 hm_l1941 hG hS hf7 ls hl
          refine lv_iload hx hb dX5_worthOf_54 (lv_at hl 0 rfl) ?_
          refine lv_aload_n hx hb dX5_worthOf_56 rfl (lv_at hl 5 rfl) ?_
          refine tk_get (ci := 5) (C := RX5) (T := TX5) (N := 11) (sp := (8, 20, 3, 0)) hx hb htl inX5 hown hK hG ht_a0 (by decide) tk_no rfl 0 (by decide) (htl _ mw_155) (fun _ h9 => h9) rfl dX5_worthOf_57 (fun v9 hf1942 hV9 => ?_)
          obtain ⟨rfl, ht_ld20⟩ := hV9
          have ht_ld20 : t (ld 20) = (3, 0, 0) := ht_ld20
          refine fx_top (v := .ref (ld 20)) rfl ?_
          refine tk_get (ci := 2) (C := RX2) (T := TX2) (N := 20) (sp := (0, 0, 10, 0)) hx hb htl inX2 hown hK hG ht_ld20 (by decide) tk_no rfl 4 (by decide) (htl _ mw_1297) (fun _ h9 => h9) rfl dX5_worthOf_60 (fun v9 hf1943 hV9 => ?_)
          obtain ⟨v1944, rfl, (ha_v1944 : 0 ≤ v1944.toInt), (hb_v1944 : v1944.toInt ≤ 10)⟩ := hV9
          have hj2090 : ∀ (_ : Unit), ∀ ls : Array Slot, lv_has ls 11 [(7, .int v24), (6, .int v25), (0, .ref a0), (1, .int 0)] → W p l e ({ frames := 10, cells := 0, slots := 0, locals := 630 }) s m args below meth c H locs 0 0 (MQ below (ti D cy ld t [] (fun r H => (-1000000000) ≤ r.toInt ∧ r.toInt ≤ 1000000000) (tk_w t [(20, 0, 0), (12, 0, 0), (9, 0, 0), (20, 11, 11), (10, 11, 11), (20, 12, 12), (10, 12, 12), (20, 13, 13), (10, 13, 13), (20, 14, 14), (10, 14, 14), (6, 0, 0)])) args s 0 0 (tk_w t [(20, 0, 0), (12, 0, 0), (9, 0, 0), (20, 11, 11), (10, 11, 11), (20, 12, 12), (10, 12, 12), (20, 13, 13), (10, 13, 13), (20, 14, 14), (10, 14, 14), (6, 0, 0)])) (F0 m 183 ls []) := by
            intro _  ls hl
            refine lv_iload_n hx hb dX5_worthOf_183 rfl (lv_at hl 3 rfl) ?_
            refine lv_if_ne (tgt := 193) hx hb dX5_worthOf_184 (by decide) (fun c9 => absurd (by decide) c9) (fun _ => ?_)
            refine lv_aload_n hx hb dX5_worthOf_187 rfl (lv_at hl 2 rfl) ?_
            refine lv_iload hx hb dX5_worthOf_188 (lv_at hl 1 rfl) ?_
            refine tk_put (ci := 5) (v := .int v25) (ty := .int) (C := RX5) (T := TX5) (N := 11) (sp := (0, (-2147483648), 2147483647, 0)) hx hb htl inX5 tyX5 tyX5_ok nmX5 hown hK hG hS ht_a0 (by decide) tk_no rfl 4 (by decide) (htl _ mw_1287) (fun _ h9 => h9) rfl (tyX5_ok 4 (by decide)) rfl rfl rfl (tk_V0 (tk_rng _).1 (tk_rng _).2) (fun _ h => h) (tk_w.of ht_a0 (by decide) (List.mem_of_getElem? (i := 11) rfl) (Nat.le_refl _) (Nat.le_refl _)) dX5_worthOf_190 (fun H locs hG hS hf2091 hq9 hj9 => ?_)
            have hf7 := hf7.kept (hq9 _ (tk_ne ht_ld30 ht_a0 (Or.inl (by decide))))
            have hf1943 := hf1943.kept (hq9 _ (tk_ne ht_ld20 ht_a0 (Or.inl (by decide))))
            refine lv_iload hx hb dX5_worthOf_193 (lv_at hl 0 rfl) ?_
            exact tk_iret (v := v24) hx hb hr rfl hlocks (show (-1000000000) ≤ v24.toInt ∧ v24.toInt ≤ 1000000000 from ⟨(by omega), (by omega)⟩) hG hS dX5_worthOf_195
          refine lv_icmp_ge (tgt := 183) hx hb dX5_worthOf_63 (by decide) (fun c9 => ?_) (fun c9 => ?_)
          · have hc1945 : v1944.toInt ≤ v23.toInt := (fi_le rfl rfl).mp c9
            exact hj2090 () _ (lv_sub hl [1, 2, 5, 6] rfl)
          · have hc1945 : ¬ (v1944.toInt ≤ v23.toInt) := fun h9 => c9 ((fi_le rfl rfl).mpr h9)
            refine lv_iload hx hb dX5_worthOf_66 (lv_at hl 2 rfl) ?_
            refine lv_iconst (v := (-1)) hx hb dX5_worthOf_68 (by decide) ?_
            refine lv_icmp_eq (tgt := 78) hx hb dX5_worthOf_69 (by decide) (fun c9 => ?_) (fun c9 => ?_)
            · have hc2093 : v25.toInt = (-1) := (fi_eq rfl (show ((-1) : Int32).toInt = (-1) by decide)).mp c9
              refine lv_aload_n hx hb dX5_worthOf_78 rfl (lv_at hl 5 rfl) ?_
              refine tk_get (ci := 5) (C := RX5) (T := TX5) (N := 11) (sp := (6, 9, 0, 0)) hx hb htl inX5 hown hK hG ht_a0 (by decide) tk_no rfl 1 (by decide) (htl _ mw_156) (fun _ h9 => h9) rfl dX5_worthOf_79 (fun v9 hf2094 hV9 => ?_)
              obtain ⟨b2095, rfl, ht_b2095⟩ := hV9
              have ht_b2095 : t b2095 = (9, 0, 0) := ht_b2095
              refine lv_aload hx hb dX5_worthOf_82 (lv_at hl 4 rfl) ?_
              refine lv_iload hx hb dX5_worthOf_84 (lv_at hl 0 rfl) ?_
              refine tk_Vi (As := [.ref (ld 30), .int v23]) (rest := []) (ci := 8) ⟨hx, hb, hml, hown, hts⟩ hK hG hZ hS (k_X8_isBarred l D cy ld t 10 b2095 (ld 30) v23 v8 ht_b2095 ht_ld30 (by omega) (by omega) (by omega) (by omega)) hf7 ⟨callB_of 2 hts (wl_in mw_901) rfl rfl rfl (htl _ mw_21) (htl _ mw_1300) hd_yX8_isBarred ⟨(Nat.le_of_ble_eq_true rfl), (Nat.le_of_ble_eq_true rfl)⟩, htl _ mw_899, htl _ mw_900⟩ ht_b2095 (by decide) tk_no rfl (tk_w.pick [0, 1, 2] rfl) rfl hl.1 rfl (Nat.le_of_ble_eq_true rfl) dX5_worthOf_86 ⟨(Nat.le_of_ble_eq_true rfl), (Nat.le_of_ble_eq_true rfl)⟩ (fun v2096 H locs hpo hG hS hq9 => ?_)
              have hf7 := hf7.call hq9 (tk_w.no ht_ld30 (by decide))
              have hf1943 := hf1943.call hq9 (tk_w.no ht_ld20 (by decide))
              obtain ⟨hpo2098, hpo2099, hpo2100, hpo2101⟩ := hpo
              have hj2135 : ∀ (v2132 : Int32) (v2133 : Int32) (H : Heap) (locs : List Loc), (-1000000000) ≤ v2132.toInt → v2132.toInt ≤ 1000000000 → 0 ≤ (-1) * v2133.toInt + v23.toInt → 0 ≤ v2133.toInt + (-1) * v25.toInt → tk_G D cy ld t [] H → va_S (tk_w t [(20, 0, 0), (12, 0, 0), (9, 0, 0), (20, 11, 11), (10, 11, 11), (20, 12, 12), (10, 12, 12), (20, 13, 13), (10, 13, 13), (20, 14, 14), (10, 14, 14), (6, 0, 0)]) s.heap H locs → tk_f D H (ld 30) 9 5 (.int v8) → tk_f D H (ld 20) 2 4 (.int v1944) → ∀ ls : Array Slot, lv_has ls 11 [(7, .int v2132), (6, .int v2133), (8, .int v23), (5, .ref (ld 31)), (4, .ref (ld 30)), (0, .ref a0), (1, .int 0), (2, .int p2), (3, .int p3)] → W p l e ({ frames := 10, cells := 0, slots := 0, locals := 630 }) s m args below meth c H locs 0 0 (MQ below (ti D cy ld t [] (fun r H => (-1000000000) ≤ r.toInt ∧ r.toInt ≤ 1000000000) (tk_w t [(20, 0, 0), (12, 0, 0), (9, 0, 0), (20, 11, 11), (10, 11, 11), (20, 12, 12), (10, 12, 12), (20, 13, 13), (10, 13, 13), (20, 14, 14), (10, 14, 14), (6, 0, 0)])) args s 0 0 (tk_w t [(20, 0, 0), (12, 0, 0), (9, 0, 0), (20, 11, 11), (10, 11, 11), (20, 12, 12), (10, 12, 12), (20, 13, 13), (10, 13, 13), (20, 14, 14), (10, 14, 14), (6, 0, 0)])) (F0 m 177 ls []) := by
                intro v2132 v2133 H locs hq0_j2135 hq1_j2135 hq2_j2135 hq3_j2135 hG hS hf7 hf1943 ls hl
                obtain ⟨v2136, h_v2136, e_v2136⟩ := tk_inc v23 1 (by decide) (by omega) (by omega)
                refine lv_iinc (v := v2136) (lv' := [(8, .int v2136), (7, .int v2132), (6, .int v2133), (5, .ref (ld 31)), (4, .ref (ld 30)), (0, .ref a0), (1, .int 0), (2, .int p2), (3, .int p3)]) hx hb dX5_worthOf_177 hl (k := 2) rfl e_v2136 (by decide) rfl (fun ls hl => ?_)
                refine lv_goto (tgt := 54) hx hb dX5_worthOf_180 (by decide) ?_
                exact ih_l1941 v2136 v2132 v2133 _ _ (by omega) (by omega) (by omega) (by omega) (by omega) (by omega) hG hS hf7 _ (lv_sub hl [0, 1, 2, 3, 4, 5, 6, 7, 8] rfl)
              refine lv_if_eq (tgt := 95) hx hb dX5_worthOf_89 (by decide) (fun c9 => ?_) (fun c9 => ?_)
              · have hc2102 : v2096.toInt = 0 := (fi_eq rfl (show (0 : Int32).toInt = 0 by decide)).mp c9
                refine lv_aload hx hb dX5_worthOf_95 (lv_at hl 3 rfl) ?_
                refine lv_aload hx hb dX5_worthOf_97 (lv_at hl 4 rfl) ?_
                refine tk_Vv (As := [.ref (ld 30)]) (rest := []) (ci := 9) ⟨hx, hb, hml, hown, hts⟩ hK hG hZ hS (k_X9_copyFrom l D cy ld t 11 10 (ld 31) (ld 30) v8 ht_ld31 ht_ld30 (by omega) (by omega) (by omega)) hf7 ⟨callB_of 1 hts (wl_in mw_821) rfl rfl rfl (htl _ mw_76) (htl _ mw_1292) hd_yX9_copyFrom ⟨(Nat.le_of_ble_eq_true rfl), (Nat.le_of_ble_eq_true rfl)⟩, htl _ mw_819, htl _ mw_820⟩ ht_ld31 (by decide) tk_no rfl (tk_w.pick [3, 4] rfl) rfl hl.1 rfl (Nat.le_of_ble_eq_true rfl) dX5_worthOf_99 ⟨(Nat.le_of_ble_eq_true rfl), (Nat.le_of_ble_eq_true rfl)⟩ (fun H locs hpo hG hS hq9 => ?_)
                have hf7 := hf7.call hq9 (tk_w.no ht_ld30 (by decide))
                have hf1943 := hf1943.call hq9 (tk_w.no ht_ld20 (by decide))
                have hf2138 := hpo
                refine lv_iload hx hb dX5_worthOf_102 (lv_at hl 2 rfl) ?_
                refine lv_iconst (v := (-1)) hx hb dX5_worthOf_104 (by decide) ?_
                refine lv_icmp_ne (tgt := 112) hx hb dX5_worthOf_105 (by decide) (fun c9 => absurd ((fi_eq rfl (show ((-1) : Int32).toInt = (-1) by decide)).mpr (show v25.toInt = (-1) by omega)) c9) (fun _ => ?_)
                refine lv_iload_n hx hb dX5_worthOf_108 rfl (lv_at hl 7 rfl) ?_
                refine lv_goto (tgt := 118) hx hb dX5_worthOf_109 (by decide) ?_
                refine lv_istore (lv' := [(9, .int p2), (8, .int v23), (7, .int v24), (6, .int v25), (5, .ref (ld 31)), (4, .ref (ld 30)), (0, .ref a0), (1, .int 0), (2, .int p2), (3, .int p3)]) hx hb dX5_worthOf_118 hl (by decide) rfl (fun ls hl => ?_)
                refine lv_aload_n hx hb dX5_worthOf_120 rfl (lv_at hl 6 rfl) ?_
                refine tk_get (ci := 5) (C := RX5) (T := TX5) (N := 11) (sp := (6, 9, 0, 0)) hx hb htl inX5 hown hK hG ht_a0 (by decide) tk_no rfl 1 (by decide) (htl _ mw_156) (fun _ h9 => h9) rfl dX5_worthOf_121 (fun v9 hf2139 hV9 => ?_)
                obtain ⟨b2140, rfl, ht_b2140⟩ := hV9
                have ht_b2140 : t b2140 = (9, 0, 0) := ht_b2140
                refine lv_aload hx hb dX5_worthOf_124 (lv_at hl 4 rfl) ?_
                refine lv_iload hx hb dX5_worthOf_126 (lv_at hl 1 rfl) ?_
                refine tk_Vi (As := [.ref (ld 31), .int v23]) (rest := []) (ci := 8) ⟨hx, hb, hml, hown, hts⟩ hK hG hZ hS (k_X8_singOn l D cy ld t 11 b2140 (ld 31) v23 v8 ht_b2140 ht_ld31 (by omega) (by omega) (by omega) (by omega)) hf2138 ⟨callB_of 2 hts (wl_in mw_946) rfl rfl rfl (htl _ mw_21) (htl _ mw_1301) hd_yX8_singOn ⟨(Nat.le_of_ble_eq_true rfl), (Nat.le_of_ble_eq_true rfl)⟩, htl _ mw_944, htl _ mw_945⟩ ht_b2140 (by decide) tk_no rfl (tk_w.pick [0, 1, 2, 3, 4] rfl) rfl hl.1 rfl (Nat.le_of_ble_eq_true rfl) dX5_worthOf_128 ⟨(Nat.le_of_ble_eq_true rfl), (Nat.le_of_ble_eq_true rfl)⟩ (fun v2141 H locs hpo hG hS hq9 => ?_)
                have hf7 := hf7.call hq9 (tk_w.no ht_ld30 (by decide))
                have hf1943 := hf1943.call hq9 (tk_w.no ht_ld20 (by decide))
                have hj2155 : ∀ (v2153 : Int32) (H : Heap) (locs : List Loc), (-1000000000) ≤ v2153.toInt → v2153.toInt ≤ 1000000000 → tk_G D cy ld t [] H → va_S (tk_w t [(20, 0, 0), (12, 0, 0), (9, 0, 0), (20, 11, 11), (10, 11, 11), (20, 12, 12), (10, 12, 12), (20, 13, 13), (10, 13, 13), (20, 14, 14), (10, 14, 14), (6, 0, 0)]) s.heap H locs → tk_f D H (ld 30) 9 5 (.int v8) → tk_f D H (ld 20) 2 4 (.int v1944) → ∀ ls : Array Slot, lv_has ls 11 [(8, .int v23), (7, .int v24), (6, .int v25), (5, .ref (ld 31)), (4, .ref (ld 30)), (0, .ref a0), (1, .int 0), (2, .int p2), (3, .int p3)] → W p l e ({ frames := 10, cells := 0, slots := 0, locals := 630 }) s m args below meth c H locs 0 0 (MQ below (ti D cy ld t [] (fun r H => (-1000000000) ≤ r.toInt ∧ r.toInt ≤ 1000000000) (tk_w t [(20, 0, 0), (12, 0, 0), (9, 0, 0), (20, 11, 11), (10, 11, 11), (20, 12, 12), (10, 12, 12), (20, 13, 13), (10, 13, 13), (20, 14, 14), (10, 14, 14), (6, 0, 0)])) args s 0 0 (tk_w t [(20, 0, 0), (12, 0, 0), (9, 0, 0), (20, 11, 11), (10, 11, 11), (20, 12, 12), (10, 12, 12), (20, 13, 13), (10, 13, 13), (20, 14, 14), (10, 14, 14), (6, 0, 0)])) (F0 m 154 ls [.int v2153]) := by
                  intro v2153 H locs hq0_j2155 hq1_j2155 hG hS hf7 hf1943 ls hl
                  refine lv_istore (lv' := [(10, .int v2153), (8, .int v23), (7, .int v24), (6, .int v25), (5, .ref (ld 31)), (4, .ref (ld 30)), (0, .ref a0), (1, .int 0), (2, .int p2), (3, .int p3)]) hx hb dX5_worthOf_154 hl (by decide) rfl (fun ls hl => ?_)
                  refine lv_iload hx hb dX5_worthOf_156 (lv_at hl 3 rfl) ?_
                  refine lv_iconst (v := (-1)) hx hb dX5_worthOf_158 (by decide) ?_
                  refine lv_icmp_eq (tgt := 169) hx hb dX5_worthOf_159 (by decide) (fun _ => ?_) (fun c9 => absurd ((fi_eq rfl (show ((-1) : Int32).toInt = (-1) by decide)).mpr (show v25.toInt = (-1) by omega)) c9)
                  refine lv_iload hx hb dX5_worthOf_169 (lv_at hl 1 rfl) ?_
                  refine lv_istore (lv' := [(6, .int v23), (10, .int v2153), (8, .int v23), (7, .int v24), (5, .ref (ld 31)), (4, .ref (ld 30)), (0, .ref a0), (1, .int 0), (2, .int p2), (3, .int p3)]) hx hb dX5_worthOf_171 hl (by decide) rfl (fun ls hl => ?_)
                  refine lv_iload hx hb dX5_worthOf_173 (lv_at hl 1 rfl) ?_
                  refine lv_istore (lv' := [(7, .int v2153), (6, .int v23), (10, .int v2153), (8, .int v23), (5, .ref (ld 31)), (4, .ref (ld 30)), (0, .ref a0), (1, .int 0), (2, .int p2), (3, .int p3)]) hx hb dX5_worthOf_175 hl (by decide) rfl (fun ls hl => ?_)
                  exact hj2135 v2153 v23 _ _ (by omega) (by omega) (by omega) (by omega) hG hS hf7 hf1943 _ (lv_sub hl [0, 1, 3, 4, 5, 6, 7, 8, 9] rfl)
                refine lv_if_ne (tgt := 141) hx hb dX5_worthOf_131 (by decide) (fun c9 => ?_) (fun c9 => ?_)
                · have hc2143 : ¬ (v2141.toInt = 0) := fun h9 => c9 ((fi_eq rfl (show (0 : Int32).toInt = 0 by decide)).mpr h9)
                  refine lv_aload_n hx hb dX5_worthOf_141 rfl (lv_at hl 6 rfl) ?_
                  refine lv_iload_n hx hb dX5_worthOf_142 rfl (lv_at hl 7 rfl) ?_
                  refine lv_iconst (v := 1) hx hb dX5_worthOf_143 (by decide) ?_
                  refine lv_iadd hx hb dX5_worthOf_144 ?_
                  refine fx_ti (v := 1) (by decide) ?_
                  refine lv_iload_n hx hb dX5_worthOf_145 rfl (lv_at hl 9 rfl) ?_
                  refine lv_ineg hx hb dX5_worthOf_146 ?_
                  refine tk_any (fun v2156 => ?_)
                  refine lv_iload hx hb dX5_worthOf_147 (lv_at hl 0 rfl) ?_
                  refine lv_ineg hx hb dX5_worthOf_149 ?_
                  refine tk_any (fun v2157 => ?_)
                  have hk_1 : (1 : Int32).toInt = 1 := by decide
                  refine tk_Vi (As := [.int 1, .int v2156, .int v2157]) (rest := []) (ci := 5) ⟨hx, hb, hml, hown, hts⟩ hK hG hZ hS (k_X5_worthOf_1 l D cy ld t a0 v2156 v2157 ht_a0) trivial ⟨callB_of 3 hts (wl_in mw_1296) rfl rfl rfl (htl _ mw_40) (htl _ mw_1293) hd_yX5_worthOf ⟨(Nat.le_of_ble_eq_true rfl), (Nat.le_of_ble_eq_true rfl)⟩, htl _ mw_1294, htl _ mw_1295⟩ ht_a0 (by decide) tk_no rfl (tk_w.pick [0, 1, 2, 5, 6, 7, 8, 9, 10] rfl) rfl hl.1 rfl (Nat.le_of_ble_eq_true rfl) dX5_worthOf_150 ⟨(Nat.le_of_ble_eq_true rfl), (Nat.le_of_ble_eq_true rfl)⟩ (fun v2158 H locs hpo hG hS hq9 => ?_)
                  have hf7 := hf7.call hq9 (tk_w.no ht_ld30 (by decide))
                  have hf1943 := hf1943.call hq9 (tk_w.no ht_ld20 (by decide))
                  obtain ⟨hpo2160, hpo2161⟩ := hpo
                  refine lv_ineg hx hb dX5_worthOf_153 ?_
                  refine tk_neg rfl (by omega) (by omega) (fun v2162 h_v2162 => ?_)
                  exact hj2155 v2162 _ _ (by omega) (by omega) hG hS hf7 hf1943 _ (lv_sub hl [1, 2, 3, 4, 5, 6, 7, 8, 9] rfl)
                · have hc2143 : v2141.toInt = 0 := (fi_eq rfl (show (0 : Int32).toInt = 0 by decide)).mp c9
                  refine lv_bipush (v := 100) hx hb dX5_worthOf_134 (by decide) ?_
                  refine lv_iload_n hx hb dX5_worthOf_136 rfl (lv_at hl 7 rfl) ?_
                  refine lv_isub hx hb dX5_worthOf_137 ?_
                  refine fx_ti (v := 100) (by decide) ?_
                  refine lv_goto (tgt := 154) hx hb dX5_worthOf_138 (by decide) ?_
                  have hk_100 : (100 : Int32).toInt = 100 := by decide
                  exact hj2155 100 _ _ (by omega) (by omega) hG hS hf7 hf1943 _ (lv_sub hl [1, 2, 3, 4, 5, 6, 7, 8, 9] rfl)
              · have hc2102 : ¬ (v2096.toInt = 0) := fun h9 => c9 ((fi_eq rfl (show (0 : Int32).toInt = 0 by decide)).mpr h9)
                refine lv_goto (tgt := 177) hx hb dX5_worthOf_92 (by decide) ?_
                exact hj2135 v24 v25 _ _ (by omega) (by omega) (by omega) (by omega) hG hS hf7 hf1943 _ (lv_sub hl [1, 2, 0, 3, 4, 5, 6, 7, 8] rfl)
            · have hc2093 : ¬ (v25.toInt = (-1)) := fun h9 => c9 ((fi_eq rfl (show ((-1) : Int32).toInt = (-1) by decide)).mpr h9)
              refine lv_iload hx hb dX5_worthOf_72 (lv_at hl 1 rfl) ?_
              refine lv_iload_n hx hb dX5_worthOf_74 rfl (lv_at hl 8 rfl) ?_
              refine lv_icmp_ge (tgt := 183) hx hb dX5_worthOf_75 (by decide) (fun c9 => ?_) (fun c9 => ?_)
              · have hc2163 : p3.toInt ≤ v24.toInt := (fi_le rfl rfl).mp c9
                exact hj2090 () _ (lv_sub hl [1, 2, 5, 6] rfl)
              · have hc2163 : ¬ (p3.toInt ≤ v24.toInt) := fun h9 => c9 ((fi_le rfl rfl).mpr h9)
                refine lv_aload_n hx hb dX5_worthOf_78 rfl (lv_at hl 5 rfl) ?_
                refine tk_get (ci := 5) (C := RX5) (T := TX5) (N := 11) (sp := (6, 9, 0, 0)) hx hb htl inX5 hown hK hG ht_a0 (by decide) tk_no rfl 1 (by decide) (htl _ mw_156) (fun _ h9 => h9) rfl dX5_worthOf_79 (fun v9 hf2164 hV9 => ?_)
                obtain ⟨b2165, rfl, ht_b2165⟩ := hV9
                have ht_b2165 : t b2165 = (9, 0, 0) := ht_b2165
                refine lv_aload hx hb dX5_worthOf_82 (lv_at hl 4 rfl) ?_
                refine lv_iload hx hb dX5_worthOf_84 (lv_at hl 0 rfl) ?_
                refine tk_Vi (As := [.ref (ld 30), .int v23]) (rest := []) (ci := 8) ⟨hx, hb, hml, hown, hts⟩ hK hG hZ hS (k_X8_isBarred l D cy ld t 10 b2165 (ld 30) v23 v8 ht_b2165 ht_ld30 (by omega) (by omega) (by omega) (by omega)) hf7 ⟨callB_of 2 hts (wl_in mw_901) rfl rfl rfl (htl _ mw_21) (htl _ mw_1300) hd_yX8_isBarred ⟨(Nat.le_of_ble_eq_true rfl), (Nat.le_of_ble_eq_true rfl)⟩, htl _ mw_899, htl _ mw_900⟩ ht_b2165 (by decide) tk_no rfl (tk_w.pick [0, 1, 2] rfl) rfl hl.1 rfl (Nat.le_of_ble_eq_true rfl) dX5_worthOf_86 ⟨(Nat.le_of_ble_eq_true rfl), (Nat.le_of_ble_eq_true rfl)⟩ (fun v2166 H locs hpo hG hS hq9 => ?_)
                have hf7 := hf7.call hq9 (tk_w.no ht_ld30 (by decide))
                have hf1943 := hf1943.call hq9 (tk_w.no ht_ld20 (by decide))
                obtain ⟨hpo2168, hpo2169, hpo2170, hpo2171⟩ := hpo
                have hj2207 : ∀ (v2204 : Int32) (v2205 : Int32) (H : Heap) (locs : List Loc), v2204.toInt ≤ 1000000000 → 0 ≤ v2204.toInt + (-1) * v24.toInt → 0 ≤ (-1) * v2205.toInt + v23.toInt → 0 ≤ v2205.toInt + (-1) * v25.toInt → tk_G D cy ld t [] H → va_S (tk_w t [(20, 0, 0), (12, 0, 0), (9, 0, 0), (20, 11, 11), (10, 11, 11), (20, 12, 12), (10, 12, 12), (20, 13, 13), (10, 13, 13), (20, 14, 14), (10, 14, 14), (6, 0, 0)]) s.heap H locs → tk_f D H (ld 30) 9 5 (.int v8) → tk_f D H (ld 20) 2 4 (.int v1944) → ∀ ls : Array Slot, lv_has ls 11 [(8, .int v23), (7, .int v2204), (6, .int v2205), (5, .ref (ld 31)), (4, .ref (ld 30)), (0, .ref a0), (1, .int 0), (2, .int p2), (3, .int p3)] → W p l e ({ frames := 10, cells := 0, slots := 0, locals := 630 }) s m args below meth c H locs 0 0 (MQ below (ti D cy ld t [] (fun r H => (-1000000000) ≤ r.toInt ∧ r.toInt ≤ 1000000000) (tk_w t [(20, 0, 0), (12, 0, 0), (9, 0, 0), (20, 11, 11), (10, 11, 11), (20, 12, 12), (10, 12, 12), (20, 13, 13), (10, 13, 13), (20, 14, 14), (10, 14, 14), (6, 0, 0)])) args s 0 0 (tk_w t [(20, 0, 0), (12, 0, 0), (9, 0, 0), (20, 11, 11), (10, 11, 11), (20, 12, 12), (10, 12, 12), (20, 13, 13), (10, 13, 13), (20, 14, 14), (10, 14, 14), (6, 0, 0)])) (F0 m 177 ls []) := by
                  intro v2204 v2205 H locs hq0_j2207 hq1_j2207 hq2_j2207 hq3_j2207 hG hS hf7 hf1943 ls hl
                  obtain ⟨v2208, h_v2208, e_v2208⟩ := tk_inc v23 1 (by decide) (by omega) (by omega)
                  refine lv_iinc (v := v2208) (lv' := [(8, .int v2208), (7, .int v2204), (6, .int v2205), (5, .ref (ld 31)), (4, .ref (ld 30)), (0, .ref a0), (1, .int 0), (2, .int p2), (3, .int p3)]) hx hb dX5_worthOf_177 hl (k := 0) rfl e_v2208 (by decide) rfl (fun ls hl => ?_)
                  refine lv_goto (tgt := 54) hx hb dX5_worthOf_180 (by decide) ?_
                  exact ih_l1941 v2208 v2204 v2205 _ _ (by omega) (by omega) (by omega) (by omega) (by omega) (by omega) hG hS hf7 _ (lv_sub hl [0, 1, 2, 3, 4, 5, 6, 7, 8] rfl)
                refine lv_if_eq (tgt := 95) hx hb dX5_worthOf_89 (by decide) (fun c9 => ?_) (fun c9 => ?_)
                · have hc2172 : v2166.toInt = 0 := (fi_eq rfl (show (0 : Int32).toInt = 0 by decide)).mp c9
                  refine lv_aload hx hb dX5_worthOf_95 (lv_at hl 3 rfl) ?_
                  refine lv_aload hx hb dX5_worthOf_97 (lv_at hl 4 rfl) ?_
                  refine tk_Vv (As := [.ref (ld 30)]) (rest := []) (ci := 9) ⟨hx, hb, hml, hown, hts⟩ hK hG hZ hS (k_X9_copyFrom l D cy ld t 11 10 (ld 31) (ld 30) v8 ht_ld31 ht_ld30 (by omega) (by omega) (by omega)) hf7 ⟨callB_of 1 hts (wl_in mw_821) rfl rfl rfl (htl _ mw_76) (htl _ mw_1292) hd_yX9_copyFrom ⟨(Nat.le_of_ble_eq_true rfl), (Nat.le_of_ble_eq_true rfl)⟩, htl _ mw_819, htl _ mw_820⟩ ht_ld31 (by decide) tk_no rfl (tk_w.pick [3, 4] rfl) rfl hl.1 rfl (Nat.le_of_ble_eq_true rfl) dX5_worthOf_99 ⟨(Nat.le_of_ble_eq_true rfl), (Nat.le_of_ble_eq_true rfl)⟩ (fun H locs hpo hG hS hq9 => ?_)
                  have hf7 := hf7.call hq9 (tk_w.no ht_ld30 (by decide))
                  have hf1943 := hf1943.call hq9 (tk_w.no ht_ld20 (by decide))
                  have hf2210 := hpo
                  refine lv_iload hx hb dX5_worthOf_102 (lv_at hl 2 rfl) ?_
                  refine lv_iconst (v := (-1)) hx hb dX5_worthOf_104 (by decide) ?_
                  refine lv_icmp_ne (tgt := 112) hx hb dX5_worthOf_105 (by decide) (fun _ => ?_) (fun c9 => absurd (show v25.toInt = (-1) from (fi_eq rfl (show ((-1) : Int32).toInt = (-1) by decide)).mp c9) (by omega))
                  refine lv_iload_n hx hb dX5_worthOf_112 rfl (lv_at hl 7 rfl) ?_
                  refine lv_iload hx hb dX5_worthOf_113 (lv_at hl 1 rfl) ?_
                  refine va_mmax hx hb (by rw [hml]; exact hl.1.symm) hown (htl _ mw_1298) (htl _ mw_948) (htl _ mw_474) (htl _ mw_949) (Nat.le_of_ble_eq_true rfl) (Nat.le_of_ble_eq_true rfl) (Nat.le_of_ble_eq_true rfl) (Nat.le_of_ble_eq_true rfl) dX5_worthOf_115 ?_
                  refine tk_say (P := fun z => p2.toInt ≤ z.toInt ∧ v24.toInt ≤ z.toInt ∧ (z.toInt = p2.toInt ∨ z.toInt = v24.toInt)) (tk_max rfl rfl) (fun v2211 h_v2211 => ?_)
                  refine lv_istore (lv' := [(9, .int v2211), (8, .int v23), (7, .int v24), (6, .int v25), (5, .ref (ld 31)), (4, .ref (ld 30)), (0, .ref a0), (1, .int 0), (2, .int p2), (3, .int p3)]) hx hb dX5_worthOf_118 hl (by decide) rfl (fun ls hl => ?_)
                  refine lv_aload_n hx hb dX5_worthOf_120 rfl (lv_at hl 6 rfl) ?_
                  refine tk_get (ci := 5) (C := RX5) (T := TX5) (N := 11) (sp := (6, 9, 0, 0)) hx hb htl inX5 hown hK hG ht_a0 (by decide) tk_no rfl 1 (by decide) (htl _ mw_156) (fun _ h9 => h9) rfl dX5_worthOf_121 (fun v9 hf2212 hV9 => ?_)
                  obtain ⟨b2213, rfl, ht_b2213⟩ := hV9
                  have ht_b2213 : t b2213 = (9, 0, 0) := ht_b2213
                  refine lv_aload hx hb dX5_worthOf_124 (lv_at hl 4 rfl) ?_
                  refine lv_iload hx hb dX5_worthOf_126 (lv_at hl 1 rfl) ?_
                  refine tk_Vi (As := [.ref (ld 31), .int v23]) (rest := []) (ci := 8) ⟨hx, hb, hml, hown, hts⟩ hK hG hZ hS (k_X8_singOn l D cy ld t 11 b2213 (ld 31) v23 v8 ht_b2213 ht_ld31 (by omega) (by omega) (by omega) (by omega)) hf2210 ⟨callB_of 2 hts (wl_in mw_946) rfl rfl rfl (htl _ mw_21) (htl _ mw_1301) hd_yX8_singOn ⟨(Nat.le_of_ble_eq_true rfl), (Nat.le_of_ble_eq_true rfl)⟩, htl _ mw_944, htl _ mw_945⟩ ht_b2213 (by decide) tk_no rfl (tk_w.pick [0, 1, 2, 3, 4] rfl) rfl hl.1 rfl (Nat.le_of_ble_eq_true rfl) dX5_worthOf_128 ⟨(Nat.le_of_ble_eq_true rfl), (Nat.le_of_ble_eq_true rfl)⟩ (fun v2214 H locs hpo hG hS hq9 => ?_)
                  have hf7 := hf7.call hq9 (tk_w.no ht_ld30 (by decide))
                  have hf1943 := hf1943.call hq9 (tk_w.no ht_ld20 (by decide))
                  have hj2228 : ∀ (v2226 : Int32) (H : Heap) (locs : List Loc), (-1000000000) ≤ v2226.toInt → v2226.toInt ≤ 1000000000 → tk_G D cy ld t [] H → va_S (tk_w t [(20, 0, 0), (12, 0, 0), (9, 0, 0), (20, 11, 11), (10, 11, 11), (20, 12, 12), (10, 12, 12), (20, 13, 13), (10, 13, 13), (20, 14, 14), (10, 14, 14), (6, 0, 0)]) s.heap H locs → tk_f D H (ld 30) 9 5 (.int v8) → tk_f D H (ld 20) 2 4 (.int v1944) → ∀ ls : Array Slot, lv_has ls 11 [(8, .int v23), (7, .int v24), (6, .int v25), (5, .ref (ld 31)), (4, .ref (ld 30)), (0, .ref a0), (1, .int 0), (2, .int p2), (3, .int p3)] → W p l e ({ frames := 10, cells := 0, slots := 0, locals := 630 }) s m args below meth c H locs 0 0 (MQ below (ti D cy ld t [] (fun r H => (-1000000000) ≤ r.toInt ∧ r.toInt ≤ 1000000000) (tk_w t [(20, 0, 0), (12, 0, 0), (9, 0, 0), (20, 11, 11), (10, 11, 11), (20, 12, 12), (10, 12, 12), (20, 13, 13), (10, 13, 13), (20, 14, 14), (10, 14, 14), (6, 0, 0)])) args s 0 0 (tk_w t [(20, 0, 0), (12, 0, 0), (9, 0, 0), (20, 11, 11), (10, 11, 11), (20, 12, 12), (10, 12, 12), (20, 13, 13), (10, 13, 13), (20, 14, 14), (10, 14, 14), (6, 0, 0)])) (F0 m 154 ls [.int v2226]) := by
                    intro v2226 H locs hq0_j2228 hq1_j2228 hG hS hf7 hf1943 ls hl
                    refine lv_istore (lv' := [(10, .int v2226), (8, .int v23), (7, .int v24), (6, .int v25), (5, .ref (ld 31)), (4, .ref (ld 30)), (0, .ref a0), (1, .int 0), (2, .int p2), (3, .int p3)]) hx hb dX5_worthOf_154 hl (by decide) rfl (fun ls hl => ?_)
                    refine lv_iload hx hb dX5_worthOf_156 (lv_at hl 3 rfl) ?_
                    refine lv_iconst (v := (-1)) hx hb dX5_worthOf_158 (by decide) ?_
                    refine lv_icmp_eq (tgt := 169) hx hb dX5_worthOf_159 (by decide) (fun c9 => absurd (show v25.toInt = (-1) from (fi_eq rfl (show ((-1) : Int32).toInt = (-1) by decide)).mp c9) (by omega)) (fun _ => ?_)
                    refine lv_iload hx hb dX5_worthOf_162 (lv_at hl 0 rfl) ?_
                    refine lv_iload hx hb dX5_worthOf_164 (lv_at hl 2 rfl) ?_
                    refine lv_icmp_le (tgt := 177) hx hb dX5_worthOf_166 (by decide) (fun c9 => ?_) (fun c9 => ?_)
                    · have hc2229 : v2226.toInt ≤ v24.toInt := (fi_le rfl rfl).mp c9
                      exact hj2207 v24 v25 _ _ (by omega) (by omega) (by omega) (by omega) hG hS hf7 hf1943 _ (lv_sub hl [1, 2, 3, 4, 5, 6, 7, 8, 9] rfl)
                    · have hc2229 : ¬ (v2226.toInt ≤ v24.toInt) := fun h9 => c9 ((fi_le rfl rfl).mpr h9)
                      refine lv_iload hx hb dX5_worthOf_169 (lv_at hl 1 rfl) ?_
                      refine lv_istore (lv' := [(6, .int v23), (10, .int v2226), (8, .int v23), (7, .int v24), (5, .ref (ld 31)), (4, .ref (ld 30)), (0, .ref a0), (1, .int 0), (2, .int p2), (3, .int p3)]) hx hb dX5_worthOf_171 hl (by decide) rfl (fun ls hl => ?_)
                      refine lv_iload hx hb dX5_worthOf_173 (lv_at hl 1 rfl) ?_
                      refine lv_istore (lv' := [(7, .int v2226), (6, .int v23), (10, .int v2226), (8, .int v23), (5, .ref (ld 31)), (4, .ref (ld 30)), (0, .ref a0), (1, .int 0), (2, .int p2), (3, .int p3)]) hx hb dX5_worthOf_175 hl (by decide) rfl (fun ls hl => ?_)
                      exact hj2207 v2226 v23 _ _ (by omega) (by omega) (by omega) (by omega) hG hS hf7 hf1943 _ (lv_sub hl [3, 0, 1, 4, 5, 6, 7, 8, 9] rfl)
                  refine lv_if_ne (tgt := 141) hx hb dX5_worthOf_131 (by decide) (fun c9 => ?_) (fun c9 => ?_)
                  · have hc2216 : ¬ (v2214.toInt = 0) := fun h9 => c9 ((fi_eq rfl (show (0 : Int32).toInt = 0 by decide)).mpr h9)
                    refine lv_aload_n hx hb dX5_worthOf_141 rfl (lv_at hl 6 rfl) ?_
                    refine lv_iload_n hx hb dX5_worthOf_142 rfl (lv_at hl 7 rfl) ?_
                    refine lv_iconst (v := 1) hx hb dX5_worthOf_143 (by decide) ?_
                    refine lv_iadd hx hb dX5_worthOf_144 ?_
                    refine fx_ti (v := 1) (by decide) ?_
                    refine lv_iload_n hx hb dX5_worthOf_145 rfl (lv_at hl 9 rfl) ?_
                    refine lv_ineg hx hb dX5_worthOf_146 ?_
                    refine tk_neg rfl (by omega) (by omega) (fun v2230 h_v2230 => ?_)
                    refine lv_iload hx hb dX5_worthOf_147 (lv_at hl 0 rfl) ?_
                    refine lv_ineg hx hb dX5_worthOf_149 ?_
                    refine tk_neg rfl (by omega) (by omega) (fun v2231 h_v2231 => ?_)
                    have hk_1 : (1 : Int32).toInt = 1 := by decide
                    refine tk_Vi (As := [.int 1, .int v2230, .int v2231]) (rest := []) (ci := 5) ⟨hx, hb, hml, hown, hts⟩ hK hG hZ hS (k_X5_worthOf_1 l D cy ld t a0 v2230 v2231 ht_a0) trivial ⟨callB_of 3 hts (wl_in mw_1296) rfl rfl rfl (htl _ mw_40) (htl _ mw_1293) hd_yX5_worthOf ⟨(Nat.le_of_ble_eq_true rfl), (Nat.le_of_ble_eq_true rfl)⟩, htl _ mw_1294, htl _ mw_1295⟩ ht_a0 (by decide) tk_no rfl (tk_w.pick [0, 1, 2, 5, 6, 7, 8, 9, 10] rfl) rfl hl.1 rfl (Nat.le_of_ble_eq_true rfl) dX5_worthOf_150 ⟨(Nat.le_of_ble_eq_true rfl), (Nat.le_of_ble_eq_true rfl)⟩ (fun v2232 H locs hpo hG hS hq9 => ?_)
                    have hf7 := hf7.call hq9 (tk_w.no ht_ld30 (by decide))
                    have hf1943 := hf1943.call hq9 (tk_w.no ht_ld20 (by decide))
                    obtain ⟨hpo2234, hpo2235⟩ := hpo
                    refine lv_ineg hx hb dX5_worthOf_153 ?_
                    refine tk_neg rfl (by omega) (by omega) (fun v2236 h_v2236 => ?_)
                    exact hj2228 v2236 _ _ (by omega) (by omega) hG hS hf7 hf1943 _ (lv_sub hl [1, 2, 3, 4, 5, 6, 7, 8, 9] rfl)
                  · have hc2216 : v2214.toInt = 0 := (fi_eq rfl (show (0 : Int32).toInt = 0 by decide)).mp c9
                    refine lv_bipush (v := 100) hx hb dX5_worthOf_134 (by decide) ?_
                    refine lv_iload_n hx hb dX5_worthOf_136 rfl (lv_at hl 7 rfl) ?_
                    refine lv_isub hx hb dX5_worthOf_137 ?_
                    refine fx_ti (v := 100) (by decide) ?_
                    refine lv_goto (tgt := 154) hx hb dX5_worthOf_138 (by decide) ?_
                    have hk_100 : (100 : Int32).toInt = 100 := by decide
                    exact hj2228 100 _ _ (by omega) (by omega) hG hS hf7 hf1943 _ (lv_sub hl [1, 2, 3, 4, 5, 6, 7, 8, 9] rfl)
                · have hc2172 : ¬ (v2166.toInt = 0) := fun h9 => c9 ((fi_eq rfl (show (0 : Int32).toInt = 0 by decide)).mpr h9)
                  refine lv_goto (tgt := 177) hx hb dX5_worthOf_92 (by decide) ?_
                  exact hj2207 v24 v25 _ _ (by omega) (by omega) (by omega) (by omega) hG hS hf7 hf1943 _ (lv_sub hl [0, 1, 2, 3, 4, 5, 6, 7, 8] rfl)
      have hk_0 : (0 : Int32).toInt = 0 := by decide
      have hk_0 : (0 : Int32).toInt = 0 := by decide
      have hk_m1 : ((-1) : Int32).toInt = (-1) := by decide
      exact hl1941 11 0 0 (-1) _ _ (by omega) (by omega) (by omega) (by omega) (by omega) (by omega) hG hS hf7 _ (lv_sub hl [0, 1, 2, 3, 4, 5, 6, 7, 8] rfl)
    · have hc16 : v9.toInt = 0 := (fi_eq rfl (show (0 : Int32).toInt = 0 by decide)).mp c9
      refine lv_iconst (v := 0) hx hb dX5_worthOf_25 (by decide) ?_
      have hk_0 : (0 : Int32).toInt = 0 := by decide
      exact tk_iret (v := 0) hx hb hr rfl hlocks (show (-1000000000) ≤ (0 : Int32).toInt ∧ (0 : Int32).toInt ≤ 1000000000 from ⟨(by omega), (by omega)⟩) hG hS dX5_worthOf_26
theorem dX5_lookAhead_0 : decode cX5_lookAhead 0 = .ok (.aload_n 0, 1) := by decide +kernel
theorem dX5_lookAhead_1 : decode cX5_lookAhead 1 = .ok (.iload_n 1, 1) := by decide +kernel
theorem dX5_lookAhead_2 : decode cX5_lookAhead 2 = .ok (.putfield 42, 3) := by decide +kernel
theorem dX5_lookAhead_5 : decode cX5_lookAhead 5 = .ok (.aload_n 0, 1) := by decide +kernel
theorem dX5_lookAhead_6 : decode cX5_lookAhead 6 = .ok (.iconst (-1), 1) := by decide +kernel
theorem dX5_lookAhead_7 : decode cX5_lookAhead 7 = .ok (.putfield 46, 3) := by decide +kernel
theorem dX5_lookAhead_10 : decode cX5_lookAhead 10 = .ok (.aload_n 0, 1) := by decide +kernel
theorem dX5_lookAhead_11 : decode cX5_lookAhead 11 = .ok (.getfield 13, 3) := by decide +kernel
theorem dX5_lookAhead_14 : decode cX5_lookAhead 14 = .ok (.iconst 0, 1) := by decide +kernel
theorem dX5_lookAhead_15 : decode cX5_lookAhead 15 = .ok (.aaload, 1) := by decide +kernel
theorem dX5_lookAhead_16 : decode cX5_lookAhead 16 = .ok (.aload_n 0, 1) := by decide +kernel
theorem dX5_lookAhead_17 : decode cX5_lookAhead 17 = .ok (.getfield 34, 3) := by decide +kernel
theorem dX5_lookAhead_20 : decode cX5_lookAhead 20 = .ok (.getfield 49, 3) := by decide +kernel
theorem dX5_lookAhead_23 : decode cX5_lookAhead 23 = .ok (.invokevirtual 54, 3) := by decide +kernel
theorem dX5_lookAhead_26 : decode cX5_lookAhead 26 = .ok (.aload_n 0, 1) := by decide +kernel
theorem dX5_lookAhead_27 : decode cX5_lookAhead 27 = .ok (.iconst 0, 1) := by decide +kernel
theorem dX5_lookAhead_28 : decode cX5_lookAhead 28 = .ok (.sipush (-200), 3) := by decide +kernel
theorem dX5_lookAhead_31 : decode cX5_lookAhead 31 = .ok (.sipush 200, 3) := by decide +kernel
theorem dX5_lookAhead_34 : decode cX5_lookAhead 34 = .ok (.invokevirtual 58, 3) := by decide +kernel
theorem dX5_lookAhead_37 : decode cX5_lookAhead 37 = .ok (.istore_n 3, 1) := by decide +kernel
theorem dX5_lookAhead_38 : decode cX5_lookAhead 38 = .ok (.iload_n 2, 1) := by decide +kernel
theorem dX5_lookAhead_39 : decode cX5_lookAhead 39 = .ok (.ifCond .ne 19, 3) := by decide +kernel
theorem dX5_lookAhead_58 : decode cX5_lookAhead 58 = .ok (.iload_n 2, 1) := by decide +kernel
theorem dX5_lookAhead_59 : decode cX5_lookAhead 59 = .ok (.iconst 1, 1) := by decide +kernel
theorem dX5_lookAhead_60 : decode cX5_lookAhead 60 = .ok (.if_icmp .ne 39, 3) := by decide +kernel
theorem dX5_lookAhead_99 : decode cX5_lookAhead 99 = .ok (.aload_n 0, 1) := by decide +kernel
theorem dX5_lookAhead_100 : decode cX5_lookAhead 100 = .ok (.getfield 46, 3) := by decide +kernel
theorem dX5_lookAhead_103 : decode cX5_lookAhead 103 = .ok (.ireturn, 1) := by decide +kernel
theorem dX5_lookAhead_63 : decode cX5_lookAhead 63 = .ok (.iload_n 3, 1) := by decide +kernel
theorem dX5_lookAhead_64 : decode cX5_lookAhead 64 = .ok (.ifCond .ne 7, 3) := by decide +kernel
theorem dX5_lookAhead_71 : decode cX5_lookAhead 71 = .ok (.iload_n 3, 1) := by decide +kernel
theorem dX5_lookAhead_72 : decode cX5_lookAhead 72 = .ok (.ifCond .le 16, 3) := by decide +kernel
theorem dX5_lookAhead_88 : decode cX5_lookAhead 88 = .ok (.aload_n 0, 1) := by decide +kernel
theorem dX5_lookAhead_89 : decode cX5_lookAhead 89 = .ok (.getfield 34, 3) := by decide +kernel
theorem dX5_lookAhead_92 : decode cX5_lookAhead 92 = .ok (.getfield 49, 3) := by decide +kernel
theorem dX5_lookAhead_95 : decode cX5_lookAhead 95 = .ok (.invokevirtual 72, 3) := by decide +kernel
theorem dX5_lookAhead_98 : decode cX5_lookAhead 98 = .ok (.ireturn, 1) := by decide +kernel
theorem dX5_lookAhead_75 : decode cX5_lookAhead 75 = .ok (.aload_n 0, 1) := by decide +kernel
theorem dX5_lookAhead_76 : decode cX5_lookAhead 76 = .ok (.getfield 34, 3) := by decide +kernel
theorem dX5_lookAhead_79 : decode cX5_lookAhead 79 = .ok (.getfield 49, 3) := by decide +kernel
theorem dX5_lookAhead_82 : decode cX5_lookAhead 82 = .ok (.invokevirtual 68, 3) := by decide +kernel
theorem dX5_lookAhead_85 : decode cX5_lookAhead 85 = .ok (.goto 13, 3) := by decide +kernel
theorem dX5_lookAhead_67 : decode cX5_lookAhead 67 = .ok (.iconst (-1), 1) := by decide +kernel
theorem dX5_lookAhead_68 : decode cX5_lookAhead 68 = .ok (.goto 30, 3) := by decide +kernel
theorem dX5_lookAhead_42 : decode cX5_lookAhead 42 = .ok (.iload_n 3, 1) := by decide +kernel
theorem dX5_lookAhead_43 : decode cX5_lookAhead 43 = .ok (.ifCond .ne 7, 3) := by decide +kernel
theorem dX5_lookAhead_50 : decode cX5_lookAhead 50 = .ok (.bipush 101, 2) := by decide +kernel
theorem dX5_lookAhead_52 : decode cX5_lookAhead 52 = .ok (.iload_n 3, 1) := by decide +kernel
theorem dX5_lookAhead_53 : decode cX5_lookAhead 53 = .ok (.invokestatic 62, 3) := by decide +kernel
theorem dX5_lookAhead_56 : decode cX5_lookAhead 56 = .ok (.isub, 1) := by decide +kernel
theorem dX5_lookAhead_57 : decode cX5_lookAhead 57 = .ok (.ireturn, 1) := by decide +kernel
theorem dX5_lookAhead_46 : decode cX5_lookAhead 46 = .ok (.iconst 0, 1) := by decide +kernel
theorem dX5_lookAhead_47 : decode cX5_lookAhead 47 = .ok (.goto 10, 3) := by decide +kernel
set_option maxHeartbeats 4000000 in
set_option maxRecDepth 100000 in
theorem k_X5_lookAhead (l : Launch) (D : va_G) (cy : Nat → ClassId) (ld : Nat → Nat) (t : tk_T) (a0 : Nat) (p1 : Int32) (p2 : Int32) (ht_a0 : t a0 = (6, 0, 0)) : Met l yX5_lookAhead (wl yX5_lookAhead cX5_lookAhead 4 (some .int)) ({ frames := 11, cells := 0, slots := 0, locals := 700 }) (tp D cy ld t [] [.ref a0, .int p1, .int p2] (fun H => True)) (ti D cy ld t [] (fun r H => True) (tk_w t [(6, 0, 0), (20, 10, 10), (10, 10, 10), (20, 0, 0), (12, 0, 0), (9, 0, 0), (20, 11, 11), (10, 11, 11), (20, 12, 12), (10, 12, 12), (20, 13, 13), (10, 13, 13), (20, 14, 14), (10, 14, 14)])) 0 0 (tk_w t [(6, 0, 0), (20, 10, 10), (10, 10, 10), (20, 0, 0), (12, 0, 0), (9, 0, 0), (20, 11, 11), (10, 11, 11), (20, 12, 12), (10, 12, 12), (20, 13, 13), (10, 13, 13), (20, 14, 14), (10, 14, 14)]) := by
  refine tk_met (y := yX5_lookAhead) (cc := cX5_lookAhead) (maxL := 4) (ret := (some .int)) (av := [.ref a0, .int p1, .int p2]) _ _ (by decide) (Nat.le_of_ble_eq_true rfl) ?_
  intro p e s m args below meth c hx hb hr hml hts htl hown hlocks hK H locs hH hG hS hB hZ ls hl
  have hown : s.vm.findClass RX5 = some m.cls := hown
  have hl : lv_has ls 4 [(0, .ref a0), (1, .int p1), (2, .int p2)] := hl
  have hr_p1 := tk_rng p1
  have hr_p2 := tk_rng p2
  refine lv_aload_n hx hb dX5_lookAhead_0 rfl (lv_at hl 0 rfl) ?_
  refine lv_iload_n hx hb dX5_lookAhead_1 rfl (lv_at hl 1 rfl) ?_
  refine tk_put (ci := 5) (v := .int p1) (ty := .int) (C := RX5) (T := TX5) (N := 11) (sp := (0, (-2147483648), 2147483647, 0)) hx hb htl inX5 tyX5 tyX5_ok nmX5 hown hK hG hS ht_a0 (by decide) tk_no rfl 3 (by decide) (htl _ mw_1286) (fun _ h9 => h9) rfl (tyX5_ok 3 (by decide)) rfl rfl rfl (tk_V0 (tk_rng _).1 (tk_rng _).2) (fun _ h => h) (tk_w.of ht_a0 (by decide) (List.mem_of_getElem? (i := 0) rfl) (Nat.le_refl _) (Nat.le_refl _)) dX5_lookAhead_2 (fun H locs hG hS hf1 hq9 hj9 => ?_)
  refine lv_aload_n hx hb dX5_lookAhead_5 rfl (lv_at hl 0 rfl) ?_
  refine lv_iconst (v := (-1)) hx hb dX5_lookAhead_6 (by decide) ?_
  refine tk_put (ci := 5) (v := .int (-1)) (ty := .int) (C := RX5) (T := TX5) (N := 11) (sp := (0, (-2147483648), 2147483647, 0)) hx hb htl inX5 tyX5 tyX5_ok nmX5 hown hK hG hS ht_a0 (by decide) tk_no rfl 4 (by decide) (htl _ mw_1287) (fun _ h9 => h9) rfl (tyX5_ok 4 (by decide)) rfl rfl rfl (tk_V0 (tk_rng _).1 (tk_rng _).2) (fun _ h => h) (tk_w.of ht_a0 (by decide) (List.mem_of_getElem? (i := 0) rfl) (Nat.le_refl _) (Nat.le_refl _)) dX5_lookAhead_7 (fun H locs hG hS hf3 hq9 hj9 => ?_)
  refine lv_aload_n hx hb dX5_lookAhead_10 rfl (lv_at hl 0 rfl) ?_
  refine tk_get (ci := 5) (C := RX5) (T := TX5) (N := 11) (sp := (6, 26, 5, 0)) hx hb htl inX5 hown hK hG ht_a0 (by decide) tk_no rfl 2 (by decide) (htl _ mw_149) (fun _ h9 => h9) rfl dX5_lookAhead_11 (fun v9 hf5 hV9 => ?_)
  obtain ⟨b6, rfl, ht_b6⟩ := hV9
  have ht_b6 : t b6 = (26, 5, 0) := ht_b6
  refine lv_iconst (v := 0) hx hb dX5_lookAhead_14 (by decide) ?_
  refine tk_aald hx hb hK hG 3 rfl rfl ht_b6 (by decide) (fun _ h => h) tk_no (I := 0) (by decide) (by decide) (by decide) dX5_lookAhead_15 (fun o7 ht_o7 => ?_)
  obtain ⟨rfl, ht_ld30⟩ := ht_o7
  have ht_ld30 : t (ld 30) = (10, 0, 10) := ht_ld30
  refine fx_top (v := .ref (ld 30)) rfl ?_
  refine lv_aload_n hx hb dX5_lookAhead_16 rfl (lv_at hl 0 rfl) ?_
  refine tk_get (ci := 5) (C := RX5) (T := TX5) (N := 11) (sp := (8, 20, 3, 0)) hx hb htl inX5 hown hK hG ht_a0 (by decide) tk_no rfl 0 (by decide) (htl _ mw_155) (fun _ h9 => h9) rfl dX5_lookAhead_17 (fun v9 hf8 hV9 => ?_)
  obtain ⟨rfl, ht_ld20⟩ := hV9
  have ht_ld20 : t (ld 20) = (3, 0, 0) := ht_ld20
  refine fx_top (v := .ref (ld 20)) rfl ?_
  refine tk_get (ci := 2) (C := RX2) (T := TX2) (N := 20) (sp := (9, 40, 10, 0)) hx hb htl inX2 hown hK hG ht_ld20 (by decide) tk_no rfl 19 (by decide) (htl _ mw_1288) (fun _ h9 => h9) rfl dX5_lookAhead_20 (fun v9 hf9 hV9 => ?_)
  obtain ⟨rfl, ht_ld40⟩ := hV9
  have ht_ld40 : t (ld 40) = (10, 0, 0) := ht_ld40
  refine fx_top (v := .ref (ld 40)) rfl ?_
  obtain ⟨v9, hf10, hV9⟩ := tk_peek (ci := 9) (C := RX9) (T := TX9) (N := 11) (sp := (0, (-1), 7, 0)) hG ht_ld40 (by decide) tk_no rfl 5 (by decide) rfl
  obtain ⟨v11, rfl, (ha_v11 : (-1) ≤ v11.toInt), (hb_v11 : v11.toInt ≤ 7)⟩ := hV9
  refine tk_Vv (As := [.ref (ld 40)]) (rest := []) (ci := 9) ⟨hx, hb, hml, hown, hts⟩ hK hG hZ hS (k_X9_copyFrom l D cy ld t 10 0 (ld 30) (ld 40) v11 ht_ld30 ht_ld40 (by omega) (by omega) (by omega)) hf10 ⟨callB_of 1 hts (wl_in mw_821) rfl rfl rfl (htl _ mw_76) (htl _ mw_1292) hd_yX9_copyFrom ⟨(Nat.le_of_ble_eq_true rfl), (Nat.le_of_ble_eq_true rfl)⟩, htl _ mw_819, htl _ mw_820⟩ ht_ld30 (by decide) tk_no rfl (tk_w.pick [1, 2] rfl) rfl hl.1 rfl (Nat.le_of_ble_eq_true rfl) dX5_lookAhead_23 ⟨(Nat.le_of_ble_eq_true rfl), (Nat.le_of_ble_eq_true rfl)⟩ (fun H locs hpo hG hS hq9 => ?_)
  have hf10 := hf10.call hq9 (tk_w.no ht_ld40 (by decide))
  have hf13 := hpo
  refine lv_aload_n hx hb dX5_lookAhead_26 rfl (lv_at hl 0 rfl) ?_
  refine lv_iconst (v := 0) hx hb dX5_lookAhead_27 (by decide) ?_
  refine lv_sipush (v := (-200)) hx hb dX5_lookAhead_28 (by decide) ?_
  refine lv_sipush (v := 200) hx hb dX5_lookAhead_31 (by decide) ?_
  have hk_0 : (0 : Int32).toInt = 0 := by decide
  have hk_m200 : ((-200) : Int32).toInt = (-200) := by decide
  have hk_200 : (200 : Int32).toInt = 200 := by decide
  refine tk_Vi (As := [.int 0, .int (-200), .int 200]) (rest := []) (ci := 5) ⟨hx, hb, hml, hown, hts⟩ hK hG hZ hS (k_X5_worthOf_0 l D cy ld t a0 (-200) 200 ht_a0) trivial ⟨callB_of 3 hts (wl_in mw_1296) rfl rfl rfl (htl _ mw_40) (htl _ mw_1293) hd_yX5_worthOf ⟨(Nat.le_of_ble_eq_true rfl), (Nat.le_of_ble_eq_true rfl)⟩, htl _ mw_1294, htl _ mw_1295⟩ ht_a0 (by decide) tk_no rfl (tk_w.pick [3, 4, 5, 6, 7, 8, 9, 10, 11, 12, 13, 0] rfl) rfl hl.1 rfl (Nat.le_of_ble_eq_true rfl) dX5_lookAhead_34 ⟨(Nat.le_of_ble_eq_true rfl), (Nat.le_of_ble_eq_true rfl)⟩ (fun v14 H locs hpo hG hS hq9 => ?_)
  have hf10 := hf10.call hq9 (tk_w.no ht_ld40 (by decide))
  have hf13 := hf13.call hq9 (tk_w.no ht_ld30 (by decide))
  obtain ⟨hpo16, hpo17⟩ := hpo
  refine lv_istore_n (lv' := [(3, .int v14), (0, .ref a0), (1, .int p1), (2, .int p2)]) hx hb dX5_lookAhead_37 rfl hl (by decide) rfl (fun ls hl => ?_)
  refine lv_iload_n hx hb dX5_lookAhead_38 rfl (lv_at hl 3 rfl) ?_
  refine lv_if_ne (tgt := 58) hx hb dX5_lookAhead_39 (by decide) (fun c9 => ?_) (fun c9 => ?_)
  · have hc18 : ¬ (p2.toInt = 0) := fun h9 => c9 ((fi_eq rfl (show (0 : Int32).toInt = 0 by decide)).mpr h9)
    refine lv_iload_n hx hb dX5_lookAhead_58 rfl (lv_at hl 3 rfl) ?_
    refine lv_iconst (v := 1) hx hb dX5_lookAhead_59 (by decide) ?_
    refine lv_icmp_ne (tgt := 99) hx hb dX5_lookAhead_60 (by decide) (fun c9 => ?_) (fun c9 => ?_)
    · have hc19 : ¬ (p2.toInt = 1) := fun h9 => c9 ((fi_eq rfl (show (1 : Int32).toInt = 1 by decide)).mpr h9)
      refine lv_aload_n hx hb dX5_lookAhead_99 rfl (lv_at hl 1 rfl) ?_
      refine tk_get (ci := 5) (C := RX5) (T := TX5) (N := 11) (sp := (0, (-2147483648), 2147483647, 0)) hx hb htl inX5 hown hK hG ht_a0 (by decide) tk_no rfl 4 (by decide) (htl _ mw_1287) (fun _ h9 => h9) rfl dX5_lookAhead_100 (fun v9 hf20 hV9 => ?_)
      obtain ⟨v21, rfl, (ha_v21 : (-2147483648) ≤ v21.toInt), (hb_v21 : v21.toInt ≤ 2147483647)⟩ := hV9
      exact tk_iret (v := v21) hx hb hr rfl hlocks trivial hG hS dX5_lookAhead_103
    · have hc19 : p2.toInt = 1 := (fi_eq rfl (show (1 : Int32).toInt = 1 by decide)).mp c9
      refine lv_iload_n hx hb dX5_lookAhead_63 rfl (lv_at hl 0 rfl) ?_
      refine lv_if_ne (tgt := 71) hx hb dX5_lookAhead_64 (by decide) (fun c9 => ?_) (fun c9 => ?_)
      · have hc22 : ¬ (v14.toInt = 0) := fun h9 => c9 ((fi_eq rfl (show (0 : Int32).toInt = 0 by decide)).mpr h9)
        refine lv_iload_n hx hb dX5_lookAhead_71 rfl (lv_at hl 0 rfl) ?_
        refine lv_if_le (tgt := 88) hx hb dX5_lookAhead_72 (by decide) (fun c9 => ?_) (fun c9 => ?_)
        · have hc23 : v14.toInt ≤ 0 := (fi_le rfl (show (0 : Int32).toInt = 0 by decide)).mp c9
          refine lv_aload_n hx hb dX5_lookAhead_88 rfl (lv_at hl 1 rfl) ?_
          refine tk_get (ci := 5) (C := RX5) (T := TX5) (N := 11) (sp := (8, 20, 3, 0)) hx hb htl inX5 hown hK hG ht_a0 (by decide) tk_no rfl 0 (by decide) (htl _ mw_155) (fun _ h9 => h9) rfl dX5_lookAhead_89 (fun v9 hf24 hV9 => ?_)
          obtain ⟨rfl, ht_ld20⟩ := hV9
          have ht_ld20 : t (ld 20) = (3, 0, 0) := ht_ld20
          refine fx_top (v := .ref (ld 20)) rfl ?_
          refine tk_get (ci := 2) (C := RX2) (T := TX2) (N := 20) (sp := (9, 40, 10, 0)) hx hb htl inX2 hown hK hG ht_ld20 (by decide) tk_no rfl 19 (by decide) (htl _ mw_1288) (fun _ h9 => h9) rfl dX5_lookAhead_92 (fun v9 hf25 hV9 => ?_)
          obtain ⟨rfl, ht_ld40⟩ := hV9
          have ht_ld40 : t (ld 40) = (10, 0, 0) := ht_ld40
          refine fx_top (v := .ref (ld 40)) rfl ?_
          refine tk_Vi (As := []) (rest := []) (ci := 9) ⟨hx, hb, hml, hown, hts⟩ hK hG hZ hS (k_X9_whoSings l D cy ld t 0 (ld 40) v11 ht_ld40 (by omega) (by omega)) hf10 ⟨callB_of 0 hts (wl_in mw_844) rfl rfl rfl (htl _ mw_76) (htl _ mw_1303) hd_yX9_whoSings ⟨(Nat.le_of_ble_eq_true rfl), (Nat.le_of_ble_eq_true rfl)⟩, htl _ mw_842, htl _ mw_843⟩ ht_ld40 (by decide) tk_no rfl (tk_w.pick [] rfl) rfl hl.1 rfl (Nat.le_of_ble_eq_true rfl) dX5_lookAhead_95 ⟨(Nat.le_of_ble_eq_true rfl), (Nat.le_of_ble_eq_true rfl)⟩ (fun v26 H locs hpo hG hS hq9 => ?_)
          have hf10 := hf10.call hq9 tk_w.nil
          have hf13 := hf13.call hq9 tk_w.nil
          obtain ⟨hpo28, hpo29, hpo30⟩ := hpo
          exact tk_iret (v := v26) hx hb hr rfl hlocks trivial hG hS dX5_lookAhead_98
        · have hc23 : ¬ (v14.toInt ≤ 0) := fun h9 => c9 ((fi_le rfl (show (0 : Int32).toInt = 0 by decide)).mpr h9)
          refine lv_aload_n hx hb dX5_lookAhead_75 rfl (lv_at hl 1 rfl) ?_
          refine tk_get (ci := 5) (C := RX5) (T := TX5) (N := 11) (sp := (8, 20, 3, 0)) hx hb htl inX5 hown hK hG ht_a0 (by decide) tk_no rfl 0 (by decide) (htl _ mw_155) (fun _ h9 => h9) rfl dX5_lookAhead_76 (fun v9 hf31 hV9 => ?_)
          obtain ⟨rfl, ht_ld20⟩ := hV9
          have ht_ld20 : t (ld 20) = (3, 0, 0) := ht_ld20
          refine fx_top (v := .ref (ld 20)) rfl ?_
          refine tk_get (ci := 2) (C := RX2) (T := TX2) (N := 20) (sp := (9, 40, 10, 0)) hx hb htl inX2 hown hK hG ht_ld20 (by decide) tk_no rfl 19 (by decide) (htl _ mw_1288) (fun _ h9 => h9) rfl dX5_lookAhead_79 (fun v9 hf32 hV9 => ?_)
          obtain ⟨rfl, ht_ld40⟩ := hV9
          have ht_ld40 : t (ld 40) = (10, 0, 0) := ht_ld40
          refine fx_top (v := .ref (ld 40)) rfl ?_
          refine tk_Vi (As := []) (rest := []) (ci := 9) ⟨hx, hb, hml, hown, hts⟩ hK hG hZ hS (k_X9_whoHears l D cy ld t 0 (ld 40) v11 ht_ld40 (by omega) (by omega)) hf10 ⟨callB_of 0 hts (wl_in mw_924) rfl rfl rfl (htl _ mw_76) (htl _ mw_1302) hd_yX9_whoHears ⟨(Nat.le_of_ble_eq_true rfl), (Nat.le_of_ble_eq_true rfl)⟩, htl _ mw_922, htl _ mw_923⟩ ht_ld40 (by decide) tk_no rfl (tk_w.pick [] rfl) rfl hl.1 rfl (Nat.le_of_ble_eq_true rfl) dX5_lookAhead_82 ⟨(Nat.le_of_ble_eq_true rfl), (Nat.le_of_ble_eq_true rfl)⟩ (fun v33 H locs hpo hG hS hq9 => ?_)
          have hf10 := hf10.call hq9 tk_w.nil
          have hf13 := hf13.call hq9 tk_w.nil
          obtain ⟨hpo35, hpo36, hpo37⟩ := hpo
          refine lv_goto (tgt := 98) hx hb dX5_lookAhead_85 (by decide) ?_
          exact tk_iret (v := v33) hx hb hr rfl hlocks trivial hG hS dX5_lookAhead_98
      · have hc22 : v14.toInt = 0 := (fi_eq rfl (show (0 : Int32).toInt = 0 by decide)).mp c9
        refine lv_iconst (v := (-1)) hx hb dX5_lookAhead_67 (by decide) ?_
        refine lv_goto (tgt := 98) hx hb dX5_lookAhead_68 (by decide) ?_
        have hk_m1 : ((-1) : Int32).toInt = (-1) := by decide
        exact tk_iret (v := (-1)) hx hb hr rfl hlocks trivial hG hS dX5_lookAhead_98
  · have hc18 : p2.toInt = 0 := (fi_eq rfl (show (0 : Int32).toInt = 0 by decide)).mp c9
    refine lv_iload_n hx hb dX5_lookAhead_42 rfl (lv_at hl 0 rfl) ?_
    refine lv_if_ne (tgt := 50) hx hb dX5_lookAhead_43 (by decide) (fun c9 => ?_) (fun c9 => ?_)
    · have hc38 : ¬ (v14.toInt = 0) := fun h9 => c9 ((fi_eq rfl (show (0 : Int32).toInt = 0 by decide)).mpr h9)
      refine lv_bipush (v := 101) hx hb dX5_lookAhead_50 (by decide) ?_
      refine lv_iload_n hx hb dX5_lookAhead_52 rfl (lv_at hl 0 rfl) ?_
      refine va_mabs hx hb (by rw [hml]; exact hl.1.symm) hown (htl _ mw_1289) (htl _ mw_1290) (htl _ mw_474) (htl _ mw_1291) (Nat.le_of_ble_eq_true rfl) (Nat.le_of_ble_eq_true rfl) (Nat.le_of_ble_eq_true rfl) (Nat.le_of_ble_eq_true rfl) dX5_lookAhead_53 ?_
      refine tk_any (fun v39 => ?_)
      refine lv_isub hx hb dX5_lookAhead_56 ?_
      obtain ⟨v40, hm_v40⟩ : ∃ z : Int32, 101 - v39 = z := ⟨_, rfl⟩
      refine fx_ti hm_v40 ?_
      exact tk_iret (v := v40) hx hb hr rfl hlocks trivial hG hS dX5_lookAhead_57
    · have hc38 : v14.toInt = 0 := (fi_eq rfl (show (0 : Int32).toInt = 0 by decide)).mp c9
      refine lv_iconst (v := 0) hx hb dX5_lookAhead_46 (by decide) ?_
      refine lv_goto (tgt := 57) hx hb dX5_lookAhead_47 (by decide) ?_
      have hk_0 : (0 : Int32).toInt = 0 := by decide
      exact tk_iret (v := 0) hx hb hr rfl hlocks trivial hG hS dX5_lookAhead_57
theorem dX5_openBout_0 : decode cX5_openBout 0 = .ok (.aload_n 0, 1) := by decide +kernel
theorem dX5_openBout_1 : decode cX5_openBout 1 = .ok (.getfield 18, 3) := by decide +kernel
theorem dX5_openBout_4 : decode cX5_openBout 4 = .ok (.aload_n 0, 1) := by decide +kernel
theorem dX5_openBout_5 : decode cX5_openBout 5 = .ok (.getfield 34, 3) := by decide +kernel
theorem dX5_openBout_8 : decode cX5_openBout 8 = .ok (.getfield 49, 3) := by decide +kernel
theorem dX5_openBout_11 : decode cX5_openBout 11 = .ok (.invokevirtual 54, 3) := by decide +kernel
theorem dX5_openBout_14 : decode cX5_openBout 14 = .ok (.aload_n 0, 1) := by decide +kernel
theorem dX5_openBout_15 : decode cX5_openBout 15 = .ok (.getfield 18, 3) := by decide +kernel
theorem dX5_openBout_18 : decode cX5_openBout 18 = .ok (.iload_n 1, 1) := by decide +kernel
theorem dX5_openBout_19 : decode cX5_openBout 19 = .ok (.iload_n 2, 1) := by decide +kernel
theorem dX5_openBout_20 : decode cX5_openBout 20 = .ok (.iconst 1, 1) := by decide +kernel
theorem dX5_openBout_21 : decode cX5_openBout 21 = .ok (.invokevirtual 103, 3) := by decide +kernel
theorem dX5_openBout_24 : decode cX5_openBout 24 = .ok (.aload_n 0, 1) := by decide +kernel
theorem dX5_openBout_25 : decode cX5_openBout 25 = .ok (.getfield 18, 3) := by decide +kernel
theorem dX5_openBout_28 : decode cX5_openBout 28 = .ok (.getfield 107, 3) := by decide +kernel
theorem dX5_openBout_31 : decode cX5_openBout 31 = .ok (.iload_n 1, 1) := by decide +kernel
theorem dX5_openBout_32 : decode cX5_openBout 32 = .ok (.iaload, 1) := by decide +kernel
theorem dX5_openBout_33 : decode cX5_openBout 33 = .ok (.ifCond .le 19, 3) := by decide +kernel
theorem dX5_openBout_52 : decode cX5_openBout 52 = .ok (.iconst 0, 1) := by decide +kernel
theorem dX5_openBout_53 : decode cX5_openBout 53 = .ok (.ireturn, 1) := by decide +kernel
theorem dX5_openBout_36 : decode cX5_openBout 36 = .ok (.aload_n 0, 1) := by decide +kernel
theorem dX5_openBout_37 : decode cX5_openBout 37 = .ok (.getfield 18, 3) := by decide +kernel
theorem dX5_openBout_40 : decode cX5_openBout 40 = .ok (.getfield 107, 3) := by decide +kernel
theorem dX5_openBout_43 : decode cX5_openBout 43 = .ok (.iload_n 2, 1) := by decide +kernel
theorem dX5_openBout_44 : decode cX5_openBout 44 = .ok (.iaload, 1) := by decide +kernel
theorem dX5_openBout_45 : decode cX5_openBout 45 = .ok (.ifCond .le 7, 3) := by decide +kernel
theorem dX5_openBout_48 : decode cX5_openBout 48 = .ok (.iconst 1, 1) := by decide +kernel
theorem dX5_openBout_49 : decode cX5_openBout 49 = .ok (.goto 4, 3) := by decide +kernel
set_option maxHeartbeats 4000000 in
set_option maxRecDepth 100000 in
theorem k_X5_openBout (l : Launch) (D : va_G) (cy : Nat → ClassId) (ld : Nat → Nat) (t : tk_T) (a0 : Nat) (p1 : Int32) (p2 : Int32) (ht_a0 : t a0 = (6, 0, 0)) (hp_0 : 0 ≤ p1.toInt) (hp_1 : p1.toInt ≤ 7) (hp_2 : 0 ≤ p2.toInt) (hp_3 : p2.toInt ≤ 7) : Met l yX5_openBout (wl yX5_openBout cX5_openBout 3 (some .boolean)) ({ frames := 5, cells := 0, slots := 0, locals := 280 }) (tp D cy ld t [] [.ref a0, .int p1, .int p2] (fun H => True)) (ti D cy ld t [] (fun r H => 0 ≤ r.toInt ∧ r.toInt ≤ 1 ∧ 0 ≤ r.toInt ∧ r.toInt ≤ 1) (tk_w t [(20, 4, 4), (10, 4, 4)])) 0 0 (tk_w t [(20, 4, 4), (10, 4, 4)]) := by
  refine tk_met (y := yX5_openBout) (cc := cX5_openBout) (maxL := 3) (ret := (some .boolean)) (av := [.ref a0, .int p1, .int p2]) _ _ (by decide) (Nat.le_of_ble_eq_true rfl) ?_
  intro p e s m args below meth c hx hb hr hml hts htl hown hlocks hK H locs hH hG hS hB hZ ls hl
  have hown : s.vm.findClass RX5 = some m.cls := hown
  have hl : lv_has ls 3 [(0, .ref a0), (1, .int p1), (2, .int p2)] := hl
  have hr_p1 := tk_rng p1
  have hr_p2 := tk_rng p2
  refine lv_aload_n hx hb dX5_openBout_0 rfl (lv_at hl 0 rfl) ?_
  refine tk_get (ci := 5) (C := RX5) (T := TX5) (N := 11) (sp := (8, 21, 10, 4)) hx hb htl inX5 hown hK hG ht_a0 (by decide) tk_no rfl 5 (by decide) (htl _ mw_150) (fun _ h9 => h9) rfl dX5_openBout_1 (fun v9 hf1 hV9 => ?_)
  obtain ⟨rfl, ht_ld21⟩ := hV9
  have ht_ld21 : t (ld 21) = (10, 0, 4) := ht_ld21
  refine fx_top (v := .ref (ld 21)) rfl ?_
  refine lv_aload_n hx hb dX5_openBout_4 rfl (lv_at hl 0 rfl) ?_
  refine tk_get (ci := 5) (C := RX5) (T := TX5) (N := 11) (sp := (8, 20, 3, 0)) hx hb htl inX5 hown hK hG ht_a0 (by decide) tk_no rfl 0 (by decide) (htl _ mw_155) (fun _ h9 => h9) rfl dX5_openBout_5 (fun v9 hf2 hV9 => ?_)
  obtain ⟨rfl, ht_ld20⟩ := hV9
  have ht_ld20 : t (ld 20) = (3, 0, 0) := ht_ld20
  refine fx_top (v := .ref (ld 20)) rfl ?_
  refine tk_get (ci := 2) (C := RX2) (T := TX2) (N := 20) (sp := (9, 40, 10, 0)) hx hb htl inX2 hown hK hG ht_ld20 (by decide) tk_no rfl 19 (by decide) (htl _ mw_1288) (fun _ h9 => h9) rfl dX5_openBout_8 (fun v9 hf3 hV9 => ?_)
  obtain ⟨rfl, ht_ld40⟩ := hV9
  have ht_ld40 : t (ld 40) = (10, 0, 0) := ht_ld40
  refine fx_top (v := .ref (ld 40)) rfl ?_
  obtain ⟨v9, hf4, hV9⟩ := tk_peek (ci := 9) (C := RX9) (T := TX9) (N := 11) (sp := (0, (-1), 7, 0)) hG ht_ld40 (by decide) tk_no rfl 5 (by decide) rfl
  obtain ⟨v5, rfl, (ha_v5 : (-1) ≤ v5.toInt), (hb_v5 : v5.toInt ≤ 7)⟩ := hV9
  refine tk_Vv (As := [.ref (ld 40)]) (rest := []) (ci := 9) ⟨hx, hb, hml, hown, hts⟩ hK hG hZ hS (k_X9_copyFrom l D cy ld t 4 0 (ld 21) (ld 40) v5 ht_ld21 ht_ld40 (by omega) (by omega) (by omega)) hf4 ⟨callB_of 1 hts (wl_in mw_821) rfl rfl rfl (htl _ mw_76) (htl _ mw_1292) hd_yX9_copyFrom ⟨(Nat.le_of_ble_eq_true rfl), (Nat.le_of_ble_eq_true rfl)⟩, htl _ mw_819, htl _ mw_820⟩ ht_ld21 (by decide) tk_no rfl (tk_w.pick [0, 1] rfl) rfl hl.1 rfl (Nat.le_of_ble_eq_true rfl) dX5_openBout_11 ⟨(Nat.le_of_ble_eq_true rfl), (Nat.le_of_ble_eq_true rfl)⟩ (fun H locs hpo hG hS hq9 => ?_)
  have hf4 := hf4.call hq9 (tk_w.no ht_ld40 (by decide))
  have hf7 := hpo
  refine lv_aload_n hx hb dX5_openBout_14 rfl (lv_at hl 0 rfl) ?_
  refine tk_get (ci := 5) (C := RX5) (T := TX5) (N := 11) (sp := (8, 21, 10, 4)) hx hb htl inX5 hown hK hG ht_a0 (by decide) tk_no rfl 5 (by decide) (htl _ mw_150) (fun _ h9 => h9) rfl dX5_openBout_15 (fun v9 hf8 hV9 => ?_)
  obtain ⟨rfl, ht_ld21⟩ := hV9
  have ht_ld21 : t (ld 21) = (10, 0, 4) := ht_ld21
  refine fx_top (v := .ref (ld 21)) rfl ?_
  refine lv_iload_n hx hb dX5_openBout_18 rfl (lv_at hl 1 rfl) ?_
  refine lv_iload_n hx hb dX5_openBout_19 rfl (lv_at hl 2 rfl) ?_
  refine lv_iconst (v := 1) hx hb dX5_openBout_20 (by decide) ?_
  have hk_1 : (1 : Int32).toInt = 1 := by decide
  refine tk_Vv (As := [.int p1, .int p2, .int 1]) (rest := []) (ci := 9) ⟨hx, hb, hml, hown, hts⟩ hK hG hZ hS (k_X9_openDuel l D cy ld t 4 (ld 21) p1 p2 1 ht_ld21 (by omega) (by omega) (by omega) (by omega)) trivial ⟨callB_of 3 hts (wl_in mw_892) rfl rfl rfl (htl _ mw_76) (htl _ mw_1348) hd_yX9_openDuel ⟨(Nat.le_of_ble_eq_true rfl), (Nat.le_of_ble_eq_true rfl)⟩, htl _ mw_890, htl _ mw_891⟩ ht_ld21 (by decide) tk_no rfl (tk_w.pick [1] rfl) rfl hl.1 rfl (Nat.le_of_ble_eq_true rfl) dX5_openBout_21 ⟨(Nat.le_of_ble_eq_true rfl), (Nat.le_of_ble_eq_true rfl)⟩ (fun H locs hpo hG hS hq9 => ?_)
  have hf4 := hf4.call hq9 (tk_w.no ht_ld40 (by decide))
  have hf10 := hpo
  refine lv_aload_n hx hb dX5_openBout_24 rfl (lv_at hl 0 rfl) ?_
  refine tk_get (ci := 5) (C := RX5) (T := TX5) (N := 11) (sp := (8, 21, 10, 4)) hx hb htl inX5 hown hK hG ht_a0 (by decide) tk_no rfl 5 (by decide) (htl _ mw_150) (fun _ h9 => h9) rfl dX5_openBout_25 (fun v9 hf11 hV9 => ?_)
  obtain ⟨rfl, ht_ld21⟩ := hV9
  have ht_ld21 : t (ld 21) = (10, 0, 4) := ht_ld21
  refine fx_top (v := .ref (ld 21)) rfl ?_
  refine tk_get (ci := 9) (C := RX9) (T := TX9) (N := 11) (sp := (1, 20, 8, 0)) hx hb htl inX9 hown hK hG ht_ld21 (by decide) tk_no rfl 0 (by decide) (htl _ mw_1347) (fun _ h9 => h9) rfl dX5_openBout_28 (fun v9 hf12 hV9 => ?_)
  obtain ⟨b13, rfl, ht_b13⟩ := hV9
  have ht_b13 : t b13 = (20, 8, 4) := ht_b13
  refine lv_iload_n hx hb dX5_openBout_31 rfl (lv_at hl 1 rfl) ?_
  refine tk_iald hx hb hK hG ht_b13 (by decide) (fun _ h => h) tk_no rfl (by omega) (by omega) dX5_openBout_32 (fun v14 _ _ => ?_)
  have hr_v14 := tk_rng v14
  refine lv_if_le (tgt := 52) hx hb dX5_openBout_33 (by decide) (fun c9 => ?_) (fun c9 => ?_)
  · have hc15 : v14.toInt ≤ 0 := (fi_le rfl (show (0 : Int32).toInt = 0 by decide)).mp c9
    refine lv_iconst (v := 0) hx hb dX5_openBout_52 (by decide) ?_
    have hk_0 : (0 : Int32).toInt = 0 := by decide
    exact tk_iret (v := 0) hx hb hr rfl hlocks (show 0 ≤ (0 : Int32).toInt ∧ (0 : Int32).toInt ≤ 1 ∧ 0 ≤ (0 : Int32).toInt ∧ (0 : Int32).toInt ≤ 1 from ⟨(by omega), (by omega), (by omega), (by omega)⟩) hG hS dX5_openBout_53
  · have hc15 : ¬ (v14.toInt ≤ 0) := fun h9 => c9 ((fi_le rfl (show (0 : Int32).toInt = 0 by decide)).mpr h9)
    refine lv_aload_n hx hb dX5_openBout_36 rfl (lv_at hl 0 rfl) ?_
    refine tk_get (ci := 5) (C := RX5) (T := TX5) (N := 11) (sp := (8, 21, 10, 4)) hx hb htl inX5 hown hK hG ht_a0 (by decide) tk_no rfl 5 (by decide) (htl _ mw_150) (fun _ h9 => h9) rfl dX5_openBout_37 (fun v9 hf16 hV9 => ?_)
    obtain ⟨rfl, ht_ld21⟩ := hV9
    have ht_ld21 : t (ld 21) = (10, 0, 4) := ht_ld21
    refine fx_top (v := .ref (ld 21)) rfl ?_
    refine tk_get (ci := 9) (C := RX9) (T := TX9) (N := 11) (sp := (1, 20, 8, 0)) hx hb htl inX9 hown hK hG ht_ld21 (by decide) tk_no rfl 0 (by decide) (htl _ mw_1347) (fun _ h9 => h9) rfl dX5_openBout_40 (fun v9 hf17 hV9 => ?_)
    obtain ⟨b18, rfl, ht_b18⟩ := hV9
    have ht_b18 : t b18 = (20, 8, 4) := ht_b18
    refine lv_iload_n hx hb dX5_openBout_43 rfl (lv_at hl 2 rfl) ?_
    refine tk_iald hx hb hK hG ht_b18 (by decide) (fun _ h => h) tk_no rfl (by omega) (by omega) dX5_openBout_44 (fun v19 _ _ => ?_)
    have hr_v19 := tk_rng v19
    refine lv_if_le (tgt := 52) hx hb dX5_openBout_45 (by decide) (fun c9 => ?_) (fun c9 => ?_)
    · have hc20 : v19.toInt ≤ 0 := (fi_le rfl (show (0 : Int32).toInt = 0 by decide)).mp c9
      refine lv_iconst (v := 0) hx hb dX5_openBout_52 (by decide) ?_
      have hk_0 : (0 : Int32).toInt = 0 := by decide
      exact tk_iret (v := 0) hx hb hr rfl hlocks (show 0 ≤ (0 : Int32).toInt ∧ (0 : Int32).toInt ≤ 1 ∧ 0 ≤ (0 : Int32).toInt ∧ (0 : Int32).toInt ≤ 1 from ⟨(by omega), (by omega), (by omega), (by omega)⟩) hG hS dX5_openBout_53
    · have hc20 : ¬ (v19.toInt ≤ 0) := fun h9 => c9 ((fi_le rfl (show (0 : Int32).toInt = 0 by decide)).mpr h9)
      refine lv_iconst (v := 1) hx hb dX5_openBout_48 (by decide) ?_
      refine lv_goto (tgt := 53) hx hb dX5_openBout_49 (by decide) ?_
      have hk_1 : (1 : Int32).toInt = 1 := by decide
      exact tk_iret (v := 1) hx hb hr rfl hlocks (show 0 ≤ (1 : Int32).toInt ∧ (1 : Int32).toInt ≤ 1 ∧ 0 ≤ (1 : Int32).toInt ∧ (1 : Int32).toInt ≤ 1 from ⟨(by omega), (by omega), (by omega), (by omega)⟩) hG hS dX5_openBout_53
theorem dX5_resultAtOnce_0 : decode cX5_resultAtOnce 0 = .ok (.aload_n 0, 1) := by decide +kernel
theorem dX5_resultAtOnce_1 : decode cX5_resultAtOnce 1 = .ok (.getfield 18, 3) := by decide +kernel
theorem dX5_resultAtOnce_4 : decode cX5_resultAtOnce 4 = .ok (.getfield 107, 3) := by decide +kernel
theorem dX5_resultAtOnce_7 : decode cX5_resultAtOnce 7 = .ok (.iload_n 1, 1) := by decide +kernel
theorem dX5_resultAtOnce_8 : decode cX5_resultAtOnce 8 = .ok (.iaload, 1) := by decide +kernel
theorem dX5_resultAtOnce_17 : decode cX5_resultAtOnce 17 = .ok (.aload_n 0, 1) := by decide +kernel
theorem dX5_resultAtOnce_18 : decode cX5_resultAtOnce 18 = .ok (.getfield 18, 3) := by decide +kernel
theorem dX5_resultAtOnce_21 : decode cX5_resultAtOnce 21 = .ok (.getfield 107, 3) := by decide +kernel
theorem dX5_resultAtOnce_24 : decode cX5_resultAtOnce 24 = .ok (.iload_n 2, 1) := by decide +kernel
theorem dX5_resultAtOnce_25 : decode cX5_resultAtOnce 25 = .ok (.iaload, 1) := by decide +kernel
theorem dX5_resultAtOnce_34 : decode cX5_resultAtOnce 34 = .ok (.isub, 1) := by decide +kernel
theorem dX5_resultAtOnce_35 : decode cX5_resultAtOnce 35 = .ok (.ireturn, 1) := by decide +kernel
theorem dX5_resultAtOnce_26 : decode cX5_resultAtOnce 26 = .ok (.ifCond .le 7, 3) := by decide +kernel
theorem dX5_resultAtOnce_33 : decode cX5_resultAtOnce 33 = .ok (.iconst 0, 1) := by decide +kernel
theorem dX5_resultAtOnce_29 : decode cX5_resultAtOnce 29 = .ok (.iconst 1, 1) := by decide +kernel
theorem dX5_resultAtOnce_30 : decode cX5_resultAtOnce 30 = .ok (.goto 4, 3) := by decide +kernel
theorem dX5_resultAtOnce_9 : decode cX5_resultAtOnce 9 = .ok (.ifCond .le 7, 3) := by decide +kernel
theorem dX5_resultAtOnce_16 : decode cX5_resultAtOnce 16 = .ok (.iconst 0, 1) := by decide +kernel
theorem dX5_resultAtOnce_12 : decode cX5_resultAtOnce 12 = .ok (.iconst 1, 1) := by decide +kernel
theorem dX5_resultAtOnce_13 : decode cX5_resultAtOnce 13 = .ok (.goto 4, 3) := by decide +kernel
set_option maxHeartbeats 4000000 in
set_option maxRecDepth 100000 in
theorem k_X5_resultAtOnce (l : Launch) (D : va_G) (cy : Nat → ClassId) (ld : Nat → Nat) (t : tk_T) (a0 : Nat) (p1 : Int32) (p2 : Int32) (ht_a0 : t a0 = (6, 0, 0)) (hp_0 : 0 ≤ p1.toInt) (hp_1 : p1.toInt ≤ 7) (hp_2 : 0 ≤ p2.toInt) (hp_3 : p2.toInt ≤ 7) : Met l yX5_resultAtOnce (wl yX5_resultAtOnce cX5_resultAtOnce 3 (some .int)) ({ frames := 3, cells := 0, slots := 0, locals := 140 }) (tp D cy ld t [] [.ref a0, .int p1, .int p2] (fun H => True)) (ti D cy ld t [] (fun r H => (-1) ≤ r.toInt ∧ r.toInt ≤ 1) (tk_w t [])) 0 0 (tk_w t []) := by
  refine tk_met (y := yX5_resultAtOnce) (cc := cX5_resultAtOnce) (maxL := 3) (ret := (some .int)) (av := [.ref a0, .int p1, .int p2]) _ _ (by decide) (Nat.le_of_ble_eq_true rfl) ?_
  intro p e s m args below meth c hx hb hr hml hts htl hown hlocks hK H locs hH hG hS hB hZ ls hl
  have hown : s.vm.findClass RX5 = some m.cls := hown
  have hl : lv_has ls 3 [(0, .ref a0), (1, .int p1), (2, .int p2)] := hl
  have hr_p1 := tk_rng p1
  have hr_p2 := tk_rng p2
  refine lv_aload_n hx hb dX5_resultAtOnce_0 rfl (lv_at hl 0 rfl) ?_
  refine tk_get (ci := 5) (C := RX5) (T := TX5) (N := 11) (sp := (8, 21, 10, 4)) hx hb htl inX5 hown hK hG ht_a0 (by decide) tk_no rfl 5 (by decide) (htl _ mw_150) (fun _ h9 => h9) rfl dX5_resultAtOnce_1 (fun v9 hf1 hV9 => ?_)
  obtain ⟨rfl, ht_ld21⟩ := hV9
  have ht_ld21 : t (ld 21) = (10, 0, 4) := ht_ld21
  refine fx_top (v := .ref (ld 21)) rfl ?_
  refine tk_get (ci := 9) (C := RX9) (T := TX9) (N := 11) (sp := (1, 20, 8, 0)) hx hb htl inX9 hown hK hG ht_ld21 (by decide) tk_no rfl 0 (by decide) (htl _ mw_1347) (fun _ h9 => h9) rfl dX5_resultAtOnce_4 (fun v9 hf2 hV9 => ?_)
  obtain ⟨b3, rfl, ht_b3⟩ := hV9
  have ht_b3 : t b3 = (20, 8, 4) := ht_b3
  refine lv_iload_n hx hb dX5_resultAtOnce_7 rfl (lv_at hl 1 rfl) ?_
  refine tk_iald hx hb hK hG ht_b3 (by decide) (fun _ h => h) tk_no rfl (by omega) (by omega) dX5_resultAtOnce_8 (fun v4 _ _ => ?_)
  have hr_v4 := tk_rng v4
  have hj8 : ∀ (v7 : Int32), 0 ≤ v7.toInt → v7.toInt ≤ 1 → ∀ ls : Array Slot, lv_has ls 3 [(0, .ref a0), (2, .int p2)] → W p l e ({ frames := 3, cells := 0, slots := 0, locals := 140 }) s m args below meth c H locs 0 0 (MQ below (ti D cy ld t [] (fun r H => (-1) ≤ r.toInt ∧ r.toInt ≤ 1) (tk_w t [])) args s 0 0 (tk_w t [])) (F0 m 17 ls [.int v7]) := by
    intro v7 hq0_j8 hq1_j8 ls hl
    refine lv_aload_n hx hb dX5_resultAtOnce_17 rfl (lv_at hl 0 rfl) ?_
    refine tk_get (ci := 5) (C := RX5) (T := TX5) (N := 11) (sp := (8, 21, 10, 4)) hx hb htl inX5 hown hK hG ht_a0 (by decide) tk_no rfl 5 (by decide) (htl _ mw_150) (fun _ h9 => h9) rfl dX5_resultAtOnce_18 (fun v9 hf9 hV9 => ?_)
    obtain ⟨rfl, ht_ld21⟩ := hV9
    have ht_ld21 : t (ld 21) = (10, 0, 4) := ht_ld21
    refine fx_top (v := .ref (ld 21)) rfl ?_
    refine tk_get (ci := 9) (C := RX9) (T := TX9) (N := 11) (sp := (1, 20, 8, 0)) hx hb htl inX9 hown hK hG ht_ld21 (by decide) tk_no rfl 0 (by decide) (htl _ mw_1347) (fun _ h9 => h9) rfl dX5_resultAtOnce_21 (fun v9 hf10 hV9 => ?_)
    obtain ⟨b11, rfl, ht_b11⟩ := hV9
    have ht_b11 : t b11 = (20, 8, 4) := ht_b11
    refine lv_iload_n hx hb dX5_resultAtOnce_24 rfl (lv_at hl 1 rfl) ?_
    refine tk_iald hx hb hK hG ht_b11 (by decide) (fun _ h => h) tk_no rfl (by omega) (by omega) dX5_resultAtOnce_25 (fun v12 _ _ => ?_)
    have hr_v12 := tk_rng v12
    have hj16 : ∀ (v15 : Int32), 0 ≤ v15.toInt → v15.toInt ≤ 1 → ∀ ls : Array Slot, lv_has ls 3 [] → W p l e ({ frames := 3, cells := 0, slots := 0, locals := 140 }) s m args below meth c H locs 0 0 (MQ below (ti D cy ld t [] (fun r H => (-1) ≤ r.toInt ∧ r.toInt ≤ 1) (tk_w t [])) args s 0 0 (tk_w t [])) (F0 m 34 ls [.int v15, .int v7]) := by
      intro v15 hq0_j16 hq1_j16 ls hl
      refine lv_isub hx hb dX5_resultAtOnce_34 ?_
      refine tk_sub rfl rfl (by omega) (by omega) (fun v17 h_v17 => ?_)
      exact tk_iret (v := v17) hx hb hr rfl hlocks (show (-1) ≤ v17.toInt ∧ v17.toInt ≤ 1 from ⟨(by omega), (by omega)⟩) hG hS dX5_resultAtOnce_35
    refine lv_if_le (tgt := 33) hx hb dX5_resultAtOnce_26 (by decide) (fun c9 => ?_) (fun c9 => ?_)
    · have hc13 : v12.toInt ≤ 0 := (fi_le rfl (show (0 : Int32).toInt = 0 by decide)).mp c9
      refine lv_iconst (v := 0) hx hb dX5_resultAtOnce_33 (by decide) ?_
      have hk_0 : (0 : Int32).toInt = 0 := by decide
      exact hj16 0 (by omega) (by omega) _ (lv_sub hl [] rfl)
    · have hc13 : ¬ (v12.toInt ≤ 0) := fun h9 => c9 ((fi_le rfl (show (0 : Int32).toInt = 0 by decide)).mpr h9)
      refine lv_iconst (v := 1) hx hb dX5_resultAtOnce_29 (by decide) ?_
      refine lv_goto (tgt := 34) hx hb dX5_resultAtOnce_30 (by decide) ?_
      have hk_1 : (1 : Int32).toInt = 1 := by decide
      exact hj16 1 (by omega) (by omega) _ (lv_sub hl [] rfl)
  refine lv_if_le (tgt := 16) hx hb dX5_resultAtOnce_9 (by decide) (fun c9 => ?_) (fun c9 => ?_)
  · have hc5 : v4.toInt ≤ 0 := (fi_le rfl (show (0 : Int32).toInt = 0 by decide)).mp c9
    refine lv_iconst (v := 0) hx hb dX5_resultAtOnce_16 (by decide) ?_
    have hk_0 : (0 : Int32).toInt = 0 := by decide
    exact hj8 0 (by omega) (by omega) _ (lv_sub hl [0, 2] rfl)
  · have hc5 : ¬ (v4.toInt ≤ 0) := fun h9 => c9 ((fi_le rfl (show (0 : Int32).toInt = 0 by decide)).mpr h9)
    refine lv_iconst (v := 1) hx hb dX5_resultAtOnce_12 (by decide) ?_
    refine lv_goto (tgt := 17) hx hb dX5_resultAtOnce_13 (by decide) ?_
    have hk_1 : (1 : Int32).toInt = 1 := by decide
    exact hj8 1 (by omega) (by omega) _ (lv_sub hl [0, 2] rfl)
theorem dX5_resultByVerses_0 : decode cX5_resultByVerses 0 = .ok (.aload_n 0, 1) := by decide +kernel
theorem dX5_resultByVerses_1 : decode cX5_resultByVerses 1 = .ok (.iload_n 1, 1) := by decide +kernel
theorem dX5_resultByVerses_2 : decode cX5_resultByVerses 2 = .ok (.iload_n 2, 1) := by decide +kernel
theorem dX5_resultByVerses_3 : decode cX5_resultByVerses 3 = .ok (.invokevirtual 110, 3) := by decide +kernel
theorem dX5_resultByVerses_6 : decode cX5_resultByVerses 6 = .ok (.ifCond .ne 10, 3) := by decide +kernel
theorem dX5_resultByVerses_16 : decode cX5_resultByVerses 16 = .ok (.iconst 0, 1) := by decide +kernel
theorem dX5_resultByVerses_17 : decode cX5_resultByVerses 17 = .ok (.istore 5, 2) := by decide +kernel
theorem dX5_resultByVerses_19 : decode cX5_resultByVerses 19 = .ok (.iload 5, 2) := by decide +kernel
theorem dX5_resultByVerses_21 : decode cX5_resultByVerses 21 = .ok (.bipush 24, 2) := by decide +kernel
theorem dX5_resultByVerses_23 : decode cX5_resultByVerses 23 = .ok (.if_icmp .ge 86, 3) := by decide +kernel
theorem dX5_resultByVerses_109 : decode cX5_resultByVerses 109 = .ok (.iconst 0, 1) := by decide +kernel
theorem dX5_resultByVerses_110 : decode cX5_resultByVerses 110 = .ok (.ireturn, 1) := by decide +kernel
theorem dX5_resultByVerses_26 : decode cX5_resultByVerses 26 = .ok (.aload_n 0, 1) := by decide +kernel
theorem dX5_resultByVerses_27 : decode cX5_resultByVerses 27 = .ok (.getfield 18, 3) := by decide +kernel
theorem dX5_resultByVerses_30 : decode cX5_resultByVerses 30 = .ok (.invokevirtual 75, 3) := by decide +kernel
theorem dX5_resultByVerses_33 : decode cX5_resultByVerses 33 = .ok (.ifCond .eq 76, 3) := by decide +kernel
theorem dX5_resultByVerses_36 : decode cX5_resultByVerses 36 = .ok (.aload_n 0, 1) := by decide +kernel
theorem dX5_resultByVerses_37 : decode cX5_resultByVerses 37 = .ok (.getfield 18, 3) := by decide +kernel
theorem dX5_resultByVerses_40 : decode cX5_resultByVerses 40 = .ok (.getfield 117, 3) := by decide +kernel
theorem dX5_resultByVerses_43 : decode cX5_resultByVerses 43 = .ok (.istore 6, 2) := by decide +kernel
theorem dX5_resultByVerses_45 : decode cX5_resultByVerses 45 = .ok (.iload 6, 2) := by decide +kernel
theorem dX5_resultByVerses_56 : decode cX5_resultByVerses 56 = .ok (.istore 7, 2) := by decide +kernel
theorem dX5_resultByVerses_58 : decode cX5_resultByVerses 58 = .ok (.aload_n 0, 1) := by decide +kernel
theorem dX5_resultByVerses_59 : decode cX5_resultByVerses 59 = .ok (.getfield 38, 3) := by decide +kernel
theorem dX5_resultByVerses_62 : decode cX5_resultByVerses 62 = .ok (.aload_n 0, 1) := by decide +kernel
theorem dX5_resultByVerses_63 : decode cX5_resultByVerses 63 = .ok (.getfield 18, 3) := by decide +kernel
theorem dX5_resultByVerses_66 : decode cX5_resultByVerses 66 = .ok (.iload 7, 2) := by decide +kernel
theorem dX5_resultByVerses_68 : decode cX5_resultByVerses 68 = .ok (.invokevirtual 82, 3) := by decide +kernel
theorem dX5_resultByVerses_71 : decode cX5_resultByVerses 71 = .ok (.ifCond .eq 5, 3) := by decide +kernel
theorem dX5_resultByVerses_76 : decode cX5_resultByVerses 76 = .ok (.aload_n 0, 1) := by decide +kernel
theorem dX5_resultByVerses_77 : decode cX5_resultByVerses 77 = .ok (.getfield 38, 3) := by decide +kernel
theorem dX5_resultByVerses_80 : decode cX5_resultByVerses 80 = .ok (.aload_n 0, 1) := by decide +kernel
theorem dX5_resultByVerses_81 : decode cX5_resultByVerses 81 = .ok (.getfield 18, 3) := by decide +kernel
theorem dX5_resultByVerses_84 : decode cX5_resultByVerses 84 = .ok (.iload 7, 2) := by decide +kernel
theorem dX5_resultByVerses_86 : decode cX5_resultByVerses 86 = .ok (.invokevirtual 92, 3) := by decide +kernel
theorem dX5_resultByVerses_89 : decode cX5_resultByVerses 89 = .ok (.ifCond .ne 14, 3) := by decide +kernel
theorem dX5_resultByVerses_103 : decode cX5_resultByVerses 103 = .ok (.iinc 5 1, 3) := by decide +kernel
theorem dX5_resultByVerses_106 : decode cX5_resultByVerses 106 = .ok (.goto (-87), 3) := by decide +kernel
theorem dX5_resultByVerses_92 : decode cX5_resultByVerses 92 = .ok (.iload 6, 2) := by decide +kernel
theorem dX5_resultByVerses_94 : decode cX5_resultByVerses 94 = .ok (.ifCond .eq 7, 3) := by decide +kernel
theorem dX5_resultByVerses_101 : decode cX5_resultByVerses 101 = .ok (.iconst 1, 1) := by decide +kernel
theorem dX5_resultByVerses_102 : decode cX5_resultByVerses 102 = .ok (.ireturn, 1) := by decide +kernel
theorem dX5_resultByVerses_97 : decode cX5_resultByVerses 97 = .ok (.iconst (-1), 1) := by decide +kernel
theorem dX5_resultByVerses_98 : decode cX5_resultByVerses 98 = .ok (.goto 4, 3) := by decide +kernel
theorem dX5_resultByVerses_74 : decode cX5_resultByVerses 74 = .ok (.iconst 0, 1) := by decide +kernel
theorem dX5_resultByVerses_75 : decode cX5_resultByVerses 75 = .ok (.ireturn, 1) := by decide +kernel
theorem dX5_resultByVerses_47 : decode cX5_resultByVerses 47 = .ok (.ifCond .eq 8, 3) := by decide +kernel
theorem dX5_resultByVerses_55 : decode cX5_resultByVerses 55 = .ok (.iload_n 3, 1) := by decide +kernel
theorem dX5_resultByVerses_50 : decode cX5_resultByVerses 50 = .ok (.iload 4, 2) := by decide +kernel
theorem dX5_resultByVerses_52 : decode cX5_resultByVerses 52 = .ok (.goto 4, 3) := by decide +kernel
theorem dX5_resultByVerses_9 : decode cX5_resultByVerses 9 = .ok (.aload_n 0, 1) := by decide +kernel
theorem dX5_resultByVerses_10 : decode cX5_resultByVerses 10 = .ok (.iload_n 1, 1) := by decide +kernel
theorem dX5_resultByVerses_11 : decode cX5_resultByVerses 11 = .ok (.iload_n 2, 1) := by decide +kernel
theorem dX5_resultByVerses_12 : decode cX5_resultByVerses 12 = .ok (.invokevirtual 114, 3) := by decide +kernel
theorem dX5_resultByVerses_15 : decode cX5_resultByVerses 15 = .ok (.ireturn, 1) := by decide +kernel
set_option maxHeartbeats 4000000 in
set_option maxRecDepth 100000 in
theorem k_X5_resultByVerses (l : Launch) (D : va_G) (cy : Nat → ClassId) (ld : Nat → Nat) (t : tk_T) (a0 : Nat) (p1 : Int32) (p2 : Int32) (p3 : Int32) (p4 : Int32) (ht_a0 : t a0 = (6, 0, 0)) (hp_0 : 0 ≤ p1.toInt) (hp_1 : p1.toInt ≤ 7) (hp_2 : 0 ≤ p2.toInt) (hp_3 : p2.toInt ≤ 7) (hp_4 : 0 ≤ p3.toInt) (hp_5 : p3.toInt ≤ 9) (hp_6 : 0 ≤ p4.toInt) (hp_7 : p4.toInt ≤ 9) : Met l yX5_resultByVerses (wl yX5_resultByVerses cX5_resultByVerses 8 (some .int)) ({ frames := 7, cells := 0, slots := 0, locals := 420 }) (tp D cy ld t [] [.ref a0, .int p1, .int p2, .int p3, .int p4] (fun H => True)) (ti D cy ld t [] (fun r H => (-1) ≤ r.toInt ∧ r.toInt ≤ 1) (tk_w t [(20, 4, 4), (10, 4, 4), (20, 0, 0), (12, 0, 0), (9, 0, 0)])) 0 0 (tk_w t [(20, 4, 4), (10, 4, 4), (20, 0, 0), (12, 0, 0), (9, 0, 0)]) := by
  refine tk_met (y := yX5_resultByVerses) (cc := cX5_resultByVerses) (maxL := 8) (ret := (some .int)) (av := [.ref a0, .int p1, .int p2, .int p3, .int p4]) _ _ (by decide) (Nat.le_of_ble_eq_true rfl) ?_
  intro p e s m args below meth c hx hb hr hml hts htl hown hlocks hK H locs hH hG hS hB hZ ls hl
  have hown : s.vm.findClass RX5 = some m.cls := hown
  have hl : lv_has ls 8 [(0, .ref a0), (1, .int p1), (2, .int p2), (3, .int p3), (4, .int p4)] := hl
  have hr_p1 := tk_rng p1
  have hr_p2 := tk_rng p2
  have hr_p3 := tk_rng p3
  have hr_p4 := tk_rng p4
  refine lv_aload_n hx hb dX5_resultByVerses_0 rfl (lv_at hl 0 rfl) ?_
  refine lv_iload_n hx hb dX5_resultByVerses_1 rfl (lv_at hl 1 rfl) ?_
  refine lv_iload_n hx hb dX5_resultByVerses_2 rfl (lv_at hl 2 rfl) ?_
  refine tk_Vi (As := [.int p1, .int p2]) (rest := []) (ci := 5) ⟨hx, hb, hml, hown, hts⟩ hK hG hZ hS (k_X5_openBout l D cy ld t a0 p1 p2 ht_a0 (by omega) (by omega) (by omega) (by omega)) trivial ⟨callB_of 2 hts (wl_in mw_1346) rfl rfl rfl (htl _ mw_40) (htl _ mw_1343) hd_yX5_openBout ⟨(Nat.le_of_ble_eq_true rfl), (Nat.le_of_ble_eq_true rfl)⟩, htl _ mw_1344, htl _ mw_1345⟩ ht_a0 (by decide) tk_no rfl (tk_w.pick [0, 1] rfl) rfl hl.1 rfl (Nat.le_of_ble_eq_true rfl) dX5_resultByVerses_3 ⟨(Nat.le_of_ble_eq_true rfl), (Nat.le_of_ble_eq_true rfl)⟩ (fun v1 H locs hpo hG hS hq9 => ?_)
  obtain ⟨hpo3, hpo4, hpo5, hpo6⟩ := hpo
  refine lv_if_ne (tgt := 16) hx hb dX5_resultByVerses_6 (by decide) (fun c9 => ?_) (fun c9 => ?_)
  · have hc7 : ¬ (v1.toInt = 0) := fun h9 => c9 ((fi_eq rfl (show (0 : Int32).toInt = 0 by decide)).mpr h9)
    refine lv_iconst (v := 0) hx hb dX5_resultByVerses_16 (by decide) ?_
    refine lv_istore (lv' := [(5, .int 0), (0, .ref a0), (1, .int p1), (2, .int p2), (3, .int p3), (4, .int p4)]) hx hb dX5_resultByVerses_17 hl (by decide) rfl (fun ls hl => ?_)
    have hl268 : ∀ (N_l268 : Nat) (v8 : Int32) (H : Heap) (locs : List Loc), v8.toInt ≤ 24 → 0 ≤ v8.toInt → (-1) * v8.toInt + 24 < (N_l268 : Int) → tk_G D cy ld t [] H → va_S (tk_w t [(20, 4, 4), (10, 4, 4), (20, 0, 0), (12, 0, 0), (9, 0, 0)]) s.heap H locs → ∀ ls : Array Slot, lv_has ls 8 [(5, .int v8), (0, .ref a0), (3, .int p3), (4, .int p4)] → W p l e ({ frames := 7, cells := 0, slots := 0, locals := 420 }) s m args below meth c H locs 0 0 (MQ below (ti D cy ld t [] (fun r H => (-1) ≤ r.toInt ∧ r.toInt ≤ 1) (tk_w t [(20, 4, 4), (10, 4, 4), (20, 0, 0), (12, 0, 0), (9, 0, 0)])) args s 0 0 (tk_w t [(20, 4, 4), (10, 4, 4), (20, 0, 0), (12, 0, 0), (9, 0, 0)])) (F0 m 19 ls []) := by
      intro N_l268
      induction N_l268 with
      | zero => intro v8 H locs hq0_l268 hq1_l268 hm_l268 hG hS ls hl; exfalso; omega
      | succ N_l268 ih_l268 =>
        intro v8 H locs hq0_l268 hq1_l268 hm_l268 hG hS ls hl
        refine lv_iload hx hb dX5_resultByVerses_19 (lv_at hl 0 rfl) ?_
        refine lv_bipush (v := 24) hx hb dX5_resultByVerses_21 (by decide) ?_
        refine lv_icmp_ge (tgt := 109) hx hb dX5_resultByVerses_23 (by decide) (fun c9 => ?_) (fun c9 => ?_)
        · have hc269 : 24 ≤ v8.toInt := (fi_le (show (24 : Int32).toInt = 24 by decide) rfl).mp c9
          refine lv_iconst (v := 0) hx hb dX5_resultByVerses_109 (by decide) ?_
          have hk_0 : (0 : Int32).toInt = 0 := by decide
          exact tk_iret (v := 0) hx hb hr rfl hlocks (show (-1) ≤ (0 : Int32).toInt ∧ (0 : Int32).toInt ≤ 1 from ⟨(by omega), (by omega)⟩) hG hS dX5_resultByVerses_110
        · have hc269 : ¬ (24 ≤ v8.toInt) := fun h9 => c9 ((fi_le (show (24 : Int32).toInt = 24 by decide) rfl).mpr h9)
          refine lv_aload_n hx hb dX5_resultByVerses_26 rfl (lv_at hl 1 rfl) ?_
          refine tk_get (ci := 5) (C := RX5) (T := TX5) (N := 11) (sp := (8, 21, 10, 4)) hx hb htl inX5 hown hK hG ht_a0 (by decide) tk_no rfl 5 (by decide) (htl _ mw_150) (fun _ h9 => h9) rfl dX5_resultByVerses_27 (fun v9 hf270 hV9 => ?_)
          obtain ⟨rfl, ht_ld21⟩ := hV9
          have ht_ld21 : t (ld 21) = (10, 0, 4) := ht_ld21
          refine fx_top (v := .ref (ld 21)) rfl ?_
          obtain ⟨v9, hf271, hV9⟩ := tk_peek (ci := 9) (C := RX9) (T := TX9) (N := 11) (sp := (0, (-1), 7, 0)) hG ht_ld21 (by decide) tk_no rfl 5 (by decide) rfl
          obtain ⟨v272, rfl, (ha_v272 : (-1) ≤ v272.toInt), (hb_v272 : v272.toInt ≤ 7)⟩ := hV9
          refine tk_Vi (As := []) (rest := []) (ci := 9) ⟨hx, hb, hml, hown, hts⟩ hK hG hZ hS (k_X9_isDuel l D cy ld t 4 (ld 21) v272 ht_ld21 (by omega) (by omega)) hf271 ⟨callB_of 0 hts (wl_in mw_840) rfl rfl rfl (htl _ mw_76) (htl _ mw_1299) hd_yX9_isDuel ⟨(Nat.le_of_ble_eq_true rfl), (Nat.le_of_ble_eq_true rfl)⟩, htl _ mw_838, htl _ mw_839⟩ ht_ld21 (by decide) tk_no rfl (tk_w.pick [] rfl) rfl hl.1 rfl (Nat.le_of_ble_eq_true rfl) dX5_resultByVerses_30 ⟨(Nat.le_of_ble_eq_true rfl), (Nat.le_of_ble_eq_true rfl)⟩ (fun v273 H locs hpo hG hS hq9 => ?_)
          have hf271 := hf271.call hq9 tk_w.nil
          obtain ⟨hpo275, hpo276, hpo277, hpo278, hpo279⟩ := hpo
          refine lv_if_eq (tgt := 109) hx hb dX5_resultByVerses_33 (by decide) (fun c9 => ?_) (fun c9 => ?_)
          · have hc280 : v273.toInt = 0 := (fi_eq rfl (show (0 : Int32).toInt = 0 by decide)).mp c9
            refine lv_iconst (v := 0) hx hb dX5_resultByVerses_109 (by decide) ?_
            have hk_0 : (0 : Int32).toInt = 0 := by decide
            exact tk_iret (v := 0) hx hb hr rfl hlocks (show (-1) ≤ (0 : Int32).toInt ∧ (0 : Int32).toInt ≤ 1 from ⟨(by omega), (by omega)⟩) hG hS dX5_resultByVerses_110
          · have hc280 : ¬ (v273.toInt = 0) := fun h9 => c9 ((fi_eq rfl (show (0 : Int32).toInt = 0 by decide)).mpr h9)
            refine lv_aload_n hx hb dX5_resultByVerses_36 rfl (lv_at hl 1 rfl) ?_
            refine tk_get (ci := 5) (C := RX5) (T := TX5) (N := 11) (sp := (8, 21, 10, 4)) hx hb htl inX5 hown hK hG ht_a0 (by decide) tk_no rfl 5 (by decide) (htl _ mw_150) (fun _ h9 => h9) rfl dX5_resultByVerses_37 (fun v9 hf281 hV9 => ?_)
            obtain ⟨rfl, ht_ld21⟩ := hV9
            have ht_ld21 : t (ld 21) = (10, 0, 4) := ht_ld21
            refine fx_top (v := .ref (ld 21)) rfl ?_
            refine tk_get (ci := 9) (C := RX9) (T := TX9) (N := 11) (sp := (0, 0, 1, 0)) hx hb htl inX9 hown hK hG ht_ld21 (by decide) tk_no rfl 9 (by decide) (htl _ mw_1342) (fun _ h9 => h9) rfl dX5_resultByVerses_40 (fun v9 hf282 hV9 => ?_)
            obtain ⟨v283, rfl, (ha_v283 : 0 ≤ v283.toInt), (hb_v283 : v283.toInt ≤ 1)⟩ := hV9
            refine lv_istore (lv' := [(6, .int v283), (5, .int v8), (0, .ref a0), (3, .int p3), (4, .int p4)]) hx hb dX5_resultByVerses_43 hl (by decide) rfl (fun ls hl => ?_)
            refine lv_iload hx hb dX5_resultByVerses_45 (lv_at hl 0 rfl) ?_
            have hj287 : ∀ (v286 : Int32), 0 ≤ v286.toInt → v286.toInt ≤ 9 → ∀ ls : Array Slot, lv_has ls 8 [(6, .int v283), (5, .int v8), (0, .ref a0), (3, .int p3), (4, .int p4)] → W p l e ({ frames := 7, cells := 0, slots := 0, locals := 420 }) s m args below meth c H locs 0 0 (MQ below (ti D cy ld t [] (fun r H => (-1) ≤ r.toInt ∧ r.toInt ≤ 1) (tk_w t [(20, 4, 4), (10, 4, 4), (20, 0, 0), (12, 0, 0), (9, 0, 0)])) args s 0 0 (tk_w t [(20, 4, 4), (10, 4, 4), (20, 0, 0), (12, 0, 0), (9, 0, 0)])) (F0 m 56 ls [.int v286]) := by
              intro v286 hq0_j287 hq1_j287 ls hl
              refine lv_istore (lv' := [(7, .int v286), (6, .int v283), (5, .int v8), (0, .ref a0), (3, .int p3), (4, .int p4)]) hx hb dX5_resultByVerses_56 hl (by decide) rfl (fun ls hl => ?_)
              refine lv_aload_n hx hb dX5_resultByVerses_58 rfl (lv_at hl 3 rfl) ?_
              refine tk_get (ci := 5) (C := RX5) (T := TX5) (N := 11) (sp := (6, 9, 0, 0)) hx hb htl inX5 hown hK hG ht_a0 (by decide) tk_no rfl 1 (by decide) (htl _ mw_156) (fun _ h9 => h9) rfl dX5_resultByVerses_59 (fun v9 hf288 hV9 => ?_)
              obtain ⟨b289, rfl, ht_b289⟩ := hV9
              have ht_b289 : t b289 = (9, 0, 0) := ht_b289
              refine lv_aload_n hx hb dX5_resultByVerses_62 rfl (lv_at hl 3 rfl) ?_
              refine tk_get (ci := 5) (C := RX5) (T := TX5) (N := 11) (sp := (8, 21, 10, 4)) hx hb htl inX5 hown hK hG ht_a0 (by decide) tk_no rfl 5 (by decide) (htl _ mw_150) (fun _ h9 => h9) rfl dX5_resultByVerses_63 (fun v9 hf290 hV9 => ?_)
              obtain ⟨rfl, ht_ld21⟩ := hV9
              have ht_ld21 : t (ld 21) = (10, 0, 4) := ht_ld21
              refine fx_top (v := .ref (ld 21)) rfl ?_
              refine lv_iload hx hb dX5_resultByVerses_66 (lv_at hl 0 rfl) ?_
              refine tk_Vi (As := [.ref (ld 21), .int v286]) (rest := []) (ci := 8) ⟨hx, hb, hml, hown, hts⟩ hK hG hZ hS (k_X8_isBarred l D cy ld t 4 b289 (ld 21) v286 v272 ht_b289 ht_ld21 (by omega) (by omega) (by omega) (by omega)) hf271 ⟨callB_of 2 hts (wl_in mw_901) rfl rfl rfl (htl _ mw_21) (htl _ mw_1300) hd_yX8_isBarred ⟨(Nat.le_of_ble_eq_true rfl), (Nat.le_of_ble_eq_true rfl)⟩, htl _ mw_899, htl _ mw_900⟩ ht_b289 (by decide) tk_no rfl (tk_w.pick [2, 3, 4] rfl) rfl hl.1 rfl (Nat.le_of_ble_eq_true rfl) dX5_resultByVerses_68 ⟨(Nat.le_of_ble_eq_true rfl), (Nat.le_of_ble_eq_true rfl)⟩ (fun v291 H locs hpo hG hS hq9 => ?_)
              have hf271 := hf271.call hq9 (tk_w.no ht_ld21 (by decide))
              obtain ⟨hpo293, hpo294, hpo295, hpo296⟩ := hpo
              refine lv_if_eq (tgt := 76) hx hb dX5_resultByVerses_71 (by decide) (fun c9 => ?_) (fun c9 => ?_)
              · have hc297 : v291.toInt = 0 := (fi_eq rfl (show (0 : Int32).toInt = 0 by decide)).mp c9
                refine lv_aload_n hx hb dX5_resultByVerses_76 rfl (lv_at hl 3 rfl) ?_
                refine tk_get (ci := 5) (C := RX5) (T := TX5) (N := 11) (sp := (6, 9, 0, 0)) hx hb htl inX5 hown hK hG ht_a0 (by decide) tk_no rfl 1 (by decide) (htl _ mw_156) (fun _ h9 => h9) rfl dX5_resultByVerses_77 (fun v9 hf298 hV9 => ?_)
                obtain ⟨b299, rfl, ht_b299⟩ := hV9
                have ht_b299 : t b299 = (9, 0, 0) := ht_b299
                refine lv_aload_n hx hb dX5_resultByVerses_80 rfl (lv_at hl 3 rfl) ?_
                refine tk_get (ci := 5) (C := RX5) (T := TX5) (N := 11) (sp := (8, 21, 10, 4)) hx hb htl inX5 hown hK hG ht_a0 (by decide) tk_no rfl 5 (by decide) (htl _ mw_150) (fun _ h9 => h9) rfl dX5_resultByVerses_81 (fun v9 hf300 hV9 => ?_)
                obtain ⟨rfl, ht_ld21⟩ := hV9
                have ht_ld21 : t (ld 21) = (10, 0, 4) := ht_ld21
                refine fx_top (v := .ref (ld 21)) rfl ?_
                refine lv_iload hx hb dX5_resultByVerses_84 (lv_at hl 0 rfl) ?_
                refine tk_Vi (As := [.ref (ld 21), .int v286]) (rest := []) (ci := 8) ⟨hx, hb, hml, hown, hts⟩ hK hG hZ hS (k_X8_singOn l D cy ld t 4 b299 (ld 21) v286 v272 ht_b299 ht_ld21 (by omega) (by omega) (by omega) (by omega)) hf271 ⟨callB_of 2 hts (wl_in mw_946) rfl rfl rfl (htl _ mw_21) (htl _ mw_1301) hd_yX8_singOn ⟨(Nat.le_of_ble_eq_true rfl), (Nat.le_of_ble_eq_true rfl)⟩, htl _ mw_944, htl _ mw_945⟩ ht_b299 (by decide) tk_no rfl (tk_w.pick [2, 3, 4, 0, 1] rfl) rfl hl.1 rfl (Nat.le_of_ble_eq_true rfl) dX5_resultByVerses_86 ⟨(Nat.le_of_ble_eq_true rfl), (Nat.le_of_ble_eq_true rfl)⟩ (fun v301 H locs hpo hG hS hq9 => ?_)
                refine lv_if_ne (tgt := 103) hx hb dX5_resultByVerses_89 (by decide) (fun c9 => ?_) (fun c9 => ?_)
                · have hc303 : ¬ (v301.toInt = 0) := fun h9 => c9 ((fi_eq rfl (show (0 : Int32).toInt = 0 by decide)).mpr h9)
                  obtain ⟨v304, h_v304, e_v304⟩ := tk_inc v8 1 (by decide) (by omega) (by omega)
                  refine lv_iinc (v := v304) (lv' := [(5, .int v304), (7, .int v286), (6, .int v283), (0, .ref a0), (3, .int p3), (4, .int p4)]) hx hb dX5_resultByVerses_103 hl (k := 2) rfl e_v304 (by decide) rfl (fun ls hl => ?_)
                  refine lv_goto (tgt := 19) hx hb dX5_resultByVerses_106 (by decide) ?_
                  exact ih_l268 v304 _ _ (by omega) (by omega) (by omega) hG hS _ (lv_sub hl [0, 3, 4, 5] rfl)
                · have hc303 : v301.toInt = 0 := (fi_eq rfl (show (0 : Int32).toInt = 0 by decide)).mp c9
                  refine lv_iload hx hb dX5_resultByVerses_92 (lv_at hl 1 rfl) ?_
                  refine lv_if_eq (tgt := 101) hx hb dX5_resultByVerses_94 (by decide) (fun c9 => ?_) (fun c9 => ?_)
                  · have hc305 : v283.toInt = 0 := (fi_eq rfl (show (0 : Int32).toInt = 0 by decide)).mp c9
                    refine lv_iconst (v := 1) hx hb dX5_resultByVerses_101 (by decide) ?_
                    have hk_1 : (1 : Int32).toInt = 1 := by decide
                    exact tk_iret (v := 1) hx hb hr rfl hlocks (show (-1) ≤ (1 : Int32).toInt ∧ (1 : Int32).toInt ≤ 1 from ⟨(by omega), (by omega)⟩) hG hS dX5_resultByVerses_102
                  · have hc305 : ¬ (v283.toInt = 0) := fun h9 => c9 ((fi_eq rfl (show (0 : Int32).toInt = 0 by decide)).mpr h9)
                    refine lv_iconst (v := (-1)) hx hb dX5_resultByVerses_97 (by decide) ?_
                    refine lv_goto (tgt := 102) hx hb dX5_resultByVerses_98 (by decide) ?_
                    have hk_m1 : ((-1) : Int32).toInt = (-1) := by decide
                    exact tk_iret (v := (-1)) hx hb hr rfl hlocks (show (-1) ≤ ((-1) : Int32).toInt ∧ ((-1) : Int32).toInt ≤ 1 from ⟨(by omega), (by omega)⟩) hG hS dX5_resultByVerses_102
              · have hc297 : ¬ (v291.toInt = 0) := fun h9 => c9 ((fi_eq rfl (show (0 : Int32).toInt = 0 by decide)).mpr h9)
                refine lv_iconst (v := 0) hx hb dX5_resultByVerses_74 (by decide) ?_
                have hk_0 : (0 : Int32).toInt = 0 := by decide
                exact tk_iret (v := 0) hx hb hr rfl hlocks (show (-1) ≤ (0 : Int32).toInt ∧ (0 : Int32).toInt ≤ 1 from ⟨(by omega), (by omega)⟩) hG hS dX5_resultByVerses_75
            refine lv_if_eq (tgt := 55) hx hb dX5_resultByVerses_47 (by decide) (fun c9 => ?_) (fun c9 => ?_)
            · have hc284 : v283.toInt = 0 := (fi_eq rfl (show (0 : Int32).toInt = 0 by decide)).mp c9
              refine lv_iload_n hx hb dX5_resultByVerses_55 rfl (lv_at hl 3 rfl) ?_
              exact hj287 p3 (by omega) (by omega) _ (lv_sub hl [0, 1, 2, 3, 4] rfl)
            · have hc284 : ¬ (v283.toInt = 0) := fun h9 => c9 ((fi_eq rfl (show (0 : Int32).toInt = 0 by decide)).mpr h9)
              refine lv_iload hx hb dX5_resultByVerses_50 (lv_at hl 4 rfl) ?_
              refine lv_goto (tgt := 56) hx hb dX5_resultByVerses_52 (by decide) ?_
              exact hj287 p4 (by omega) (by omega) _ (lv_sub hl [0, 1, 2, 3, 4] rfl)
    have hk_0 : (0 : Int32).toInt = 0 := by decide
    exact hl268 25 0 _ _ (by omega) (by omega) (by omega) hG hS _ (lv_sub hl [0, 1, 4, 5] rfl)
  · have hc7 : v1.toInt = 0 := (fi_eq rfl (show (0 : Int32).toInt = 0 by decide)).mp c9
    refine lv_aload_n hx hb dX5_resultByVerses_9 rfl (lv_at hl 0 rfl) ?_
    refine lv_iload_n hx hb dX5_resultByVerses_10 rfl (lv_at hl 1 rfl) ?_
    refine lv_iload_n hx hb dX5_resultByVerses_11 rfl (lv_at hl 2 rfl) ?_
    refine tk_Vi (As := [.int p1, .int p2]) (rest := []) (ci := 5) ⟨hx, hb, hml, hown, hts⟩ hK hG hZ hS (k_X5_resultAtOnce l D cy ld t a0 p1 p2 ht_a0 (by omega) (by omega) (by omega) (by omega)) trivial ⟨callB_of 2 hts (wl_in mw_1352) rfl rfl rfl (htl _ mw_40) (htl _ mw_1349) hd_yX5_resultAtOnce ⟨(Nat.le_of_ble_eq_true rfl), (Nat.le_of_ble_eq_true rfl)⟩, htl _ mw_1350, htl _ mw_1351⟩ ht_a0 (by decide) tk_no rfl (tk_w.pick [] rfl) rfl hl.1 rfl (Nat.le_of_ble_eq_true rfl) dX5_resultByVerses_12 ⟨(Nat.le_of_ble_eq_true rfl), (Nat.le_of_ble_eq_true rfl)⟩ (fun v306 H locs hpo hG hS hq9 => ?_)
    obtain ⟨hpo308, hpo309⟩ := hpo
    exact tk_iret (v := v306) hx hb hr rfl hlocks (show (-1) ≤ v306.toInt ∧ v306.toInt ≤ 1 from ⟨(by omega), (by omega)⟩) hG hS dX5_resultByVerses_15
theorem dX5_bestOfWorst_0 : decode cX5_bestOfWorst 0 = .ok (.bipush (-2), 2) := by decide +kernel
theorem dX5_bestOfWorst_2 : decode cX5_bestOfWorst 2 = .ok (.istore 4, 2) := by decide +kernel
theorem dX5_bestOfWorst_4 : decode cX5_bestOfWorst 4 = .ok (.iconst (-1), 1) := by decide +kernel
theorem dX5_bestOfWorst_5 : decode cX5_bestOfWorst 5 = .ok (.istore 5, 2) := by decide +kernel
theorem dX5_bestOfWorst_7 : decode cX5_bestOfWorst 7 = .ok (.iconst 0, 1) := by decide +kernel
theorem dX5_bestOfWorst_8 : decode cX5_bestOfWorst 8 = .ok (.istore 6, 2) := by decide +kernel
theorem dX5_bestOfWorst_10 : decode cX5_bestOfWorst 10 = .ok (.iload 6, 2) := by decide +kernel
theorem dX5_bestOfWorst_12 : decode cX5_bestOfWorst 12 = .ok (.aload_n 0, 1) := by decide +kernel
theorem dX5_bestOfWorst_13 : decode cX5_bestOfWorst 13 = .ok (.getfield 34, 3) := by decide +kernel
theorem dX5_bestOfWorst_16 : decode cX5_bestOfWorst 16 = .ok (.getfield 79, 3) := by decide +kernel
theorem dX5_bestOfWorst_97 : decode cX5_bestOfWorst 97 = .ok (.iload_n 3, 1) := by decide +kernel
theorem dX5_bestOfWorst_98 : decode cX5_bestOfWorst 98 = .ok (.ifCond .eq 8, 3) := by decide +kernel
theorem dX5_bestOfWorst_106 : decode cX5_bestOfWorst 106 = .ok (.iload 4, 2) := by decide +kernel
theorem dX5_bestOfWorst_108 : decode cX5_bestOfWorst 108 = .ok (.ireturn, 1) := by decide +kernel
theorem dX5_bestOfWorst_101 : decode cX5_bestOfWorst 101 = .ok (.iload 5, 2) := by decide +kernel
theorem dX5_bestOfWorst_103 : decode cX5_bestOfWorst 103 = .ok (.goto 5, 3) := by decide +kernel
theorem dX5_bestOfWorst_19 : decode cX5_bestOfWorst 19 = .ok (.if_icmp .ge 78, 3) := by decide +kernel
theorem dX5_bestOfWorst_22 : decode cX5_bestOfWorst 22 = .ok (.iload 4, 2) := by decide +kernel
theorem dX5_bestOfWorst_24 : decode cX5_bestOfWorst 24 = .ok (.iconst 1, 1) := by decide +kernel
theorem dX5_bestOfWorst_25 : decode cX5_bestOfWorst 25 = .ok (.if_icmp .ge 72, 3) := by decide +kernel
theorem dX5_bestOfWorst_28 : decode cX5_bestOfWorst 28 = .ok (.iconst 1, 1) := by decide +kernel
theorem dX5_bestOfWorst_29 : decode cX5_bestOfWorst 29 = .ok (.istore 7, 2) := by decide +kernel
theorem dX5_bestOfWorst_31 : decode cX5_bestOfWorst 31 = .ok (.iconst 0, 1) := by decide +kernel
theorem dX5_bestOfWorst_32 : decode cX5_bestOfWorst 32 = .ok (.istore 8, 2) := by decide +kernel
theorem dX5_bestOfWorst_34 : decode cX5_bestOfWorst 34 = .ok (.iload 8, 2) := by decide +kernel
theorem dX5_bestOfWorst_36 : decode cX5_bestOfWorst 36 = .ok (.aload_n 0, 1) := by decide +kernel
theorem dX5_bestOfWorst_37 : decode cX5_bestOfWorst 37 = .ok (.getfield 34, 3) := by decide +kernel
theorem dX5_bestOfWorst_40 : decode cX5_bestOfWorst 40 = .ok (.getfield 79, 3) := by decide +kernel
theorem dX5_bestOfWorst_76 : decode cX5_bestOfWorst 76 = .ok (.iload 7, 2) := by decide +kernel
theorem dX5_bestOfWorst_78 : decode cX5_bestOfWorst 78 = .ok (.iload 4, 2) := by decide +kernel
theorem dX5_bestOfWorst_91 : decode cX5_bestOfWorst 91 = .ok (.iinc 6 1, 3) := by decide +kernel
theorem dX5_bestOfWorst_94 : decode cX5_bestOfWorst 94 = .ok (.goto (-84), 3) := by decide +kernel
theorem dX5_bestOfWorst_80 : decode cX5_bestOfWorst 80 = .ok (.if_icmp .le 11, 3) := by decide +kernel
theorem dX5_bestOfWorst_83 : decode cX5_bestOfWorst 83 = .ok (.iload 7, 2) := by decide +kernel
theorem dX5_bestOfWorst_85 : decode cX5_bestOfWorst 85 = .ok (.istore 4, 2) := by decide +kernel
theorem dX5_bestOfWorst_87 : decode cX5_bestOfWorst 87 = .ok (.iload 6, 2) := by decide +kernel
theorem dX5_bestOfWorst_89 : decode cX5_bestOfWorst 89 = .ok (.istore 5, 2) := by decide +kernel
theorem dX5_bestOfWorst_43 : decode cX5_bestOfWorst 43 = .ok (.if_icmp .ge 33, 3) := by decide +kernel
theorem dX5_bestOfWorst_46 : decode cX5_bestOfWorst 46 = .ok (.iload 7, 2) := by decide +kernel
theorem dX5_bestOfWorst_48 : decode cX5_bestOfWorst 48 = .ok (.iload 4, 2) := by decide +kernel
theorem dX5_bestOfWorst_50 : decode cX5_bestOfWorst 50 = .ok (.if_icmp .le 26, 3) := by decide +kernel
theorem dX5_bestOfWorst_53 : decode cX5_bestOfWorst 53 = .ok (.iload 7, 2) := by decide +kernel
theorem dX5_bestOfWorst_55 : decode cX5_bestOfWorst 55 = .ok (.aload_n 0, 1) := by decide +kernel
theorem dX5_bestOfWorst_56 : decode cX5_bestOfWorst 56 = .ok (.iload_n 1, 1) := by decide +kernel
theorem dX5_bestOfWorst_57 : decode cX5_bestOfWorst 57 = .ok (.iload_n 2, 1) := by decide +kernel
theorem dX5_bestOfWorst_58 : decode cX5_bestOfWorst 58 = .ok (.iload 6, 2) := by decide +kernel
theorem dX5_bestOfWorst_60 : decode cX5_bestOfWorst 60 = .ok (.iload 8, 2) := by decide +kernel
theorem dX5_bestOfWorst_62 : decode cX5_bestOfWorst 62 = .ok (.invokevirtual 96, 3) := by decide +kernel
theorem dX5_bestOfWorst_65 : decode cX5_bestOfWorst 65 = .ok (.invokestatic 100, 3) := by decide +kernel
theorem dX5_bestOfWorst_68 : decode cX5_bestOfWorst 68 = .ok (.istore 7, 2) := by decide +kernel
theorem dX5_bestOfWorst_70 : decode cX5_bestOfWorst 70 = .ok (.iinc 8 1, 3) := by decide +kernel
theorem dX5_bestOfWorst_73 : decode cX5_bestOfWorst 73 = .ok (.goto (-39), 3) := by decide +kernel
set_option maxHeartbeats 4000000 in
set_option maxRecDepth 100000 in
theorem k_X5_bestOfWorst (l : Launch) (D : va_G) (cy : Nat → ClassId) (ld : Nat → Nat) (t : tk_T) (a0 : Nat) (p1 : Int32) (p2 : Int32) (p3 : Int32) (ht_a0 : t a0 = (6, 0, 0)) (hp_0 : 0 ≤ p1.toInt) (hp_1 : p1.toInt ≤ 7) (hp_2 : 0 ≤ p2.toInt) (hp_3 : p2.toInt ≤ 7) (hp_4 : 0 ≤ p3.toInt) (hp_5 : p3.toInt ≤ 1) : Met l yX5_bestOfWorst (wl yX5_bestOfWorst cX5_bestOfWorst 9 (some .int)) ({ frames := 8, cells := 0, slots := 0, locals := 490 }) (tp D cy ld t [] [.ref a0, .int p1, .int p2, .int p3] (fun H => True)) (ti D cy ld t [] (fun r H => (-2) ≤ r.toInt ∧ r.toInt ≤ 9) (tk_w t [(20, 4, 4), (10, 4, 4), (20, 0, 0), (12, 0, 0), (9, 0, 0)])) 0 0 (tk_w t [(20, 4, 4), (10, 4, 4), (20, 0, 0), (12, 0, 0), (9, 0, 0)]) := by
  refine tk_met (y := yX5_bestOfWorst) (cc := cX5_bestOfWorst) (maxL := 9) (ret := (some .int)) (av := [.ref a0, .int p1, .int p2, .int p3]) _ _ (by decide) (Nat.le_of_ble_eq_true rfl) ?_
  intro p e s m args below meth c hx hb hr hml hts htl hown hlocks hK H locs hH hG hS hB hZ ls hl
  have hown : s.vm.findClass RX5 = some m.cls := hown
  have hl : lv_has ls 9 [(0, .ref a0), (1, .int p1), (2, .int p2), (3, .int p3)] := hl
  have hr_p1 := tk_rng p1
  have hr_p2 := tk_rng p2
  have hr_p3 := tk_rng p3
  refine lv_bipush (v := (-2)) hx hb dX5_bestOfWorst_0 (by decide) ?_
  refine lv_istore (lv' := [(4, .int (-2)), (0, .ref a0), (1, .int p1), (2, .int p2), (3, .int p3)]) hx hb dX5_bestOfWorst_2 hl (by decide) rfl (fun ls hl => ?_)
  refine lv_iconst (v := (-1)) hx hb dX5_bestOfWorst_4 (by decide) ?_
  refine lv_istore (lv' := [(5, .int (-1)), (4, .int (-2)), (0, .ref a0), (1, .int p1), (2, .int p2), (3, .int p3)]) hx hb dX5_bestOfWorst_5 hl (by decide) rfl (fun ls hl => ?_)
  refine lv_iconst (v := 0) hx hb dX5_bestOfWorst_7 (by decide) ?_
  refine lv_istore (lv' := [(6, .int 0), (5, .int (-1)), (4, .int (-2)), (0, .ref a0), (1, .int p1), (2, .int p2), (3, .int p3)]) hx hb dX5_bestOfWorst_8 hl (by decide) rfl (fun ls hl => ?_)
  have hl3204 : ∀ (N_l3204 : Nat) (v1 : Int32) (v2 : Int32) (v3 : Int32) (H : Heap) (locs : List Loc), v3.toInt ≤ 1 → v1.toInt ≤ 10 → 0 ≤ v2.toInt + (-1) * v3.toInt + 1 → (-1) ≤ v2.toInt → (-2) ≤ v3.toInt → 0 ≤ v1.toInt + (-1) * v2.toInt + (-1) → (-1) * v1.toInt + 10 < (N_l3204 : Int) → tk_G D cy ld t [] H → va_S (tk_w t [(20, 4, 4), (10, 4, 4), (20, 0, 0), (12, 0, 0), (9, 0, 0)]) s.heap H locs → ∀ ls : Array Slot, lv_has ls 9 [(6, .int v1), (5, .int v2), (4, .int v3), (0, .ref a0), (1, .int p1), (2, .int p2), (3, .int p3)] → W p l e ({ frames := 8, cells := 0, slots := 0, locals := 490 }) s m args below meth c H locs 0 0 (MQ below (ti D cy ld t [] (fun r H => (-2) ≤ r.toInt ∧ r.toInt ≤ 9) (tk_w t [(20, 4, 4), (10, 4, 4), (20, 0, 0), (12, 0, 0), (9, 0, 0)])) args s 0 0 (tk_w t [(20, 4, 4), (10, 4, 4), (20, 0, 0), (12, 0, 0), (9, 0, 0)])) (F0 m 10 ls []) := by
    intro N_l3204
    induction N_l3204 with
    | zero => intro v1 v2 v3 H locs hq0_l3204 hq1_l3204 hq2_l3204 hq3_l3204 hq4_l3204 hq5_l3204 hm_l3204 hG hS ls hl; exfalso; omega
    | succ N_l3204 ih_l3204 =>
      intro v1 v2 v3 H locs hq0_l3204 hq1_l3204 hq2_l3204 hq3_l3204 hq4_l3204 hq5_l3204 hm_l3204 hG hS ls hl
      refine lv_iload hx hb dX5_bestOfWorst_10 (lv_at hl 0 rfl) ?_
      refine lv_aload_n hx hb dX5_bestOfWorst_12 rfl (lv_at hl 3 rfl) ?_
      refine tk_get (ci := 5) (C := RX5) (T := TX5) (N := 11) (sp := (8, 20, 3, 0)) hx hb htl inX5 hown hK hG ht_a0 (by decide) tk_no rfl 0 (by decide) (htl _ mw_155) (fun _ h9 => h9) rfl dX5_bestOfWorst_13 (fun v9 hf3205 hV9 => ?_)
      obtain ⟨rfl, ht_ld20⟩ := hV9
      have ht_ld20 : t (ld 20) = (3, 0, 0) := ht_ld20
      refine fx_top (v := .ref (ld 20)) rfl ?_
      refine tk_get (ci := 2) (C := RX2) (T := TX2) (N := 20) (sp := (0, 0, 10, 0)) hx hb htl inX2 hown hK hG ht_ld20 (by decide) tk_no rfl 4 (by decide) (htl _ mw_1297) (fun _ h9 => h9) rfl dX5_bestOfWorst_16 (fun v9 hf3206 hV9 => ?_)
      obtain ⟨v3207, rfl, (ha_v3207 : 0 ≤ v3207.toInt), (hb_v3207 : v3207.toInt ≤ 10)⟩ := hV9
      have hj3389 : ∀ (_ : Unit), ∀ ls : Array Slot, lv_has ls 9 [(5, .int v2), (4, .int v3), (3, .int p3)] → W p l e ({ frames := 8, cells := 0, slots := 0, locals := 490 }) s m args below meth c H locs 0 0 (MQ below (ti D cy ld t [] (fun r H => (-2) ≤ r.toInt ∧ r.toInt ≤ 9) (tk_w t [(20, 4, 4), (10, 4, 4), (20, 0, 0), (12, 0, 0), (9, 0, 0)])) args s 0 0 (tk_w t [(20, 4, 4), (10, 4, 4), (20, 0, 0), (12, 0, 0), (9, 0, 0)])) (F0 m 97 ls []) := by
        intro _  ls hl
        refine lv_iload_n hx hb dX5_bestOfWorst_97 rfl (lv_at hl 2 rfl) ?_
        refine lv_if_eq (tgt := 106) hx hb dX5_bestOfWorst_98 (by decide) (fun c9 => ?_) (fun c9 => ?_)
        · have hc3390 : p3.toInt = 0 := (fi_eq rfl (show (0 : Int32).toInt = 0 by decide)).mp c9
          refine lv_iload hx hb dX5_bestOfWorst_106 (lv_at hl 1 rfl) ?_
          exact tk_iret (v := v3) hx hb hr rfl hlocks (show (-2) ≤ v3.toInt ∧ v3.toInt ≤ 9 from ⟨(by omega), (by omega)⟩) hG hS dX5_bestOfWorst_108
        · have hc3390 : ¬ (p3.toInt = 0) := fun h9 => c9 ((fi_eq rfl (show (0 : Int32).toInt = 0 by decide)).mpr h9)
          refine lv_iload hx hb dX5_bestOfWorst_101 (lv_at hl 0 rfl) ?_
          refine lv_goto (tgt := 108) hx hb dX5_bestOfWorst_103 (by decide) ?_
          exact tk_iret (v := v2) hx hb hr rfl hlocks (show (-2) ≤ v2.toInt ∧ v2.toInt ≤ 9 from ⟨(by omega), (by omega)⟩) hG hS dX5_bestOfWorst_108
      refine lv_icmp_ge (tgt := 97) hx hb dX5_bestOfWorst_19 (by decide) (fun c9 => ?_) (fun c9 => ?_)
      · have hc3208 : v3207.toInt ≤ v1.toInt := (fi_le rfl rfl).mp c9
        exact hj3389 () _ (lv_sub hl [1, 2, 6] rfl)
      · have hc3208 : ¬ (v3207.toInt ≤ v1.toInt) := fun h9 => c9 ((fi_le rfl rfl).mpr h9)
        refine lv_iload hx hb dX5_bestOfWorst_22 (lv_at hl 2 rfl) ?_
        refine lv_iconst (v := 1) hx hb dX5_bestOfWorst_24 (by decide) ?_
        refine lv_icmp_ge (tgt := 97) hx hb dX5_bestOfWorst_25 (by decide) (fun c9 => ?_) (fun c9 => ?_)
        · have hc3391 : 1 ≤ v3.toInt := (fi_le (show (1 : Int32).toInt = 1 by decide) rfl).mp c9
          exact hj3389 () _ (lv_sub hl [1, 2, 6] rfl)
        · have hc3391 : ¬ (1 ≤ v3.toInt) := fun h9 => c9 ((fi_le (show (1 : Int32).toInt = 1 by decide) rfl).mpr h9)
          refine lv_iconst (v := 1) hx hb dX5_bestOfWorst_28 (by decide) ?_
          refine lv_istore (lv' := [(7, .int 1), (6, .int v1), (5, .int v2), (4, .int v3), (0, .ref a0), (1, .int p1), (2, .int p2), (3, .int p3)]) hx hb dX5_bestOfWorst_29 hl (by decide) rfl (fun ls hl => ?_)
          refine lv_iconst (v := 0) hx hb dX5_bestOfWorst_31 (by decide) ?_
          refine lv_istore (lv' := [(8, .int 0), (7, .int 1), (6, .int v1), (5, .int v2), (4, .int v3), (0, .ref a0), (1, .int p1), (2, .int p2), (3, .int p3)]) hx hb dX5_bestOfWorst_32 hl (by decide) rfl (fun ls hl => ?_)
          have hl3546 : ∀ (N_l3546 : Nat) (v3392 : Int32) (v3393 : Int32) (H : Heap) (locs : List Loc), (-1) ≤ v3393.toInt → v3393.toInt ≤ 1 → v3392.toInt ≤ 10 → 0 ≤ v3392.toInt → (-1) * v3392.toInt + 10 < (N_l3546 : Int) → tk_G D cy ld t [] H → va_S (tk_w t [(20, 4, 4), (10, 4, 4), (20, 0, 0), (12, 0, 0), (9, 0, 0)]) s.heap H locs → tk_f D H (ld 20) 2 4 (.int v3207) → ∀ ls : Array Slot, lv_has ls 9 [(8, .int v3392), (7, .int v3393), (6, .int v1), (5, .int v2), (4, .int v3), (0, .ref a0), (1, .int p1), (2, .int p2), (3, .int p3)] → W p l e ({ frames := 8, cells := 0, slots := 0, locals := 490 }) s m args below meth c H locs 0 0 (MQ below (ti D cy ld t [] (fun r H => (-2) ≤ r.toInt ∧ r.toInt ≤ 9) (tk_w t [(20, 4, 4), (10, 4, 4), (20, 0, 0), (12, 0, 0), (9, 0, 0)])) args s 0 0 (tk_w t [(20, 4, 4), (10, 4, 4), (20, 0, 0), (12, 0, 0), (9, 0, 0)])) (F0 m 34 ls []) := by
            intro N_l3546
            induction N_l3546 with
            | zero => intro v3392 v3393 H locs hq0_l3546 hq1_l3546 hq2_l3546 hq3_l3546 hm_l3546 hG hS hf3206 ls hl; exfalso; omega
            | succ N_l3546 ih_l3546 =>
              intro v3392 v3393 H locs hq0_l3546 hq1_l3546 hq2_l3546 hq3_l3546 hm_l3546 hG hS hf3206 ls hl
              refine lv_iload hx hb dX5_bestOfWorst_34 (lv_at hl 0 rfl) ?_
              refine lv_aload_n hx hb dX5_bestOfWorst_36 rfl (lv_at hl 5 rfl) ?_
              refine tk_get (ci := 5) (C := RX5) (T := TX5) (N := 11) (sp := (8, 20, 3, 0)) hx hb htl inX5 hown hK hG ht_a0 (by decide) tk_no rfl 0 (by decide) (htl _ mw_155) (fun _ h9 => h9) rfl dX5_bestOfWorst_37 (fun v9 hf3547 hV9 => ?_)
              obtain ⟨rfl, ht_ld20⟩ := hV9
              have ht_ld20 : t (ld 20) = (3, 0, 0) := ht_ld20
              refine fx_top (v := .ref (ld 20)) rfl ?_
              refine tk_getk (ci := 2) (C := RX2) (T := TX2) (N := 20) (sp := (0, 0, 10, 0)) hx hb htl inX2 hown hK hG ht_ld20 (by decide) tk_no rfl 4 (by decide) (htl _ mw_1297) (fun _ h9 => h9) rfl hf3206 dX5_bestOfWorst_40 ?_
              have hj3556 : ∀ (_ : Unit), ∀ ls : Array Slot, lv_has ls 9 [(7, .int v3393), (6, .int v1), (5, .int v2), (4, .int v3), (0, .ref a0), (1, .int p1), (2, .int p2), (3, .int p3)] → W p l e ({ frames := 8, cells := 0, slots := 0, locals := 490 }) s m args below meth c H locs 0 0 (MQ below (ti D cy ld t [] (fun r H => (-2) ≤ r.toInt ∧ r.toInt ≤ 9) (tk_w t [(20, 4, 4), (10, 4, 4), (20, 0, 0), (12, 0, 0), (9, 0, 0)])) args s 0 0 (tk_w t [(20, 4, 4), (10, 4, 4), (20, 0, 0), (12, 0, 0), (9, 0, 0)])) (F0 m 76 ls []) := by
                intro _  ls hl
                refine lv_iload hx hb dX5_bestOfWorst_76 (lv_at hl 0 rfl) ?_
                refine lv_iload hx hb dX5_bestOfWorst_78 (lv_at hl 3 rfl) ?_
                have hj3562 : ∀ (v3560 : Int32) (v3561 : Int32), v3561.toInt ≤ 1 → 0 ≤ v3560.toInt + (-1) * v3561.toInt + 1 → 0 ≤ v1.toInt + (-1) * v3560.toInt → 0 ≤ (-1) * v2.toInt + v3560.toInt → 0 ≤ v3393.toInt + (-1) * v3561.toInt + 1 → 0 ≤ (-1) * v3393.toInt + v3561.toInt → 0 ≤ (-1) * v3.toInt + v3561.toInt → ∀ ls : Array Slot, lv_has ls 9 [(6, .int v1), (5, .int v3560), (4, .int v3561), (0, .ref a0), (1, .int p1), (2, .int p2), (3, .int p3)] → W p l e ({ frames := 8, cells := 0, slots := 0, locals := 490 }) s m args below meth c H locs 0 0 (MQ below (ti D cy ld t [] (fun r H => (-2) ≤ r.toInt ∧ r.toInt ≤ 9) (tk_w t [(20, 4, 4), (10, 4, 4), (20, 0, 0), (12, 0, 0), (9, 0, 0)])) args s 0 0 (tk_w t [(20, 4, 4), (10, 4, 4), (20, 0, 0), (12, 0, 0), (9, 0, 0)])) (F0 m 91 ls []) := by
                  intro v3560 v3561 hq0_j3562 hq1_j3562 hq2_j3562 hq3_j3562 hq4_j3562 hq5_j3562 hq6_j3562 ls hl
                  obtain ⟨v3563, h_v3563, e_v3563⟩ := tk_inc v1 1 (by decide) (by omega) (by omega)
                  refine lv_iinc (v := v3563) (lv' := [(6, .int v3563), (5, .int v3560), (4, .int v3561), (0, .ref a0), (1, .int p1), (2, .int p2), (3, .int p3)]) hx hb dX5_bestOfWorst_91 hl (k := 0) rfl e_v3563 (by decide) rfl (fun ls hl => ?_)
                  refine lv_goto (tgt := 10) hx hb dX5_bestOfWorst_94 (by decide) ?_
                  exact ih_l3204 v3563 v3560 v3561 _ _ (by omega) (by omega) (by omega) (by omega) (by omega) (by omega) (by omega) hG hS _ (lv_sub hl [0, 1, 2, 3, 4, 5, 6] rfl)
                refine lv_icmp_le (tgt := 91) hx hb dX5_bestOfWorst_80 (by decide) (fun c9 => ?_) (fun c9 => ?_)
                · have hc3557 : v3393.toInt ≤ v3.toInt := (fi_le rfl rfl).mp c9
                  exact hj3562 v2 v3 (by omega) (by omega) (by omega) (by omega) (by omega) (by omega) (by omega) _ (lv_sub hl [1, 2, 3, 4, 5, 6, 7] rfl)
                · have hc3557 : ¬ (v3393.toInt ≤ v3.toInt) := fun h9 => c9 ((fi_le rfl rfl).mpr h9)
                  refine lv_iload hx hb dX5_bestOfWorst_83 (lv_at hl 0 rfl) ?_
                  refine lv_istore (lv' := [(4, .int v3393), (7, .int v3393), (6, .int v1), (5, .int v2), (0, .ref a0), (1, .int p1), (2, .int p2), (3, .int p3)]) hx hb dX5_bestOfWorst_85 hl (by decide) rfl (fun ls hl => ?_)
                  refine lv_iload hx hb dX5_bestOfWorst_87 (lv_at hl 2 rfl) ?_
                  refine lv_istore (lv' := [(5, .int v1), (4, .int v3393), (7, .int v3393), (6, .int v1), (0, .ref a0), (1, .int p1), (2, .int p2), (3, .int p3)]) hx hb dX5_bestOfWorst_89 hl (by decide) rfl (fun ls hl => ?_)
                  exact hj3562 v1 v3393 (by omega) (by omega) (by omega) (by omega) (by omega) (by omega) (by omega) _ (lv_sub hl [3, 0, 1, 4, 5, 6, 7] rfl)
              refine lv_icmp_ge (tgt := 76) hx hb dX5_bestOfWorst_43 (by decide) (fun c9 => ?_) (fun c9 => ?_)
              · have hc3548 : v3207.toInt ≤ v3392.toInt := (fi_le rfl rfl).mp c9
                exact hj3556 () _ (lv_sub hl [1, 2, 3, 4, 5, 6, 7, 8] rfl)
              · have hc3548 : ¬ (v3207.toInt ≤ v3392.toInt) := fun h9 => c9 ((fi_le rfl rfl).mpr h9)
                refine lv_iload hx hb dX5_bestOfWorst_46 (lv_at hl 1 rfl) ?_
                refine lv_iload hx hb dX5_bestOfWorst_48 (lv_at hl 4 rfl) ?_
                refine lv_icmp_le (tgt := 76) hx hb dX5_bestOfWorst_50 (by decide) (fun c9 => ?_) (fun c9 => ?_)
                · have hc3564 : v3393.toInt ≤ v3.toInt := (fi_le rfl rfl).mp c9
                  exact hj3556 () _ (lv_sub hl [1, 2, 3, 4, 5, 6, 7, 8] rfl)
                · have hc3564 : ¬ (v3393.toInt ≤ v3.toInt) := fun h9 => c9 ((fi_le rfl rfl).mpr h9)
                  refine lv_iload hx hb dX5_bestOfWorst_53 (lv_at hl 1 rfl) ?_
                  refine lv_aload_n hx hb dX5_bestOfWorst_55 rfl (lv_at hl 5 rfl) ?_
                  refine lv_iload_n hx hb dX5_bestOfWorst_56 rfl (lv_at hl 6 rfl) ?_
                  refine lv_iload_n hx hb dX5_bestOfWorst_57 rfl (lv_at hl 7 rfl) ?_
                  refine lv_iload hx hb dX5_bestOfWorst_58 (lv_at hl 2 rfl) ?_
                  refine lv_iload hx hb dX5_bestOfWorst_60 (lv_at hl 0 rfl) ?_
                  refine tk_Vi (As := [.int p1, .int p2, .int v1, .int v3392]) (rest := [.int v3393]) (ci := 5) ⟨hx, hb, hml, hown, hts⟩ hK hG hZ hS (k_X5_resultByVerses l D cy ld t a0 p1 p2 v1 v3392 ht_a0 (by omega) (by omega) (by omega) (by omega) (by omega) (by omega) (by omega) (by omega)) trivial ⟨callB_of 4 hts (wl_in mw_1341) rfl rfl rfl (htl _ mw_40) (htl _ mw_1338) hd_yX5_resultByVerses ⟨(Nat.le_of_ble_eq_true rfl), (Nat.le_of_ble_eq_true rfl)⟩, htl _ mw_1339, htl _ mw_1340⟩ ht_a0 (by decide) tk_no rfl (tk_w.pick [0, 1, 2, 3, 4] rfl) rfl hl.1 rfl (Nat.le_of_ble_eq_true rfl) dX5_bestOfWorst_62 ⟨(Nat.le_of_ble_eq_true rfl), (Nat.le_of_ble_eq_true rfl)⟩ (fun v3565 H locs hpo hG hS hq9 => ?_)
                  have hf3206 := hf3206.call hq9 (tk_w.no ht_ld20 (by decide))
                  obtain ⟨hpo3567, hpo3568⟩ := hpo
                  refine va_mmin hx hb (by rw [hml]; exact hl.1.symm) hown (htl _ mw_1337) (htl _ mw_473) (htl _ mw_474) (htl _ mw_475) (Nat.le_of_ble_eq_true rfl) (Nat.le_of_ble_eq_true rfl) (Nat.le_of_ble_eq_true rfl) (Nat.le_of_ble_eq_true rfl) dX5_bestOfWorst_65 ?_
                  refine tk_say (P := fun z => z.toInt ≤ v3393.toInt ∧ z.toInt ≤ v3565.toInt ∧ (z.toInt = v3393.toInt ∨ z.toInt = v3565.toInt)) (tk_min rfl rfl) (fun v3569 h_v3569 => ?_)
                  refine lv_istore (lv' := [(7, .int v3569), (8, .int v3392), (6, .int v1), (5, .int v2), (4, .int v3), (0, .ref a0), (1, .int p1), (2, .int p2), (3, .int p3)]) hx hb dX5_bestOfWorst_68 hl (by decide) rfl (fun ls hl => ?_)
                  obtain ⟨v3570, h_v3570, e_v3570⟩ := tk_inc v3392 1 (by decide) (by omega) (by omega)
                  refine lv_iinc (v := v3570) (lv' := [(8, .int v3570), (7, .int v3569), (6, .int v1), (5, .int v2), (4, .int v3), (0, .ref a0), (1, .int p1), (2, .int p2), (3, .int p3)]) hx hb dX5_bestOfWorst_70 hl (k := 1) rfl e_v3570 (by decide) rfl (fun ls hl => ?_)
                  refine lv_goto (tgt := 34) hx hb dX5_bestOfWorst_73 (by decide) ?_
                  exact ih_l3546 v3570 v3569 _ _ (by omega) (by omega) (by omega) (by omega) (by omega) hG hS hf3206 _ (lv_sub hl [0, 1, 2, 3, 4, 5, 6, 7, 8] rfl)
          have hk_0 : (0 : Int32).toInt = 0 := by decide
          have hk_1 : (1 : Int32).toInt = 1 := by decide
          exact hl3546 11 0 1 _ _ (by omega) (by omega) (by omega) (by omega) (by omega) hG hS hf3206 _ (lv_sub hl [0, 1, 2, 3, 4, 5, 6, 7, 8] rfl)
  have hk_0 : (0 : Int32).toInt = 0 := by decide
  have hk_m1 : ((-1) : Int32).toInt = (-1) := by decide
  have hk_m2 : ((-2) : Int32).toInt = (-2) := by decide
  exact hl3204 11 0 (-1) (-2) _ _ (by omega) (by omega) (by omega) (by omega) (by omega) (by omega) (by omega) hG hS _ (lv_sub hl [0, 1, 2, 3, 4, 5, 6] rfl)
theorem dX5_worstOfBest_0 : decode cX5_worstOfBest 0 = .ok (.iconst 2, 1) := by decide +kernel
theorem dX5_worstOfBest_1 : decode cX5_worstOfBest 1 = .ok (.istore 4, 2) := by decide +kernel
theorem dX5_worstOfBest_3 : decode cX5_worstOfBest 3 = .ok (.iconst (-1), 1) := by decide +kernel
theorem dX5_worstOfBest_4 : decode cX5_worstOfBest 4 = .ok (.istore 5, 2) := by decide +kernel
theorem dX5_worstOfBest_6 : decode cX5_worstOfBest 6 = .ok (.iconst 0, 1) := by decide +kernel
theorem dX5_worstOfBest_7 : decode cX5_worstOfBest 7 = .ok (.istore 6, 2) := by decide +kernel
theorem dX5_worstOfBest_9 : decode cX5_worstOfBest 9 = .ok (.iload 6, 2) := by decide +kernel
theorem dX5_worstOfBest_11 : decode cX5_worstOfBest 11 = .ok (.aload_n 0, 1) := by decide +kernel
theorem dX5_worstOfBest_12 : decode cX5_worstOfBest 12 = .ok (.getfield 34, 3) := by decide +kernel
theorem dX5_worstOfBest_15 : decode cX5_worstOfBest 15 = .ok (.getfield 79, 3) := by decide +kernel
theorem dX5_worstOfBest_96 : decode cX5_worstOfBest 96 = .ok (.iload_n 3, 1) := by decide +kernel
theorem dX5_worstOfBest_97 : decode cX5_worstOfBest 97 = .ok (.ifCond .eq 8, 3) := by decide +kernel
theorem dX5_worstOfBest_105 : decode cX5_worstOfBest 105 = .ok (.iload 4, 2) := by decide +kernel
theorem dX5_worstOfBest_107 : decode cX5_worstOfBest 107 = .ok (.ireturn, 1) := by decide +kernel
theorem dX5_worstOfBest_100 : decode cX5_worstOfBest 100 = .ok (.iload 5, 2) := by decide +kernel
theorem dX5_worstOfBest_102 : decode cX5_worstOfBest 102 = .ok (.goto 5, 3) := by decide +kernel
theorem dX5_worstOfBest_18 : decode cX5_worstOfBest 18 = .ok (.if_icmp .ge 78, 3) := by decide +kernel
theorem dX5_worstOfBest_21 : decode cX5_worstOfBest 21 = .ok (.iload 4, 2) := by decide +kernel
theorem dX5_worstOfBest_23 : decode cX5_worstOfBest 23 = .ok (.iconst (-1), 1) := by decide +kernel
theorem dX5_worstOfBest_24 : decode cX5_worstOfBest 24 = .ok (.if_icmp .le 72, 3) := by decide +kernel
theorem dX5_worstOfBest_27 : decode cX5_worstOfBest 27 = .ok (.iconst (-1), 1) := by decide +kernel
theorem dX5_worstOfBest_28 : decode cX5_worstOfBest 28 = .ok (.istore 7, 2) := by decide +kernel
theorem dX5_worstOfBest_30 : decode cX5_worstOfBest 30 = .ok (.iconst 0, 1) := by decide +kernel
theorem dX5_worstOfBest_31 : decode cX5_worstOfBest 31 = .ok (.istore 8, 2) := by decide +kernel
theorem dX5_worstOfBest_33 : decode cX5_worstOfBest 33 = .ok (.iload 8, 2) := by decide +kernel
theorem dX5_worstOfBest_35 : decode cX5_worstOfBest 35 = .ok (.aload_n 0, 1) := by decide +kernel
theorem dX5_worstOfBest_36 : decode cX5_worstOfBest 36 = .ok (.getfield 34, 3) := by decide +kernel
theorem dX5_worstOfBest_39 : decode cX5_worstOfBest 39 = .ok (.getfield 79, 3) := by decide +kernel
theorem dX5_worstOfBest_75 : decode cX5_worstOfBest 75 = .ok (.iload 7, 2) := by decide +kernel
theorem dX5_worstOfBest_77 : decode cX5_worstOfBest 77 = .ok (.iload 4, 2) := by decide +kernel
theorem dX5_worstOfBest_90 : decode cX5_worstOfBest 90 = .ok (.iinc 6 1, 3) := by decide +kernel
theorem dX5_worstOfBest_93 : decode cX5_worstOfBest 93 = .ok (.goto (-84), 3) := by decide +kernel
theorem dX5_worstOfBest_79 : decode cX5_worstOfBest 79 = .ok (.if_icmp .ge 11, 3) := by decide +kernel
theorem dX5_worstOfBest_82 : decode cX5_worstOfBest 82 = .ok (.iload 7, 2) := by decide +kernel
theorem dX5_worstOfBest_84 : decode cX5_worstOfBest 84 = .ok (.istore 4, 2) := by decide +kernel
theorem dX5_worstOfBest_86 : decode cX5_worstOfBest 86 = .ok (.iload 6, 2) := by decide +kernel
theorem dX5_worstOfBest_88 : decode cX5_worstOfBest 88 = .ok (.istore 5, 2) := by decide +kernel
theorem dX5_worstOfBest_42 : decode cX5_worstOfBest 42 = .ok (.if_icmp .ge 33, 3) := by decide +kernel
theorem dX5_worstOfBest_45 : decode cX5_worstOfBest 45 = .ok (.iload 7, 2) := by decide +kernel
theorem dX5_worstOfBest_47 : decode cX5_worstOfBest 47 = .ok (.iload 4, 2) := by decide +kernel
theorem dX5_worstOfBest_49 : decode cX5_worstOfBest 49 = .ok (.if_icmp .ge 26, 3) := by decide +kernel
theorem dX5_worstOfBest_52 : decode cX5_worstOfBest 52 = .ok (.iload 7, 2) := by decide +kernel
theorem dX5_worstOfBest_54 : decode cX5_worstOfBest 54 = .ok (.aload_n 0, 1) := by decide +kernel
theorem dX5_worstOfBest_55 : decode cX5_worstOfBest 55 = .ok (.iload_n 1, 1) := by decide +kernel
theorem dX5_worstOfBest_56 : decode cX5_worstOfBest 56 = .ok (.iload_n 2, 1) := by decide +kernel
theorem dX5_worstOfBest_57 : decode cX5_worstOfBest 57 = .ok (.iload 8, 2) := by decide +kernel
theorem dX5_worstOfBest_59 : decode cX5_worstOfBest 59 = .ok (.iload 6, 2) := by decide +kernel
theorem dX5_worstOfBest_61 : decode cX5_worstOfBest 61 = .ok (.invokevirtual 96, 3) := by decide +kernel
theorem dX5_worstOfBest_64 : decode cX5_worstOfBest 64 = .ok (.invokestatic 88, 3) := by decide +kernel
theorem dX5_worstOfBest_67 : decode cX5_worstOfBest 67 = .ok (.istore 7, 2) := by decide +kernel
theorem dX5_worstOfBest_69 : decode cX5_worstOfBest 69 = .ok (.iinc 8 1, 3) := by decide +kernel
theorem dX5_worstOfBest_72 : decode cX5_worstOfBest 72 = .ok (.goto (-39), 3) := by decide +kernel
set_option maxHeartbeats 4000000 in
set_option maxRecDepth 100000 in
theorem k_X5_worstOfBest (l : Launch) (D : va_G) (cy : Nat → ClassId) (ld : Nat → Nat) (t : tk_T) (a0 : Nat) (p1 : Int32) (p2 : Int32) (p3 : Int32) (ht_a0 : t a0 = (6, 0, 0)) (hp_0 : 0 ≤ p1.toInt) (hp_1 : p1.toInt ≤ 7) (hp_2 : 0 ≤ p2.toInt) (hp_3 : p2.toInt ≤ 7) (hp_4 : 0 ≤ p3.toInt) (hp_5 : p3.toInt ≤ 1) : Met l yX5_worstOfBest (wl yX5_worstOfBest cX5_worstOfBest 9 (some .int)) ({ frames := 8, cells := 0, slots := 0, locals := 490 }) (tp D cy ld t [] [.ref a0, .int p1, .int p2, .int p3] (fun H => True)) (ti D cy ld t [] (fun r H => (-1) ≤ r.toInt ∧ r.toInt ≤ 9) (tk_w t [(20, 4, 4), (10, 4, 4), (20, 0, 0), (12, 0, 0), (9, 0, 0)])) 0 0 (tk_w t [(20, 4, 4), (10, 4, 4), (20, 0, 0), (12, 0, 0), (9, 0, 0)]) := by
  refine tk_met (y := yX5_worstOfBest) (cc := cX5_worstOfBest) (maxL := 9) (ret := (some .int)) (av := [.ref a0, .int p1, .int p2, .int p3]) _ _ (by decide) (Nat.le_of_ble_eq_true rfl) ?_
  intro p e s m args below meth c hx hb hr hml hts htl hown hlocks hK H locs hH hG hS hB hZ ls hl
  have hown : s.vm.findClass RX5 = some m.cls := hown
  have hl : lv_has ls 9 [(0, .ref a0), (1, .int p1), (2, .int p2), (3, .int p3)] := hl
  have hr_p1 := tk_rng p1
  have hr_p2 := tk_rng p2
  have hr_p3 := tk_rng p3
  refine lv_iconst (v := 2) hx hb dX5_worstOfBest_0 (by decide) ?_
  refine lv_istore (lv' := [(4, .int 2), (0, .ref a0), (1, .int p1), (2, .int p2), (3, .int p3)]) hx hb dX5_worstOfBest_1 hl (by decide) rfl (fun ls hl => ?_)
  refine lv_iconst (v := (-1)) hx hb dX5_worstOfBest_3 (by decide) ?_
  refine lv_istore (lv' := [(5, .int (-1)), (4, .int 2), (0, .ref a0), (1, .int p1), (2, .int p2), (3, .int p3)]) hx hb dX5_worstOfBest_4 hl (by decide) rfl (fun ls hl => ?_)
  refine lv_iconst (v := 0) hx hb dX5_worstOfBest_6 (by decide) ?_
  refine lv_istore (lv' := [(6, .int 0), (5, .int (-1)), (4, .int 2), (0, .ref a0), (1, .int p1), (2, .int p2), (3, .int p3)]) hx hb dX5_worstOfBest_7 hl (by decide) rfl (fun ls hl => ?_)
  have hl2868 : ∀ (N_l2868 : Nat) (v1 : Int32) (v2 : Int32) (v3 : Int32) (H : Heap) (locs : List Loc), (-1) ≤ v3.toInt → v1.toInt ≤ 10 → (-1) ≤ v2.toInt → v3.toInt ≤ 2 → 0 ≤ v1.toInt + (-1) * v2.toInt + (-1) → (-1) * v1.toInt + 10 < (N_l2868 : Int) → tk_G D cy ld t [] H → va_S (tk_w t [(20, 4, 4), (10, 4, 4), (20, 0, 0), (12, 0, 0), (9, 0, 0)]) s.heap H locs → ∀ ls : Array Slot, lv_has ls 9 [(6, .int v1), (5, .int v2), (4, .int v3), (0, .ref a0), (1, .int p1), (2, .int p2), (3, .int p3)] → W p l e ({ frames := 8, cells := 0, slots := 0, locals := 490 }) s m args below meth c H locs 0 0 (MQ below (ti D cy ld t [] (fun r H => (-1) ≤ r.toInt ∧ r.toInt ≤ 9) (tk_w t [(20, 4, 4), (10, 4, 4), (20, 0, 0), (12, 0, 0), (9, 0, 0)])) args s 0 0 (tk_w t [(20, 4, 4), (10, 4, 4), (20, 0, 0), (12, 0, 0), (9, 0, 0)])) (F0 m 9 ls []) := by
    intro N_l2868
    induction N_l2868 with
    | zero => intro v1 v2 v3 H locs hq0_l2868 hq1_l2868 hq2_l2868 hq3_l2868 hq4_l2868 hm_l2868 hG hS ls hl; exfalso; omega
    | succ N_l2868 ih_l2868 =>
      intro v1 v2 v3 H locs hq0_l2868 hq1_l2868 hq2_l2868 hq3_l2868 hq4_l2868 hm_l2868 hG hS ls hl
      refine lv_iload hx hb dX5_worstOfBest_9 (lv_at hl 0 rfl) ?_
      refine lv_aload_n hx hb dX5_worstOfBest_11 rfl (lv_at hl 3 rfl) ?_
      refine tk_get (ci := 5) (C := RX5) (T := TX5) (N := 11) (sp := (8, 20, 3, 0)) hx hb htl inX5 hown hK hG ht_a0 (by decide) tk_no rfl 0 (by decide) (htl _ mw_155) (fun _ h9 => h9) rfl dX5_worstOfBest_12 (fun v9 hf2869 hV9 => ?_)
      obtain ⟨rfl, ht_ld20⟩ := hV9
      have ht_ld20 : t (ld 20) = (3, 0, 0) := ht_ld20
      refine fx_top (v := .ref (ld 20)) rfl ?_
      refine tk_get (ci := 2) (C := RX2) (T := TX2) (N := 20) (sp := (0, 0, 10, 0)) hx hb htl inX2 hown hK hG ht_ld20 (by decide) tk_no rfl 4 (by decide) (htl _ mw_1297) (fun _ h9 => h9) rfl dX5_worstOfBest_15 (fun v9 hf2870 hV9 => ?_)
      obtain ⟨v2871, rfl, (ha_v2871 : 0 ≤ v2871.toInt), (hb_v2871 : v2871.toInt ≤ 10)⟩ := hV9
      have hj3053 : ∀ (_ : Unit), ∀ ls : Array Slot, lv_has ls 9 [(5, .int v2), (4, .int v3), (3, .int p3)] → W p l e ({ frames := 8, cells := 0, slots := 0, locals := 490 }) s m args below meth c H locs 0 0 (MQ below (ti D cy ld t [] (fun r H => (-1) ≤ r.toInt ∧ r.toInt ≤ 9) (tk_w t [(20, 4, 4), (10, 4, 4), (20, 0, 0), (12, 0, 0), (9, 0, 0)])) args s 0 0 (tk_w t [(20, 4, 4), (10, 4, 4), (20, 0, 0), (12, 0, 0), (9, 0, 0)])) (F0 m 96 ls []) := by
        intro _  ls hl
        refine lv_iload_n hx hb dX5_worstOfBest_96 rfl (lv_at hl 2 rfl) ?_
        refine lv_if_eq (tgt := 105) hx hb dX5_worstOfBest_97 (by decide) (fun c9 => ?_) (fun c9 => ?_)
        · have hc3054 : p3.toInt = 0 := (fi_eq rfl (show (0 : Int32).toInt = 0 by decide)).mp c9
          refine lv_iload hx hb dX5_worstOfBest_105 (lv_at hl 1 rfl) ?_
          exact tk_iret (v := v3) hx hb hr rfl hlocks (show (-1) ≤ v3.toInt ∧ v3.toInt ≤ 9 from ⟨(by omega), (by omega)⟩) hG hS dX5_worstOfBest_107
        · have hc3054 : ¬ (p3.toInt = 0) := fun h9 => c9 ((fi_eq rfl (show (0 : Int32).toInt = 0 by decide)).mpr h9)
          refine lv_iload hx hb dX5_worstOfBest_100 (lv_at hl 0 rfl) ?_
          refine lv_goto (tgt := 107) hx hb dX5_worstOfBest_102 (by decide) ?_
          exact tk_iret (v := v2) hx hb hr rfl hlocks (show (-1) ≤ v2.toInt ∧ v2.toInt ≤ 9 from ⟨(by omega), (by omega)⟩) hG hS dX5_worstOfBest_107
      refine lv_icmp_ge (tgt := 96) hx hb dX5_worstOfBest_18 (by decide) (fun c9 => ?_) (fun c9 => ?_)
      · have hc2872 : v2871.toInt ≤ v1.toInt := (fi_le rfl rfl).mp c9
        exact hj3053 () _ (lv_sub hl [1, 2, 6] rfl)
      · have hc2872 : ¬ (v2871.toInt ≤ v1.toInt) := fun h9 => c9 ((fi_le rfl rfl).mpr h9)
        refine lv_iload hx hb dX5_worstOfBest_21 (lv_at hl 2 rfl) ?_
        refine lv_iconst (v := (-1)) hx hb dX5_worstOfBest_23 (by decide) ?_
        refine lv_icmp_le (tgt := 96) hx hb dX5_worstOfBest_24 (by decide) (fun c9 => ?_) (fun c9 => ?_)
        · have hc3055 : v3.toInt ≤ (-1) := (fi_le rfl (show ((-1) : Int32).toInt = (-1) by decide)).mp c9
          exact hj3053 () _ (lv_sub hl [1, 2, 6] rfl)
        · have hc3055 : ¬ (v3.toInt ≤ (-1)) := fun h9 => c9 ((fi_le rfl (show ((-1) : Int32).toInt = (-1) by decide)).mpr h9)
          refine lv_iconst (v := (-1)) hx hb dX5_worstOfBest_27 (by decide) ?_
          refine lv_istore (lv' := [(7, .int (-1)), (6, .int v1), (5, .int v2), (4, .int v3), (0, .ref a0), (1, .int p1), (2, .int p2), (3, .int p3)]) hx hb dX5_worstOfBest_28 hl (by decide) rfl (fun ls hl => ?_)
          refine lv_iconst (v := 0) hx hb dX5_worstOfBest_30 (by decide) ?_
          refine lv_istore (lv' := [(8, .int 0), (7, .int (-1)), (6, .int v1), (5, .int v2), (4, .int v3), (0, .ref a0), (1, .int p1), (2, .int p2), (3, .int p3)]) hx hb dX5_worstOfBest_31 hl (by decide) rfl (fun ls hl => ?_)
          have hl3210 : ∀ (N_l3210 : Nat) (v3056 : Int32) (v3057 : Int32) (H : Heap) (locs : List Loc), (-1) ≤ v3057.toInt → v3057.toInt ≤ 1 → v3056.toInt ≤ 10 → 0 ≤ v3056.toInt + (-1) * v3057.toInt → 0 ≤ v3056.toInt → (-1) * v3056.toInt + 10 < (N_l3210 : Int) → tk_G D cy ld t [] H → va_S (tk_w t [(20, 4, 4), (10, 4, 4), (20, 0, 0), (12, 0, 0), (9, 0, 0)]) s.heap H locs → tk_f D H (ld 20) 2 4 (.int v2871) → ∀ ls : Array Slot, lv_has ls 9 [(8, .int v3056), (7, .int v3057), (6, .int v1), (5, .int v2), (4, .int v3), (0, .ref a0), (1, .int p1), (2, .int p2), (3, .int p3)] → W p l e ({ frames := 8, cells := 0, slots := 0, locals := 490 }) s m args below meth c H locs 0 0 (MQ below (ti D cy ld t [] (fun r H => (-1) ≤ r.toInt ∧ r.toInt ≤ 9) (tk_w t [(20, 4, 4), (10, 4, 4), (20, 0, 0), (12, 0, 0), (9, 0, 0)])) args s 0 0 (tk_w t [(20, 4, 4), (10, 4, 4), (20, 0, 0), (12, 0, 0), (9, 0, 0)])) (F0 m 33 ls []) := by
            intro N_l3210
            induction N_l3210 with
            | zero => intro v3056 v3057 H locs hq0_l3210 hq1_l3210 hq2_l3210 hq3_l3210 hq4_l3210 hm_l3210 hG hS hf2870 ls hl; exfalso; omega
            | succ N_l3210 ih_l3210 =>
              intro v3056 v3057 H locs hq0_l3210 hq1_l3210 hq2_l3210 hq3_l3210 hq4_l3210 hm_l3210 hG hS hf2870 ls hl
              refine lv_iload hx hb dX5_worstOfBest_33 (lv_at hl 0 rfl) ?_
              refine lv_aload_n hx hb dX5_worstOfBest_35 rfl (lv_at hl 5 rfl) ?_
              refine tk_get (ci := 5) (C := RX5) (T := TX5) (N := 11) (sp := (8, 20, 3, 0)) hx hb htl inX5 hown hK hG ht_a0 (by decide) tk_no rfl 0 (by decide) (htl _ mw_155) (fun _ h9 => h9) rfl dX5_worstOfBest_36 (fun v9 hf3211 hV9 => ?_)
              obtain ⟨rfl, ht_ld20⟩ := hV9
              have ht_ld20 : t (ld 20) = (3, 0, 0) := ht_ld20
              refine fx_top (v := .ref (ld 20)) rfl ?_
              refine tk_getk (ci := 2) (C := RX2) (T := TX2) (N := 20) (sp := (0, 0, 10, 0)) hx hb htl inX2 hown hK hG ht_ld20 (by decide) tk_no rfl 4 (by decide) (htl _ mw_1297) (fun _ h9 => h9) rfl hf2870 dX5_worstOfBest_39 ?_
              have hj3220 : ∀ (_ : Unit), ∀ ls : Array Slot, lv_has ls 9 [(7, .int v3057), (6, .int v1), (5, .int v2), (4, .int v3), (0, .ref a0), (1, .int p1), (2, .int p2), (3, .int p3)] → W p l e ({ frames := 8, cells := 0, slots := 0, locals := 490 }) s m args below meth c H locs 0 0 (MQ below (ti D cy ld t [] (fun r H => (-1) ≤ r.toInt ∧ r.toInt ≤ 9) (tk_w t [(20, 4, 4), (10, 4, 4), (20, 0, 0), (12, 0, 0), (9, 0, 0)])) args s 0 0 (tk_w t [(20, 4, 4), (10, 4, 4), (20, 0, 0), (12, 0, 0), (9, 0, 0)])) (F0 m 75 ls []) := by
                intro _  ls hl
                refine lv_iload hx hb dX5_worstOfBest_75 (lv_at hl 0 rfl) ?_
                refine lv_iload hx hb dX5_worstOfBest_77 (lv_at hl 3 rfl) ?_
                have hj3226 : ∀ (v3224 : Int32) (v3225 : Int32), (-1) ≤ v3225.toInt → 0 ≤ v1.toInt + (-1) * v3224.toInt → 0 ≤ (-1) * v2.toInt + v3224.toInt → 0 ≤ v3057.toInt + (-1) * v3225.toInt → 0 ≤ (-1) * v3057.toInt + v3225.toInt + 1 → 0 ≤ v3.toInt + (-1) * v3225.toInt → ∀ ls : Array Slot, lv_has ls 9 [(6, .int v1), (5, .int v3224), (4, .int v3225), (0, .ref a0), (1, .int p1), (2, .int p2), (3, .int p3)] → W p l e ({ frames := 8, cells := 0, slots := 0, locals := 490 }) s m args below meth c H locs 0 0 (MQ below (ti D cy ld t [] (fun r H => (-1) ≤ r.toInt ∧ r.toInt ≤ 9) (tk_w t [(20, 4, 4), (10, 4, 4), (20, 0, 0), (12, 0, 0), (9, 0, 0)])) args s 0 0 (tk_w t [(20, 4, 4), (10, 4, 4), (20, 0, 0), (12, 0, 0), (9, 0, 0)])) (F0 m 90 ls []) := by
                  intro v3224 v3225 hq0_j3226 hq1_j3226 hq2_j3226 hq3_j3226 hq4_j3226 hq5_j3226 ls hl
                  obtain ⟨v3227, h_v3227, e_v3227⟩ := tk_inc v1 1 (by decide) (by omega) (by omega)
                  refine lv_iinc (v := v3227) (lv' := [(6, .int v3227), (5, .int v3224), (4, .int v3225), (0, .ref a0), (1, .int p1), (2, .int p2), (3, .int p3)]) hx hb dX5_worstOfBest_90 hl (k := 0) rfl e_v3227 (by decide) rfl (fun ls hl => ?_)
                  refine lv_goto (tgt := 9) hx hb dX5_worstOfBest_93 (by decide) ?_
                  exact ih_l2868 v3227 v3224 v3225 _ _ (by omega) (by omega) (by omega) (by omega) (by omega) (by omega) hG hS _ (lv_sub hl [0, 1, 2, 3, 4, 5, 6] rfl)
                refine lv_icmp_ge (tgt := 90) hx hb dX5_worstOfBest_79 (by decide) (fun c9 => ?_) (fun c9 => ?_)
                · have hc3221 : v3.toInt ≤ v3057.toInt := (fi_le rfl rfl).mp c9
                  exact hj3226 v2 v3 (by omega) (by omega) (by omega) (by omega) (by omega) (by omega) _ (lv_sub hl [1, 2, 3, 4, 5, 6, 7] rfl)
                · have hc3221 : ¬ (v3.toInt ≤ v3057.toInt) := fun h9 => c9 ((fi_le rfl rfl).mpr h9)
                  refine lv_iload hx hb dX5_worstOfBest_82 (lv_at hl 0 rfl) ?_
                  refine lv_istore (lv' := [(4, .int v3057), (7, .int v3057), (6, .int v1), (5, .int v2), (0, .ref a0), (1, .int p1), (2, .int p2), (3, .int p3)]) hx hb dX5_worstOfBest_84 hl (by decide) rfl (fun ls hl => ?_)
                  refine lv_iload hx hb dX5_worstOfBest_86 (lv_at hl 2 rfl) ?_
                  refine lv_istore (lv' := [(5, .int v1), (4, .int v3057), (7, .int v3057), (6, .int v1), (0, .ref a0), (1, .int p1), (2, .int p2), (3, .int p3)]) hx hb dX5_worstOfBest_88 hl (by decide) rfl (fun ls hl => ?_)
                  exact hj3226 v1 v3057 (by omega) (by omega) (by omega) (by omega) (by omega) (by omega) _ (lv_sub hl [3, 0, 1, 4, 5, 6, 7] rfl)
              refine lv_icmp_ge (tgt := 75) hx hb dX5_worstOfBest_42 (by decide) (fun c9 => ?_) (fun c9 => ?_)
              · have hc3212 : v2871.toInt ≤ v3056.toInt := (fi_le rfl rfl).mp c9
                exact hj3220 () _ (lv_sub hl [1, 2, 3, 4, 5, 6, 7, 8] rfl)
              · have hc3212 : ¬ (v2871.toInt ≤ v3056.toInt) := fun h9 => c9 ((fi_le rfl rfl).mpr h9)
                refine lv_iload hx hb dX5_worstOfBest_45 (lv_at hl 1 rfl) ?_
                refine lv_iload hx hb dX5_worstOfBest_47 (lv_at hl 4 rfl) ?_
                refine lv_icmp_ge (tgt := 75) hx hb dX5_worstOfBest_49 (by decide) (fun c9 => ?_) (fun c9 => ?_)
                · have hc3228 : v3.toInt ≤ v3057.toInt := (fi_le rfl rfl).mp c9
                  exact hj3220 () _ (lv_sub hl [1, 2, 3, 4, 5, 6, 7, 8] rfl)
                · have hc3228 : ¬ (v3.toInt ≤ v3057.toInt) := fun h9 => c9 ((fi_le rfl rfl).mpr h9)
                  refine lv_iload hx hb dX5_worstOfBest_52 (lv_at hl 1 rfl) ?_
                  refine lv_aload_n hx hb dX5_worstOfBest_54 rfl (lv_at hl 5 rfl) ?_
                  refine lv_iload_n hx hb dX5_worstOfBest_55 rfl (lv_at hl 6 rfl) ?_
                  refine lv_iload_n hx hb dX5_worstOfBest_56 rfl (lv_at hl 7 rfl) ?_
                  refine lv_iload hx hb dX5_worstOfBest_57 (lv_at hl 0 rfl) ?_
                  refine lv_iload hx hb dX5_worstOfBest_59 (lv_at hl 2 rfl) ?_
                  refine tk_Vi (As := [.int p1, .int p2, .int v3056, .int v1]) (rest := [.int v3057]) (ci := 5) ⟨hx, hb, hml, hown, hts⟩ hK hG hZ hS (k_X5_resultByVerses l D cy ld t a0 p1 p2 v3056 v1 ht_a0 (by omega) (by omega) (by omega) (by omega) (by omega) (by omega) (by omega) (by omega)) trivial ⟨callB_of 4 hts (wl_in mw_1341) rfl rfl rfl (htl _ mw_40) (htl _ mw_1338) hd_yX5_resultByVerses ⟨(Nat.le_of_ble_eq_true rfl), (Nat.le_of_ble_eq_true rfl)⟩, htl _ mw_1339, htl _ mw_1340⟩ ht_a0 (by decide) tk_no rfl (tk_w.pick [0, 1, 2, 3, 4] rfl) rfl hl.1 rfl (Nat.le_of_ble_eq_true rfl) dX5_worstOfBest_61 ⟨(Nat.le_of_ble_eq_true rfl), (Nat.le_of_ble_eq_true rfl)⟩ (fun v3229 H locs hpo hG hS hq9 => ?_)
                  have hf2870 := hf2870.call hq9 (tk_w.no ht_ld20 (by decide))
                  obtain ⟨hpo3231, hpo3232⟩ := hpo
                  refine va_mmax hx hb (by rw [hml]; exact hl.1.symm) hown (htl _ mw_1298) (htl _ mw_948) (htl _ mw_474) (htl _ mw_949) (Nat.le_of_ble_eq_true rfl) (Nat.le_of_ble_eq_true rfl) (Nat.le_of_ble_eq_true rfl) (Nat.le_of_ble_eq_true rfl) dX5_worstOfBest_64 ?_
                  refine tk_say (P := fun z => v3057.toInt ≤ z.toInt ∧ v3229.toInt ≤ z.toInt ∧ (z.toInt = v3057.toInt ∨ z.toInt = v3229.toInt)) (tk_max rfl rfl) (fun v3233 h_v3233 => ?_)
                  refine lv_istore (lv' := [(7, .int v3233), (8, .int v3056), (6, .int v1), (5, .int v2), (4, .int v3), (0, .ref a0), (1, .int p1), (2, .int p2), (3, .int p3)]) hx hb dX5_worstOfBest_67 hl (by decide) rfl (fun ls hl => ?_)
                  obtain ⟨v3234, h_v3234, e_v3234⟩ := tk_inc v3056 1 (by decide) (by omega) (by omega)
                  refine lv_iinc (v := v3234) (lv' := [(8, .int v3234), (7, .int v3233), (6, .int v1), (5, .int v2), (4, .int v3), (0, .ref a0), (1, .int p1), (2, .int p2), (3, .int p3)]) hx hb dX5_worstOfBest_69 hl (k := 1) rfl e_v3234 (by decide) rfl (fun ls hl => ?_)
                  refine lv_goto (tgt := 33) hx hb dX5_worstOfBest_72 (by decide) ?_
                  exact ih_l3210 v3234 v3233 _ _ (by omega) (by omega) (by omega) (by omega) (by omega) (by omega) hG hS hf2870 _ (lv_sub hl [0, 1, 2, 3, 4, 5, 6, 7, 8] rfl)
          have hk_0 : (0 : Int32).toInt = 0 := by decide
          have hk_m1 : ((-1) : Int32).toInt = (-1) := by decide
          exact hl3210 11 0 (-1) _ _ (by omega) (by omega) (by omega) (by omega) (by omega) (by omega) hG hS hf2870 _ (lv_sub hl [0, 1, 2, 3, 4, 5, 6, 7, 8] rfl)
  have hk_0 : (0 : Int32).toInt = 0 := by decide
  have hk_m1 : ((-1) : Int32).toInt = (-1) := by decide
  have hk_2 : (2 : Int32).toInt = 2 := by decide
  exact hl2868 11 0 (-1) 2 _ _ (by omega) (by omega) (by omega) (by omega) (by omega) (by omega) hG hS _ (lv_sub hl [0, 1, 2, 3, 4, 5, 6] rfl)
theorem dX8_howLulls_0 : decode cX8_howLulls 0 = .ok (.aload_n 0, 1) := by decide +kernel
theorem dX8_howLulls_1 : decode cX8_howLulls 1 = .ok (.aload_n 1, 1) := by decide +kernel
theorem dX8_howLulls_2 : decode cX8_howLulls 2 = .ok (.iload_n 2, 1) := by decide +kernel
theorem dX8_howLulls_3 : decode cX8_howLulls 3 = .ok (.invokevirtual 22, 3) := by decide +kernel
theorem dX8_howLulls_6 : decode cX8_howLulls 6 = .ok (.aload_n 0, 1) := by decide +kernel
theorem dX8_howLulls_7 : decode cX8_howLulls 7 = .ok (.invokevirtual 26, 3) := by decide +kernel
theorem dX8_howLulls_10 : decode cX8_howLulls 10 = .ok (.ireturn, 1) := by decide +kernel
set_option maxHeartbeats 4000000 in
set_option maxRecDepth 100000 in
theorem k_X8_howLulls (l : Launch) (D : va_G) (cy : Nat → ClassId) (ld : Nat → Nat) (t : tk_T) (rg1 : Nat) (a0 : Nat) (a1 : Nat) (p2 : Int32) (g0 : Int32) (ht_a0 : t a0 = (9, 0, 0)) (ht_a1 : t a1 = (10, 0, rg1)) (hp_0 : 0 ≤ p2.toInt) (hp_1 : p2.toInt ≤ 9) (hp_2 : 0 ≤ g0.toInt) (hp_3 : g0.toInt ≤ 7) : Met l yX8_howLulls (wl yX8_howLulls cX8_howLulls 3 (some .int)) ({ frames := 6, cells := 0, slots := 0, locals := 350 }) (tp D cy ld t [] [.ref a0, .ref a1, .int p2] (fun H => tk_f D H a1 9 5 (.int g0))) (ti D cy ld t [] (fun r H => True) (tk_w t [(20, 0, 0), (12, 0, 0), (9, 0, 0)])) 0 0 (tk_w t [(20, 0, 0), (12, 0, 0), (9, 0, 0)]) := by
  refine tk_met (y := yX8_howLulls) (cc := cX8_howLulls) (maxL := 3) (ret := (some .int)) (av := [.ref a0, .ref a1, .int p2]) _ _ (by decide) (Nat.le_of_ble_eq_true rfl) ?_
  intro p e s m args below meth c hx hb hr hml hts htl hown hlocks hK H locs hH hG hS hB hZ ls hl
  have hown : s.vm.findClass RX8 = some m.cls := hown
  have hl : lv_has ls 3 [(0, .ref a0), (1, .ref a1), (2, .int p2)] := hl
  have hg_0 := hB
  have hr_p2 := tk_rng p2
  refine lv_aload_n hx hb dX8_howLulls_0 rfl (lv_at hl 0 rfl) ?_
  refine lv_aload_n hx hb dX8_howLulls_1 rfl (lv_at hl 1 rfl) ?_
  refine lv_iload_n hx hb dX8_howLulls_2 rfl (lv_at hl 2 rfl) ?_
  refine tk_Vv (As := [.ref a1, .int p2]) (rest := []) (ci := 8) ⟨hx, hb, hml, hown, hts⟩ hK hG hZ hS (k_X8_setWords l D cy ld t rg1 a0 a1 p2 g0 ht_a0 ht_a1 (by omega) (by omega) (by omega) (by omega)) hg_0 ⟨callB_of 2 hts (wl_in mw_913) rfl rfl rfl (htl _ mw_21) (htl _ mw_910) hd_yX8_setWords ⟨(Nat.le_of_ble_eq_true rfl), (Nat.le_of_ble_eq_true rfl)⟩, htl _ mw_911, htl _ mw_912⟩ ht_a0 (by decide) tk_no rfl (tk_w.pick [0] rfl) rfl hl.1 rfl (Nat.le_of_ble_eq_true rfl) dX8_howLulls_3 ⟨(Nat.le_of_ble_eq_true rfl), (Nat.le_of_ble_eq_true rfl)⟩ (fun H locs hpo hG hS hq9 => ?_)
  have hg_0 := hg_0.call hq9 (tk_w.no ht_a1 (by intro q hq h1 h2 h3; simp only [List.mem_cons, List.not_mem_nil, or_false] at hq; rcases hq with rfl <;> (dsimp only at h1 h2 h3; omega)))
  refine lv_aload_n hx hb dX8_howLulls_6 rfl (lv_at hl 0 rfl) ?_
  refine tk_Vi (As := []) (rest := []) (ci := 8) ⟨hx, hb, hml, hown, hts⟩ hK hG hZ hS (k_X8_lullByWords l D cy ld t a0 ht_a0) trivial ⟨callB_of 0 hts (wl_in mw_957) rfl rfl rfl (htl _ mw_21) (htl _ mw_954) hd_yX8_lullByWords ⟨(Nat.le_of_ble_eq_true rfl), (Nat.le_of_ble_eq_true rfl)⟩, htl _ mw_955, htl _ mw_956⟩ ht_a0 (by decide) tk_no rfl (tk_w.pick [1, 0, 2] rfl) rfl hl.1 rfl (Nat.le_of_ble_eq_true rfl) dX8_howLulls_7 ⟨(Nat.le_of_ble_eq_true rfl), (Nat.le_of_ble_eq_true rfl)⟩ (fun v2 H locs hpo hG hS hq9 => ?_)
  have hg_0 := hg_0.call hq9 (tk_w.no ht_a1 (by intro q hq h1 h2 h3; simp only [List.mem_cons, List.not_mem_nil, or_false] at hq; rcases hq with rfl | rfl | rfl <;> (dsimp only at h1 h2 h3; omega)))
  exact tk_iret (v := v2) hx hb hr rfl hlocks trivial hG hS dX8_howLulls_10
theorem dX5_strongestLull_0 : decode cX5_strongestLull 0 = .ok (.iconst (-1), 1) := by decide +kernel
theorem dX5_strongestLull_1 : decode cX5_strongestLull 1 = .ok (.istore_n 1, 1) := by decide +kernel
theorem dX5_strongestLull_2 : decode cX5_strongestLull 2 = .ok (.iconst (-1), 1) := by decide +kernel
theorem dX5_strongestLull_3 : decode cX5_strongestLull 3 = .ok (.istore_n 2, 1) := by decide +kernel
theorem dX5_strongestLull_4 : decode cX5_strongestLull 4 = .ok (.iconst 0, 1) := by decide +kernel
theorem dX5_strongestLull_5 : decode cX5_strongestLull 5 = .ok (.istore_n 3, 1) := by decide +kernel
theorem dX5_strongestLull_6 : decode cX5_strongestLull 6 = .ok (.iload_n 3, 1) := by decide +kernel
theorem dX5_strongestLull_7 : decode cX5_strongestLull 7 = .ok (.aload_n 0, 1) := by decide +kernel
theorem dX5_strongestLull_8 : decode cX5_strongestLull 8 = .ok (.getfield 34, 3) := by decide +kernel
theorem dX5_strongestLull_11 : decode cX5_strongestLull 11 = .ok (.getfield 79, 3) := by decide +kernel
theorem dX5_strongestLull_14 : decode cX5_strongestLull 14 = .ok (.if_icmp .ge 49, 3) := by decide +kernel
theorem dX5_strongestLull_63 : decode cX5_strongestLull 63 = .ok (.iload_n 1, 1) := by decide +kernel
theorem dX5_strongestLull_64 : decode cX5_strongestLull 64 = .ok (.ireturn, 1) := by decide +kernel
theorem dX5_strongestLull_17 : decode cX5_strongestLull 17 = .ok (.aload_n 0, 1) := by decide +kernel
theorem dX5_strongestLull_18 : decode cX5_strongestLull 18 = .ok (.getfield 38, 3) := by decide +kernel
theorem dX5_strongestLull_21 : decode cX5_strongestLull 21 = .ok (.aload_n 0, 1) := by decide +kernel
theorem dX5_strongestLull_22 : decode cX5_strongestLull 22 = .ok (.getfield 18, 3) := by decide +kernel
theorem dX5_strongestLull_25 : decode cX5_strongestLull 25 = .ok (.iload_n 3, 1) := by decide +kernel
theorem dX5_strongestLull_26 : decode cX5_strongestLull 26 = .ok (.invokevirtual 82, 3) := by decide +kernel
theorem dX5_strongestLull_57 : decode cX5_strongestLull 57 = .ok (.iinc 3 1, 3) := by decide +kernel
theorem dX5_strongestLull_60 : decode cX5_strongestLull 60 = .ok (.goto (-54), 3) := by decide +kernel
theorem dX5_strongestLull_29 : decode cX5_strongestLull 29 = .ok (.ifCond .ne 28, 3) := by decide +kernel
theorem dX5_strongestLull_32 : decode cX5_strongestLull 32 = .ok (.aload_n 0, 1) := by decide +kernel
theorem dX5_strongestLull_33 : decode cX5_strongestLull 33 = .ok (.getfield 38, 3) := by decide +kernel
theorem dX5_strongestLull_36 : decode cX5_strongestLull 36 = .ok (.aload_n 0, 1) := by decide +kernel
theorem dX5_strongestLull_37 : decode cX5_strongestLull 37 = .ok (.getfield 18, 3) := by decide +kernel
theorem dX5_strongestLull_40 : decode cX5_strongestLull 40 = .ok (.iload_n 3, 1) := by decide +kernel
theorem dX5_strongestLull_41 : decode cX5_strongestLull 41 = .ok (.invokevirtual 124, 3) := by decide +kernel
theorem dX5_strongestLull_44 : decode cX5_strongestLull 44 = .ok (.istore 4, 2) := by decide +kernel
theorem dX5_strongestLull_46 : decode cX5_strongestLull 46 = .ok (.iload 4, 2) := by decide +kernel
theorem dX5_strongestLull_48 : decode cX5_strongestLull 48 = .ok (.iload_n 2, 1) := by decide +kernel
theorem dX5_strongestLull_49 : decode cX5_strongestLull 49 = .ok (.if_icmp .le 8, 3) := by decide +kernel
theorem dX5_strongestLull_52 : decode cX5_strongestLull 52 = .ok (.iload 4, 2) := by decide +kernel
theorem dX5_strongestLull_54 : decode cX5_strongestLull 54 = .ok (.istore_n 2, 1) := by decide +kernel
theorem dX5_strongestLull_55 : decode cX5_strongestLull 55 = .ok (.iload_n 3, 1) := by decide +kernel
theorem dX5_strongestLull_56 : decode cX5_strongestLull 56 = .ok (.istore_n 1, 1) := by decide +kernel
set_option maxHeartbeats 4000000 in
set_option maxRecDepth 100000 in
theorem k_X5_strongestLull (l : Launch) (D : va_G) (cy : Nat → ClassId) (ld : Nat → Nat) (t : tk_T) (a0 : Nat) (g0 : Int32) (ht_a0 : t a0 = (6, 0, 0)) (ht_ld21 : t (ld 21) = (10, 0, 4)) (hp_0 : 0 ≤ g0.toInt) (hp_1 : g0.toInt ≤ 7) : Met l yX5_strongestLull (wl yX5_strongestLull cX5_strongestLull 5 (some .int)) ({ frames := 7, cells := 0, slots := 0, locals := 420 }) (tp D cy ld t [] [.ref a0] (fun H => tk_f D H (ld 21) 9 5 (.int g0))) (ti D cy ld t [] (fun r H => (-1) ≤ r.toInt ∧ r.toInt ≤ 9) (tk_w t [(20, 0, 0), (12, 0, 0), (9, 0, 0)])) 0 0 (tk_w t [(20, 0, 0), (12, 0, 0), (9, 0, 0)]) := by
  refine tk_met (y := yX5_strongestLull) (cc := cX5_strongestLull) (maxL := 5) (ret := (some .int)) (av := [.ref a0]) _ _ (by decide) (Nat.le_of_ble_eq_true rfl) ?_
  intro p e s m args below meth c hx hb hr hml hts htl hown hlocks hK H locs hH hG hS hB hZ ls hl
  have hown : s.vm.findClass RX5 = some m.cls := hown
  have hl : lv_has ls 5 [(0, .ref a0)] := hl
  have hg_0 := hB
  refine lv_iconst (v := (-1)) hx hb dX5_strongestLull_0 (by decide) ?_
  refine lv_istore_n (lv' := [(1, .int (-1)), (0, .ref a0)]) hx hb dX5_strongestLull_1 rfl hl (by decide) rfl (fun ls hl => ?_)
  refine lv_iconst (v := (-1)) hx hb dX5_strongestLull_2 (by decide) ?_
  refine lv_istore_n (lv' := [(2, .int (-1)), (1, .int (-1)), (0, .ref a0)]) hx hb dX5_strongestLull_3 rfl hl (by decide) rfl (fun ls hl => ?_)
  refine lv_iconst (v := 0) hx hb dX5_strongestLull_4 (by decide) ?_
  refine lv_istore_n (lv' := [(3, .int 0), (2, .int (-1)), (1, .int (-1)), (0, .ref a0)]) hx hb dX5_strongestLull_5 rfl hl (by decide) rfl (fun ls hl => ?_)
  have hl517 : ∀ (N_l517 : Nat) (v1 : Int32) (v2 : Int32) (v3 : Int32) (H : Heap) (locs : List Loc), v1.toInt ≤ 10 → (-1) ≤ v2.toInt → (-1) ≤ v3.toInt → 0 ≤ v1.toInt + (-1) * v3.toInt + (-1) → (-1) * v1.toInt + 10 < (N_l517 : Int) → tk_G D cy ld t [] H → va_S (tk_w t [(20, 0, 0), (12, 0, 0), (9, 0, 0)]) s.heap H locs → tk_f D H (ld 21) 9 5 (.int g0) → ∀ ls : Array Slot, lv_has ls 5 [(3, .int v1), (2, .int v2), (1, .int v3), (0, .ref a0)] → W p l e ({ frames := 7, cells := 0, slots := 0, locals := 420 }) s m args below meth c H locs 0 0 (MQ below (ti D cy ld t [] (fun r H => (-1) ≤ r.toInt ∧ r.toInt ≤ 9) (tk_w t [(20, 0, 0), (12, 0, 0), (9, 0, 0)])) args s 0 0 (tk_w t [(20, 0, 0), (12, 0, 0), (9, 0, 0)])) (F0 m 6 ls []) := by
    intro N_l517
    induction N_l517 with
    | zero => intro v1 v2 v3 H locs hq0_l517 hq1_l517 hq2_l517 hq3_l517 hm_l517 hG hS hg_0 ls hl; exfalso; omega
    | succ N_l517 ih_l517 =>
      intro v1 v2 v3 H locs hq0_l517 hq1_l517 hq2_l517 hq3_l517 hm_l517 hG hS hg_0 ls hl
      refine lv_iload_n hx hb dX5_strongestLull_6 rfl (lv_at hl 0 rfl) ?_
      refine lv_aload_n hx hb dX5_strongestLull_7 rfl (lv_at hl 3 rfl) ?_
      refine tk_get (ci := 5) (C := RX5) (T := TX5) (N := 11) (sp := (8, 20, 3, 0)) hx hb htl inX5 hown hK hG ht_a0 (by decide) tk_no rfl 0 (by decide) (htl _ mw_155) (fun _ h9 => h9) rfl dX5_strongestLull_8 (fun v9 hf518 hV9 => ?_)
      obtain ⟨rfl, ht_ld20⟩ := hV9
      have ht_ld20 : t (ld 20) = (3, 0, 0) := ht_ld20
      refine fx_top (v := .ref (ld 20)) rfl ?_
      refine tk_get (ci := 2) (C := RX2) (T := TX2) (N := 20) (sp := (0, 0, 10, 0)) hx hb htl inX2 hown hK hG ht_ld20 (by decide) tk_no rfl 4 (by decide) (htl _ mw_1297) (fun _ h9 => h9) rfl dX5_strongestLull_11 (fun v9 hf519 hV9 => ?_)
      obtain ⟨v520, rfl, (ha_v520 : 0 ≤ v520.toInt), (hb_v520 : v520.toInt ≤ 10)⟩ := hV9
      refine lv_icmp_ge (tgt := 63) hx hb dX5_strongestLull_14 (by decide) (fun c9 => ?_) (fun c9 => ?_)
      · have hc521 : v520.toInt ≤ v1.toInt := (fi_le rfl rfl).mp c9
        refine lv_iload_n hx hb dX5_strongestLull_63 rfl (lv_at hl 2 rfl) ?_
        exact tk_iret (v := v3) hx hb hr rfl hlocks (show (-1) ≤ v3.toInt ∧ v3.toInt ≤ 9 from ⟨(by omega), (by omega)⟩) hG hS dX5_strongestLull_64
      · have hc521 : ¬ (v520.toInt ≤ v1.toInt) := fun h9 => c9 ((fi_le rfl rfl).mpr h9)
        refine lv_aload_n hx hb dX5_strongestLull_17 rfl (lv_at hl 3 rfl) ?_
        refine tk_get (ci := 5) (C := RX5) (T := TX5) (N := 11) (sp := (6, 9, 0, 0)) hx hb htl inX5 hown hK hG ht_a0 (by decide) tk_no rfl 1 (by decide) (htl _ mw_156) (fun _ h9 => h9) rfl dX5_strongestLull_18 (fun v9 hf552 hV9 => ?_)
        obtain ⟨b553, rfl, ht_b553⟩ := hV9
        have ht_b553 : t b553 = (9, 0, 0) := ht_b553
        refine lv_aload_n hx hb dX5_strongestLull_21 rfl (lv_at hl 3 rfl) ?_
        refine tk_get (ci := 5) (C := RX5) (T := TX5) (N := 11) (sp := (8, 21, 10, 4)) hx hb htl inX5 hown hK hG ht_a0 (by decide) tk_no rfl 5 (by decide) (htl _ mw_150) (fun _ h9 => h9) rfl dX5_strongestLull_22 (fun v9 hf554 hV9 => ?_)
        obtain ⟨rfl, ht_ld21⟩ := hV9
        have ht_ld21 : t (ld 21) = (10, 0, 4) := ht_ld21
        refine fx_top (v := .ref (ld 21)) rfl ?_
        refine lv_iload_n hx hb dX5_strongestLull_25 rfl (lv_at hl 0 rfl) ?_
        refine tk_Vi (As := [.ref (ld 21), .int v1]) (rest := []) (ci := 8) ⟨hx, hb, hml, hown, hts⟩ hK hG hZ hS (k_X8_isBarred l D cy ld t 4 b553 (ld 21) v1 g0 ht_b553 ht_ld21 (by omega) (by omega) (by omega) (by omega)) hg_0 ⟨callB_of 2 hts (wl_in mw_901) rfl rfl rfl (htl _ mw_21) (htl _ mw_1300) hd_yX8_isBarred ⟨(Nat.le_of_ble_eq_true rfl), (Nat.le_of_ble_eq_true rfl)⟩, htl _ mw_899, htl _ mw_900⟩ ht_b553 (by decide) tk_no rfl (tk_w.pick [0, 1, 2] rfl) rfl hl.1 rfl (Nat.le_of_ble_eq_true rfl) dX5_strongestLull_26 ⟨(Nat.le_of_ble_eq_true rfl), (Nat.le_of_ble_eq_true rfl)⟩ (fun v555 H locs hpo hG hS hq9 => ?_)
        have hg_0 := hg_0.call hq9 (tk_w.no ht_ld21 (by decide))
        have hf519 := hf519.call hq9 (tk_w.no ht_ld20 (by decide))
        obtain ⟨hpo557, hpo558, hpo559, hpo560⟩ := hpo
        have hj574 : ∀ (v571 : Int32) (v572 : Int32) (H : Heap) (locs : List Loc), 0 ≤ (-1) * v2.toInt + v571.toInt → 0 ≤ v1.toInt + (-1) * v572.toInt → 0 ≤ (-1) * v3.toInt + v572.toInt → tk_G D cy ld t [] H → va_S (tk_w t [(20, 0, 0), (12, 0, 0), (9, 0, 0)]) s.heap H locs → tk_f D H (ld 21) 9 5 (.int g0) → tk_f D H (ld 20) 2 4 (.int v520) → ∀ ls : Array Slot, lv_has ls 5 [(3, .int v1), (2, .int v571), (1, .int v572), (0, .ref a0)] → W p l e ({ frames := 7, cells := 0, slots := 0, locals := 420 }) s m args below meth c H locs 0 0 (MQ below (ti D cy ld t [] (fun r H => (-1) ≤ r.toInt ∧ r.toInt ≤ 9) (tk_w t [(20, 0, 0), (12, 0, 0), (9, 0, 0)])) args s 0 0 (tk_w t [(20, 0, 0), (12, 0, 0), (9, 0, 0)])) (F0 m 57 ls []) := by
          intro v571 v572 H locs hq0_j574 hq1_j574 hq2_j574 hG hS hg_0 hf519 ls hl
          obtain ⟨v575, h_v575, e_v575⟩ := tk_inc v1 1 (by decide) (by omega) (by omega)
          refine lv_iinc (v := v575) (lv' := [(3, .int v575), (2, .int v571), (1, .int v572), (0, .ref a0)]) hx hb dX5_strongestLull_57 hl (k := 0) rfl e_v575 (by decide) rfl (fun ls hl => ?_)
          refine lv_goto (tgt := 6) hx hb dX5_strongestLull_60 (by decide) ?_
          exact ih_l517 v575 v571 v572 _ _ (by omega) (by omega) (by omega) (by omega) (by omega) hG hS hg_0 _ (lv_sub hl [0, 1, 2, 3] rfl)
        refine lv_if_ne (tgt := 57) hx hb dX5_strongestLull_29 (by decide) (fun c9 => ?_) (fun c9 => ?_)
        · have hc561 : ¬ (v555.toInt = 0) := fun h9 => c9 ((fi_eq rfl (show (0 : Int32).toInt = 0 by decide)).mpr h9)
          exact hj574 v2 v3 _ _ (by omega) (by omega) (by omega) hG hS hg_0 hf519 _ (lv_sub hl [0, 1, 2, 3] rfl)
        · have hc561 : v555.toInt = 0 := (fi_eq rfl (show (0 : Int32).toInt = 0 by decide)).mp c9
          refine lv_aload_n hx hb dX5_strongestLull_32 rfl (lv_at hl 3 rfl) ?_
          refine tk_get (ci := 5) (C := RX5) (T := TX5) (N := 11) (sp := (6, 9, 0, 0)) hx hb htl inX5 hown hK hG ht_a0 (by decide) tk_no rfl 1 (by decide) (htl _ mw_156) (fun _ h9 => h9) rfl dX5_strongestLull_33 (fun v9 hf576 hV9 => ?_)
          obtain ⟨b577, rfl, ht_b577⟩ := hV9
          have ht_b577 : t b577 = (9, 0, 0) := ht_b577
          refine lv_aload_n hx hb dX5_strongestLull_36 rfl (lv_at hl 3 rfl) ?_
          refine tk_get (ci := 5) (C := RX5) (T := TX5) (N := 11) (sp := (8, 21, 10, 4)) hx hb htl inX5 hown hK hG ht_a0 (by decide) tk_no rfl 5 (by decide) (htl _ mw_150) (fun _ h9 => h9) rfl dX5_strongestLull_37 (fun v9 hf578 hV9 => ?_)
          obtain ⟨rfl, ht_ld21⟩ := hV9
          have ht_ld21 : t (ld 21) = (10, 0, 4) := ht_ld21
          refine fx_top (v := .ref (ld 21)) rfl ?_
          refine lv_iload_n hx hb dX5_strongestLull_40 rfl (lv_at hl 0 rfl) ?_
          refine tk_Vi (As := [.ref (ld 21), .int v1]) (rest := []) (ci := 8) ⟨hx, hb, hml, hown, hts⟩ hK hG hZ hS (k_X8_howLulls l D cy ld t 4 b577 (ld 21) v1 g0 ht_b577 ht_ld21 (by omega) (by omega) (by omega) (by omega)) hg_0 ⟨callB_of 2 hts (wl_in mw_1196) rfl rfl rfl (htl _ mw_21) (htl _ mw_1402) hd_yX8_howLulls ⟨(Nat.le_of_ble_eq_true rfl), (Nat.le_of_ble_eq_true rfl)⟩, htl _ mw_1194, htl _ mw_1195⟩ ht_b577 (by decide) tk_no rfl (tk_w.pick [0, 1, 2] rfl) rfl hl.1 rfl (Nat.le_of_ble_eq_true rfl) dX5_strongestLull_41 ⟨(Nat.le_of_ble_eq_true rfl), (Nat.le_of_ble_eq_true rfl)⟩ (fun v579 H locs hpo hG hS hq9 => ?_)
          have hg_0 := hg_0.call hq9 (tk_w.no ht_ld21 (by decide))
          have hf519 := hf519.call hq9 (tk_w.no ht_ld20 (by decide))
          refine lv_istore (lv' := [(4, .int v579), (3, .int v1), (2, .int v2), (1, .int v3), (0, .ref a0)]) hx hb dX5_strongestLull_44 hl (by decide) rfl (fun ls hl => ?_)
          refine lv_iload hx hb dX5_strongestLull_46 (lv_at hl 0 rfl) ?_
          refine lv_iload_n hx hb dX5_strongestLull_48 rfl (lv_at hl 2 rfl) ?_
          refine lv_icmp_le (tgt := 57) hx hb dX5_strongestLull_49 (by decide) (fun c9 => ?_) (fun c9 => ?_)
          · have hc581 : v579.toInt ≤ v2.toInt := (fi_le rfl rfl).mp c9
            exact hj574 v2 v3 _ _ (by omega) (by omega) (by omega) hG hS hg_0 hf519 _ (lv_sub hl [1, 2, 3, 4] rfl)
          · have hc581 : ¬ (v579.toInt ≤ v2.toInt) := fun h9 => c9 ((fi_le rfl rfl).mpr h9)
            refine lv_iload hx hb dX5_strongestLull_52 (lv_at hl 0 rfl) ?_
            refine lv_istore_n (lv' := [(2, .int v579), (4, .int v579), (3, .int v1), (1, .int v3), (0, .ref a0)]) hx hb dX5_strongestLull_54 rfl hl (by decide) rfl (fun ls hl => ?_)
            refine lv_iload_n hx hb dX5_strongestLull_55 rfl (lv_at hl 2 rfl) ?_
            refine lv_istore_n (lv' := [(1, .int v1), (2, .int v579), (4, .int v579), (3, .int v1), (0, .ref a0)]) hx hb dX5_strongestLull_56 rfl hl (by decide) rfl (fun ls hl => ?_)
            exact hj574 v579 v1 _ _ (by omega) (by omega) (by omega) hG hS hg_0 hf519 _ (lv_sub hl [3, 1, 0, 4] rfl)
  have hk_0 : (0 : Int32).toInt = 0 := by decide
  have hk_m1 : ((-1) : Int32).toInt = (-1) := by decide
  have hk_m1 : ((-1) : Int32).toInt = (-1) := by decide
  exact hl517 11 0 (-1) (-1) _ _ (by omega) (by omega) (by omega) (by omega) (by omega) hG hS hg_0 _ (lv_sub hl [0, 1, 2, 3] rfl)
