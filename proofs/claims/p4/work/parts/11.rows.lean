theorem dX5_resultByRule_0 : decode cX5_resultByRule 0 = .ok (.aload_n 0, 1) := by decide +kernel
theorem dX5_resultByRule_1 : decode cX5_resultByRule 1 = .ok (.iload_n 1, 1) := by decide +kernel
theorem dX5_resultByRule_2 : decode cX5_resultByRule 2 = .ok (.iload_n 2, 1) := by decide +kernel
theorem dX5_resultByRule_3 : decode cX5_resultByRule 3 = .ok (.invokevirtual 110, 3) := by decide +kernel
theorem dX5_resultByRule_6 : decode cX5_resultByRule 6 = .ok (.ifCond .ne 10, 3) := by decide +kernel
theorem dX5_resultByRule_16 : decode cX5_resultByRule 16 = .ok (.iconst 0, 1) := by decide +kernel
theorem dX5_resultByRule_17 : decode cX5_resultByRule 17 = .ok (.istore_n 3, 1) := by decide +kernel
theorem dX5_resultByRule_18 : decode cX5_resultByRule 18 = .ok (.iload_n 3, 1) := by decide +kernel
theorem dX5_resultByRule_19 : decode cX5_resultByRule 19 = .ok (.bipush 24, 2) := by decide +kernel
theorem dX5_resultByRule_21 : decode cX5_resultByRule 21 = .ok (.if_icmp .ge 69, 3) := by decide +kernel
theorem dX5_resultByRule_90 : decode cX5_resultByRule 90 = .ok (.iconst 0, 1) := by decide +kernel
theorem dX5_resultByRule_91 : decode cX5_resultByRule 91 = .ok (.ireturn, 1) := by decide +kernel
theorem dX5_resultByRule_24 : decode cX5_resultByRule 24 = .ok (.aload_n 0, 1) := by decide +kernel
theorem dX5_resultByRule_25 : decode cX5_resultByRule 25 = .ok (.getfield 18, 3) := by decide +kernel
theorem dX5_resultByRule_28 : decode cX5_resultByRule 28 = .ok (.invokevirtual 75, 3) := by decide +kernel
theorem dX5_resultByRule_31 : decode cX5_resultByRule 31 = .ok (.ifCond .eq 59, 3) := by decide +kernel
theorem dX5_resultByRule_34 : decode cX5_resultByRule 34 = .ok (.aload_n 0, 1) := by decide +kernel
theorem dX5_resultByRule_35 : decode cX5_resultByRule 35 = .ok (.getfield 18, 3) := by decide +kernel
theorem dX5_resultByRule_38 : decode cX5_resultByRule 38 = .ok (.getfield 117, 3) := by decide +kernel
theorem dX5_resultByRule_41 : decode cX5_resultByRule 41 = .ok (.istore 4, 2) := by decide +kernel
theorem dX5_resultByRule_43 : decode cX5_resultByRule 43 = .ok (.aload_n 0, 1) := by decide +kernel
theorem dX5_resultByRule_44 : decode cX5_resultByRule 44 = .ok (.invokevirtual 121, 3) := by decide +kernel
theorem dX5_resultByRule_47 : decode cX5_resultByRule 47 = .ok (.istore 5, 2) := by decide +kernel
theorem dX5_resultByRule_49 : decode cX5_resultByRule 49 = .ok (.iload 5, 2) := by decide +kernel
theorem dX5_resultByRule_51 : decode cX5_resultByRule 51 = .ok (.iconst (-1), 1) := by decide +kernel
theorem dX5_resultByRule_52 : decode cX5_resultByRule 52 = .ok (.if_icmp .ne 5, 3) := by decide +kernel
theorem dX5_resultByRule_57 : decode cX5_resultByRule 57 = .ok (.aload_n 0, 1) := by decide +kernel
theorem dX5_resultByRule_58 : decode cX5_resultByRule 58 = .ok (.getfield 38, 3) := by decide +kernel
theorem dX5_resultByRule_61 : decode cX5_resultByRule 61 = .ok (.aload_n 0, 1) := by decide +kernel
theorem dX5_resultByRule_62 : decode cX5_resultByRule 62 = .ok (.getfield 18, 3) := by decide +kernel
theorem dX5_resultByRule_65 : decode cX5_resultByRule 65 = .ok (.iload 5, 2) := by decide +kernel
theorem dX5_resultByRule_67 : decode cX5_resultByRule 67 = .ok (.invokevirtual 92, 3) := by decide +kernel
theorem dX5_resultByRule_70 : decode cX5_resultByRule 70 = .ok (.ifCond .ne 14, 3) := by decide +kernel
theorem dX5_resultByRule_84 : decode cX5_resultByRule 84 = .ok (.iinc 3 1, 3) := by decide +kernel
theorem dX5_resultByRule_87 : decode cX5_resultByRule 87 = .ok (.goto (-69), 3) := by decide +kernel
theorem dX5_resultByRule_73 : decode cX5_resultByRule 73 = .ok (.iload 4, 2) := by decide +kernel
theorem dX5_resultByRule_75 : decode cX5_resultByRule 75 = .ok (.ifCond .eq 7, 3) := by decide +kernel
theorem dX5_resultByRule_82 : decode cX5_resultByRule 82 = .ok (.iconst 1, 1) := by decide +kernel
theorem dX5_resultByRule_83 : decode cX5_resultByRule 83 = .ok (.ireturn, 1) := by decide +kernel
theorem dX5_resultByRule_78 : decode cX5_resultByRule 78 = .ok (.iconst (-1), 1) := by decide +kernel
theorem dX5_resultByRule_79 : decode cX5_resultByRule 79 = .ok (.goto 4, 3) := by decide +kernel
theorem dX5_resultByRule_55 : decode cX5_resultByRule 55 = .ok (.iconst 0, 1) := by decide +kernel
theorem dX5_resultByRule_56 : decode cX5_resultByRule 56 = .ok (.ireturn, 1) := by decide +kernel
theorem dX5_resultByRule_9 : decode cX5_resultByRule 9 = .ok (.aload_n 0, 1) := by decide +kernel
theorem dX5_resultByRule_10 : decode cX5_resultByRule 10 = .ok (.iload_n 1, 1) := by decide +kernel
theorem dX5_resultByRule_11 : decode cX5_resultByRule 11 = .ok (.iload_n 2, 1) := by decide +kernel
theorem dX5_resultByRule_12 : decode cX5_resultByRule 12 = .ok (.invokevirtual 114, 3) := by decide +kernel
theorem dX5_resultByRule_15 : decode cX5_resultByRule 15 = .ok (.ireturn, 1) := by decide +kernel
set_option maxHeartbeats 4000000 in
set_option maxRecDepth 100000 in
theorem k_X5_resultByRule (l : Launch) (D : va_G) (cy : Nat → ClassId) (ld : Nat → Nat) (t : tk_T) (a0 : Nat) (p1 : Int32) (p2 : Int32) (ht_a0 : t a0 = (6, 0, 0)) (hp_0 : 0 ≤ p1.toInt) (hp_1 : p1.toInt ≤ 7) (hp_2 : 0 ≤ p2.toInt) (hp_3 : p2.toInt ≤ 7) : Met l yX5_resultByRule (wl yX5_resultByRule cX5_resultByRule 6 (some .int)) ({ frames := 8, cells := 0, slots := 0, locals := 490 }) (tp D cy ld t [] [.ref a0, .int p1, .int p2] (fun H => True)) (ti D cy ld t [] (fun r H => (-1) ≤ r.toInt ∧ r.toInt ≤ 1) (tk_w t [(20, 4, 4), (10, 4, 4), (20, 0, 0), (12, 0, 0), (9, 0, 0)])) 0 0 (tk_w t [(20, 4, 4), (10, 4, 4), (20, 0, 0), (12, 0, 0), (9, 0, 0)]) := by
  refine tk_met (y := yX5_resultByRule) (cc := cX5_resultByRule) (maxL := 6) (ret := (some .int)) (av := [.ref a0, .int p1, .int p2]) _ _ (by decide) (Nat.le_of_ble_eq_true rfl) ?_
  intro p e s m args below meth c hx hb hr hml hts htl hown hlocks hK H locs hH hG hS hB hZ ls hl
  have hown : s.vm.findClass RX5 = some m.cls := hown
  have hl : lv_has ls 6 [(0, .ref a0), (1, .int p1), (2, .int p2)] := hl
  have hr_p1 := tk_rng p1
  have hr_p2 := tk_rng p2
  refine lv_aload_n hx hb dX5_resultByRule_0 rfl (lv_at hl 0 rfl) ?_
  refine lv_iload_n hx hb dX5_resultByRule_1 rfl (lv_at hl 1 rfl) ?_
  refine lv_iload_n hx hb dX5_resultByRule_2 rfl (lv_at hl 2 rfl) ?_
  refine tk_Vi (As := [.int p1, .int p2]) (rest := []) (ci := 5) ⟨hx, hb, hml, hown, hts⟩ hK hG hZ hS (k_X5_openBout l D cy ld t a0 p1 p2 ht_a0 (by omega) (by omega) (by omega) (by omega)) trivial ⟨callB_of 2 hts (wl_in mw_1346) rfl rfl rfl (htl _ mw_40) (htl _ mw_1343) hd_yX5_openBout ⟨(Nat.le_of_ble_eq_true rfl), (Nat.le_of_ble_eq_true rfl)⟩, htl _ mw_1344, htl _ mw_1345⟩ ht_a0 (by decide) tk_no rfl (tk_w.pick [0, 1] rfl) rfl hl.1 rfl (Nat.le_of_ble_eq_true rfl) dX5_resultByRule_3 ⟨(Nat.le_of_ble_eq_true rfl), (Nat.le_of_ble_eq_true rfl)⟩ (fun v1 H locs hpo hG hS hq9 => ?_)
  obtain ⟨hpo3, hpo4, hpo5, hpo6⟩ := hpo
  refine lv_if_ne (tgt := 16) hx hb dX5_resultByRule_6 (by decide) (fun c9 => ?_) (fun c9 => ?_)
  · have hc7 : ¬ (v1.toInt = 0) := fun h9 => c9 ((fi_eq rfl (show (0 : Int32).toInt = 0 by decide)).mpr h9)
    refine lv_iconst (v := 0) hx hb dX5_resultByRule_16 (by decide) ?_
    refine lv_istore_n (lv' := [(3, .int 0), (0, .ref a0), (1, .int p1), (2, .int p2)]) hx hb dX5_resultByRule_17 rfl hl (by decide) rfl (fun ls hl => ?_)
    have hl205 : ∀ (N_l205 : Nat) (v8 : Int32) (H : Heap) (locs : List Loc), v8.toInt ≤ 24 → 0 ≤ v8.toInt → (-1) * v8.toInt + 24 < (N_l205 : Int) → tk_G D cy ld t [] H → va_S (tk_w t [(20, 4, 4), (10, 4, 4), (20, 0, 0), (12, 0, 0), (9, 0, 0)]) s.heap H locs → ∀ ls : Array Slot, lv_has ls 6 [(3, .int v8), (0, .ref a0)] → W p l e ({ frames := 8, cells := 0, slots := 0, locals := 490 }) s m args below meth c H locs 0 0 (MQ below (ti D cy ld t [] (fun r H => (-1) ≤ r.toInt ∧ r.toInt ≤ 1) (tk_w t [(20, 4, 4), (10, 4, 4), (20, 0, 0), (12, 0, 0), (9, 0, 0)])) args s 0 0 (tk_w t [(20, 4, 4), (10, 4, 4), (20, 0, 0), (12, 0, 0), (9, 0, 0)])) (F0 m 18 ls []) := by
      intro N_l205
      induction N_l205 with
      | zero => intro v8 H locs hq0_l205 hq1_l205 hm_l205 hG hS ls hl; exfalso; omega
      | succ N_l205 ih_l205 =>
        intro v8 H locs hq0_l205 hq1_l205 hm_l205 hG hS ls hl
        refine lv_iload_n hx hb dX5_resultByRule_18 rfl (lv_at hl 0 rfl) ?_
        refine lv_bipush (v := 24) hx hb dX5_resultByRule_19 (by decide) ?_
        refine lv_icmp_ge (tgt := 90) hx hb dX5_resultByRule_21 (by decide) (fun c9 => ?_) (fun c9 => ?_)
        · have hc206 : 24 ≤ v8.toInt := (fi_le (show (24 : Int32).toInt = 24 by decide) rfl).mp c9
          refine lv_iconst (v := 0) hx hb dX5_resultByRule_90 (by decide) ?_
          have hk_0 : (0 : Int32).toInt = 0 := by decide
          exact tk_iret (v := 0) hx hb hr rfl hlocks (show (-1) ≤ (0 : Int32).toInt ∧ (0 : Int32).toInt ≤ 1 from ⟨(by omega), (by omega)⟩) hG hS dX5_resultByRule_91
        · have hc206 : ¬ (24 ≤ v8.toInt) := fun h9 => c9 ((fi_le (show (24 : Int32).toInt = 24 by decide) rfl).mpr h9)
          refine lv_aload_n hx hb dX5_resultByRule_24 rfl (lv_at hl 1 rfl) ?_
          refine tk_get (ci := 5) (C := RX5) (T := TX5) (N := 11) (sp := (8, 21, 10, 4)) hx hb htl inX5 hown hK hG ht_a0 (by decide) tk_no rfl 5 (by decide) (htl _ mw_150) (fun _ h9 => h9) rfl dX5_resultByRule_25 (fun v9 hf207 hV9 => ?_)
          obtain ⟨rfl, ht_ld21⟩ := hV9
          have ht_ld21 : t (ld 21) = (10, 0, 4) := ht_ld21
          refine fx_top (v := .ref (ld 21)) rfl ?_
          obtain ⟨v9, hf208, hV9⟩ := tk_peek (ci := 9) (C := RX9) (T := TX9) (N := 11) (sp := (0, (-1), 7, 0)) hG ht_ld21 (by decide) tk_no rfl 5 (by decide) rfl
          obtain ⟨v209, rfl, (ha_v209 : (-1) ≤ v209.toInt), (hb_v209 : v209.toInt ≤ 7)⟩ := hV9
          refine tk_Vi (As := []) (rest := []) (ci := 9) ⟨hx, hb, hml, hown, hts⟩ hK hG hZ hS (k_X9_isDuel l D cy ld t 4 (ld 21) v209 ht_ld21 (by omega) (by omega)) hf208 ⟨callB_of 0 hts (wl_in mw_840) rfl rfl rfl (htl _ mw_76) (htl _ mw_1299) hd_yX9_isDuel ⟨(Nat.le_of_ble_eq_true rfl), (Nat.le_of_ble_eq_true rfl)⟩, htl _ mw_838, htl _ mw_839⟩ ht_ld21 (by decide) tk_no rfl (tk_w.pick [] rfl) rfl hl.1 rfl (Nat.le_of_ble_eq_true rfl) dX5_resultByRule_28 ⟨(Nat.le_of_ble_eq_true rfl), (Nat.le_of_ble_eq_true rfl)⟩ (fun v210 H locs hpo hG hS hq9 => ?_)
          have hf208 := hf208.call hq9 tk_w.nil
          obtain ⟨hpo212, hpo213, hpo214, hpo215, hpo216⟩ := hpo
          refine lv_if_eq (tgt := 90) hx hb dX5_resultByRule_31 (by decide) (fun c9 => ?_) (fun c9 => ?_)
          · have hc217 : v210.toInt = 0 := (fi_eq rfl (show (0 : Int32).toInt = 0 by decide)).mp c9
            refine lv_iconst (v := 0) hx hb dX5_resultByRule_90 (by decide) ?_
            have hk_0 : (0 : Int32).toInt = 0 := by decide
            exact tk_iret (v := 0) hx hb hr rfl hlocks (show (-1) ≤ (0 : Int32).toInt ∧ (0 : Int32).toInt ≤ 1 from ⟨(by omega), (by omega)⟩) hG hS dX5_resultByRule_91
          · have hc217 : ¬ (v210.toInt = 0) := fun h9 => c9 ((fi_eq rfl (show (0 : Int32).toInt = 0 by decide)).mpr h9)
            refine lv_aload_n hx hb dX5_resultByRule_34 rfl (lv_at hl 1 rfl) ?_
            refine tk_get (ci := 5) (C := RX5) (T := TX5) (N := 11) (sp := (8, 21, 10, 4)) hx hb htl inX5 hown hK hG ht_a0 (by decide) tk_no rfl 5 (by decide) (htl _ mw_150) (fun _ h9 => h9) rfl dX5_resultByRule_35 (fun v9 hf218 hV9 => ?_)
            obtain ⟨rfl, ht_ld21⟩ := hV9
            have ht_ld21 : t (ld 21) = (10, 0, 4) := ht_ld21
            refine fx_top (v := .ref (ld 21)) rfl ?_
            refine tk_get (ci := 9) (C := RX9) (T := TX9) (N := 11) (sp := (0, 0, 1, 0)) hx hb htl inX9 hown hK hG ht_ld21 (by decide) tk_no rfl 9 (by decide) (htl _ mw_1342) (fun _ h9 => h9) rfl dX5_resultByRule_38 (fun v9 hf219 hV9 => ?_)
            obtain ⟨v220, rfl, (ha_v220 : 0 ≤ v220.toInt), (hb_v220 : v220.toInt ≤ 1)⟩ := hV9
            refine lv_istore (lv' := [(4, .int v220), (3, .int v8), (0, .ref a0)]) hx hb dX5_resultByRule_41 hl (by decide) rfl (fun ls hl => ?_)
            refine lv_aload_n hx hb dX5_resultByRule_43 rfl (lv_at hl 2 rfl) ?_
            refine tk_Vi (As := []) (rest := []) (ci := 5) ⟨hx, hb, hml, hown, hts⟩ hK hG hZ hS (k_X5_strongestLull l D cy ld t a0 v209 ht_a0 ht_ld21 (by omega) (by omega)) hf208 ⟨callB_of 0 hts (wl_in mw_1401) rfl rfl rfl (htl _ mw_40) (htl _ mw_1398) hd_yX5_strongestLull ⟨(Nat.le_of_ble_eq_true rfl), (Nat.le_of_ble_eq_true rfl)⟩, htl _ mw_1399, htl _ mw_1400⟩ ht_a0 (by decide) tk_no rfl (tk_w.pick [2, 3, 4] rfl) rfl hl.1 rfl (Nat.le_of_ble_eq_true rfl) dX5_resultByRule_44 ⟨(Nat.le_of_ble_eq_true rfl), (Nat.le_of_ble_eq_true rfl)⟩ (fun v221 H locs hpo hG hS hq9 => ?_)
            have hf208 := hf208.call hq9 (tk_w.no ht_ld21 (by decide))
            obtain ⟨hpo223, hpo224⟩ := hpo
            refine lv_istore (lv' := [(5, .int v221), (4, .int v220), (3, .int v8), (0, .ref a0)]) hx hb dX5_resultByRule_47 hl (by decide) rfl (fun ls hl => ?_)
            refine lv_iload hx hb dX5_resultByRule_49 (lv_at hl 0 rfl) ?_
            refine lv_iconst (v := (-1)) hx hb dX5_resultByRule_51 (by decide) ?_
            refine lv_icmp_ne (tgt := 57) hx hb dX5_resultByRule_52 (by decide) (fun c9 => ?_) (fun c9 => ?_)
            · have hc225 : ¬ (v221.toInt = (-1)) := fun h9 => c9 ((fi_eq rfl (show ((-1) : Int32).toInt = (-1) by decide)).mpr h9)
              refine lv_aload_n hx hb dX5_resultByRule_57 rfl (lv_at hl 3 rfl) ?_
              refine tk_get (ci := 5) (C := RX5) (T := TX5) (N := 11) (sp := (6, 9, 0, 0)) hx hb htl inX5 hown hK hG ht_a0 (by decide) tk_no rfl 1 (by decide) (htl _ mw_156) (fun _ h9 => h9) rfl dX5_resultByRule_58 (fun v9 hf226 hV9 => ?_)
              obtain ⟨b227, rfl, ht_b227⟩ := hV9
              have ht_b227 : t b227 = (9, 0, 0) := ht_b227
              refine lv_aload_n hx hb dX5_resultByRule_61 rfl (lv_at hl 3 rfl) ?_
              refine tk_get (ci := 5) (C := RX5) (T := TX5) (N := 11) (sp := (8, 21, 10, 4)) hx hb htl inX5 hown hK hG ht_a0 (by decide) tk_no rfl 5 (by decide) (htl _ mw_150) (fun _ h9 => h9) rfl dX5_resultByRule_62 (fun v9 hf228 hV9 => ?_)
              obtain ⟨rfl, ht_ld21⟩ := hV9
              have ht_ld21 : t (ld 21) = (10, 0, 4) := ht_ld21
              refine fx_top (v := .ref (ld 21)) rfl ?_
              refine lv_iload hx hb dX5_resultByRule_65 (lv_at hl 0 rfl) ?_
              refine tk_Vi (As := [.ref (ld 21), .int v221]) (rest := []) (ci := 8) ⟨hx, hb, hml, hown, hts⟩ hK hG hZ hS (k_X8_singOn l D cy ld t 4 b227 (ld 21) v221 v209 ht_b227 ht_ld21 (by omega) (by omega) (by omega) (by omega)) hf208 ⟨callB_of 2 hts (wl_in mw_946) rfl rfl rfl (htl _ mw_21) (htl _ mw_1301) hd_yX8_singOn ⟨(Nat.le_of_ble_eq_true rfl), (Nat.le_of_ble_eq_true rfl)⟩, htl _ mw_944, htl _ mw_945⟩ ht_b227 (by decide) tk_no rfl (tk_w.pick [2, 3, 4, 0, 1] rfl) rfl hl.1 rfl (Nat.le_of_ble_eq_true rfl) dX5_resultByRule_67 ⟨(Nat.le_of_ble_eq_true rfl), (Nat.le_of_ble_eq_true rfl)⟩ (fun v229 H locs hpo hG hS hq9 => ?_)
              refine lv_if_ne (tgt := 84) hx hb dX5_resultByRule_70 (by decide) (fun c9 => ?_) (fun c9 => ?_)
              · have hc231 : ¬ (v229.toInt = 0) := fun h9 => c9 ((fi_eq rfl (show (0 : Int32).toInt = 0 by decide)).mpr h9)
                obtain ⟨v232, h_v232, e_v232⟩ := tk_inc v8 1 (by decide) (by omega) (by omega)
                refine lv_iinc (v := v232) (lv' := [(3, .int v232), (5, .int v221), (4, .int v220), (0, .ref a0)]) hx hb dX5_resultByRule_84 hl (k := 2) rfl e_v232 (by decide) rfl (fun ls hl => ?_)
                refine lv_goto (tgt := 18) hx hb dX5_resultByRule_87 (by decide) ?_
                exact ih_l205 v232 _ _ (by omega) (by omega) (by omega) hG hS _ (lv_sub hl [0, 3] rfl)
              · have hc231 : v229.toInt = 0 := (fi_eq rfl (show (0 : Int32).toInt = 0 by decide)).mp c9
                refine lv_iload hx hb dX5_resultByRule_73 (lv_at hl 1 rfl) ?_
                refine lv_if_eq (tgt := 82) hx hb dX5_resultByRule_75 (by decide) (fun c9 => ?_) (fun c9 => ?_)
                · have hc233 : v220.toInt = 0 := (fi_eq rfl (show (0 : Int32).toInt = 0 by decide)).mp c9
                  refine lv_iconst (v := 1) hx hb dX5_resultByRule_82 (by decide) ?_
                  have hk_1 : (1 : Int32).toInt = 1 := by decide
                  exact tk_iret (v := 1) hx hb hr rfl hlocks (show (-1) ≤ (1 : Int32).toInt ∧ (1 : Int32).toInt ≤ 1 from ⟨(by omega), (by omega)⟩) hG hS dX5_resultByRule_83
                · have hc233 : ¬ (v220.toInt = 0) := fun h9 => c9 ((fi_eq rfl (show (0 : Int32).toInt = 0 by decide)).mpr h9)
                  refine lv_iconst (v := (-1)) hx hb dX5_resultByRule_78 (by decide) ?_
                  refine lv_goto (tgt := 83) hx hb dX5_resultByRule_79 (by decide) ?_
                  have hk_m1 : ((-1) : Int32).toInt = (-1) := by decide
                  exact tk_iret (v := (-1)) hx hb hr rfl hlocks (show (-1) ≤ ((-1) : Int32).toInt ∧ ((-1) : Int32).toInt ≤ 1 from ⟨(by omega), (by omega)⟩) hG hS dX5_resultByRule_83
            · have hc225 : v221.toInt = (-1) := (fi_eq rfl (show ((-1) : Int32).toInt = (-1) by decide)).mp c9
              refine lv_iconst (v := 0) hx hb dX5_resultByRule_55 (by decide) ?_
              have hk_0 : (0 : Int32).toInt = 0 := by decide
              exact tk_iret (v := 0) hx hb hr rfl hlocks (show (-1) ≤ (0 : Int32).toInt ∧ (0 : Int32).toInt ≤ 1 from ⟨(by omega), (by omega)⟩) hG hS dX5_resultByRule_56
    have hk_0 : (0 : Int32).toInt = 0 := by decide
    exact hl205 25 0 _ _ (by omega) (by omega) (by omega) hG hS _ (lv_sub hl [0, 1] rfl)
  · have hc7 : v1.toInt = 0 := (fi_eq rfl (show (0 : Int32).toInt = 0 by decide)).mp c9
    refine lv_aload_n hx hb dX5_resultByRule_9 rfl (lv_at hl 0 rfl) ?_
    refine lv_iload_n hx hb dX5_resultByRule_10 rfl (lv_at hl 1 rfl) ?_
    refine lv_iload_n hx hb dX5_resultByRule_11 rfl (lv_at hl 2 rfl) ?_
    refine tk_Vi (As := [.int p1, .int p2]) (rest := []) (ci := 5) ⟨hx, hb, hml, hown, hts⟩ hK hG hZ hS (k_X5_resultAtOnce l D cy ld t a0 p1 p2 ht_a0 (by omega) (by omega) (by omega) (by omega)) trivial ⟨callB_of 2 hts (wl_in mw_1352) rfl rfl rfl (htl _ mw_40) (htl _ mw_1349) hd_yX5_resultAtOnce ⟨(Nat.le_of_ble_eq_true rfl), (Nat.le_of_ble_eq_true rfl)⟩, htl _ mw_1350, htl _ mw_1351⟩ ht_a0 (by decide) tk_no rfl (tk_w.pick [] rfl) rfl hl.1 rfl (Nat.le_of_ble_eq_true rfl) dX5_resultByRule_12 ⟨(Nat.le_of_ble_eq_true rfl), (Nat.le_of_ble_eq_true rfl)⟩ (fun v234 H locs hpo hG hS hq9 => ?_)
    obtain ⟨hpo236, hpo237⟩ := hpo
    exact tk_iret (v := v234) hx hb hr rfl hlocks (show (-1) ≤ v234.toInt ∧ v234.toInt ≤ 1 from ⟨(by omega), (by omega)⟩) hG hS dX5_resultByRule_15
theorem dX5_chooseFrom_0 : decode cX5_chooseFrom 0 = .ok (.iload_n 1, 1) := by decide +kernel
theorem dX5_chooseFrom_1 : decode cX5_chooseFrom 1 = .ok (.aload_n 0, 1) := by decide +kernel
theorem dX5_chooseFrom_2 : decode cX5_chooseFrom 2 = .ok (.getfield 34, 3) := by decide +kernel
theorem dX5_chooseFrom_5 : decode cX5_chooseFrom 5 = .ok (.getfield 127, 3) := by decide +kernel
theorem dX5_chooseFrom_8 : decode cX5_chooseFrom 8 = .ok (.if_icmp .lt 55, 3) := by decide +kernel
theorem dX5_chooseFrom_11 : decode cX5_chooseFrom 11 = .ok (.iload_n 3, 1) := by decide +kernel
theorem dX5_chooseFrom_12 : decode cX5_chooseFrom 12 = .ok (.aload_n 0, 1) := by decide +kernel
theorem dX5_chooseFrom_13 : decode cX5_chooseFrom 13 = .ok (.getfield 136, 3) := by decide +kernel
theorem dX5_chooseFrom_16 : decode cX5_chooseFrom 16 = .ok (.if_icmp .gt 20, 3) := by decide +kernel
theorem dX5_chooseFrom_36 : decode cX5_chooseFrom 36 = .ok (.aload_n 0, 1) := by decide +kernel
theorem dX5_chooseFrom_37 : decode cX5_chooseFrom 37 = .ok (.iload_n 3, 1) := by decide +kernel
theorem dX5_chooseFrom_38 : decode cX5_chooseFrom 38 = .ok (.putfield 136, 3) := by decide +kernel
theorem dX5_chooseFrom_41 : decode cX5_chooseFrom 41 = .ok (.aload_n 0, 1) := by decide +kernel
theorem dX5_chooseFrom_42 : decode cX5_chooseFrom 42 = .ok (.iload 4, 2) := by decide +kernel
theorem dX5_chooseFrom_44 : decode cX5_chooseFrom 44 = .ok (.putfield 139, 3) := by decide +kernel
theorem dX5_chooseFrom_47 : decode cX5_chooseFrom 47 = .ok (.aload_n 0, 1) := by decide +kernel
theorem dX5_chooseFrom_48 : decode cX5_chooseFrom 48 = .ok (.getfield 27, 3) := by decide +kernel
theorem dX5_chooseFrom_51 : decode cX5_chooseFrom 51 = .ok (.iconst 0, 1) := by decide +kernel
theorem dX5_chooseFrom_52 : decode cX5_chooseFrom 52 = .ok (.aload_n 0, 1) := by decide +kernel
theorem dX5_chooseFrom_53 : decode cX5_chooseFrom 53 = .ok (.getfield 31, 3) := by decide +kernel
theorem dX5_chooseFrom_56 : decode cX5_chooseFrom 56 = .ok (.iconst 0, 1) := by decide +kernel
theorem dX5_chooseFrom_57 : decode cX5_chooseFrom 57 = .ok (.bipush 8, 2) := by decide +kernel
theorem dX5_chooseFrom_59 : decode cX5_chooseFrom 59 = .ok (.invokestatic 146, 3) := by decide +kernel
theorem dX5_chooseFrom_62 : decode cX5_chooseFrom 62 = .ok (.return_, 1) := by decide +kernel
theorem dX5_chooseFrom_19 : decode cX5_chooseFrom 19 = .ok (.iload_n 3, 1) := by decide +kernel
theorem dX5_chooseFrom_20 : decode cX5_chooseFrom 20 = .ok (.aload_n 0, 1) := by decide +kernel
theorem dX5_chooseFrom_21 : decode cX5_chooseFrom 21 = .ok (.getfield 136, 3) := by decide +kernel
theorem dX5_chooseFrom_24 : decode cX5_chooseFrom 24 = .ok (.if_icmp .ne 38, 3) := by decide +kernel
theorem dX5_chooseFrom_27 : decode cX5_chooseFrom 27 = .ok (.iload 4, 2) := by decide +kernel
theorem dX5_chooseFrom_29 : decode cX5_chooseFrom 29 = .ok (.aload_n 0, 1) := by decide +kernel
theorem dX5_chooseFrom_30 : decode cX5_chooseFrom 30 = .ok (.getfield 139, 3) := by decide +kernel
theorem dX5_chooseFrom_33 : decode cX5_chooseFrom 33 = .ok (.if_icmp .ge 29, 3) := by decide +kernel
set_option maxHeartbeats 4000000 in
set_option maxRecDepth 100000 in
theorem k_X5_chooseFrom_8 (l : Launch) (D : va_G) (cy : Nat → ClassId) (ld : Nat → Nat) (t : tk_T) (a0 : Nat) (p2 : Int32) (p3 : Int32) (p4 : Int32) (ht_a0 : t a0 = (6, 0, 0)) : Met l yX5_chooseFrom (wl yX5_chooseFrom cX5_chooseFrom 7 none) ({ frames := 4, cells := 0, slots := 0, locals := 210 }) (tp D cy ld t [] [.ref a0, .int 8, .int p2, .int p3, .int p4] (fun H => True)) (tv D cy ld t [] (fun H => True) (tk_w t [(6, 0, 0), (20, 0, 0)])) 0 0 (tk_w t [(6, 0, 0), (20, 0, 0)]) := by
  refine tk_met (y := yX5_chooseFrom) (cc := cX5_chooseFrom) (maxL := 7) (ret := none) (av := [.ref a0, .int 8, .int p2, .int p3, .int p4]) _ _ (by decide) (Nat.le_of_ble_eq_true rfl) ?_
  intro p e s m args below meth c hx hb hr hml hts htl hown hlocks hK H locs hH hG hS hB hZ ls hl
  have hown : s.vm.findClass RX5 = some m.cls := hown
  have hl : lv_has ls 7 [(0, .ref a0), (1, .int 8), (2, .int p2), (3, .int p3), (4, .int p4)] := hl
  have hr_p2 := tk_rng p2
  have hr_p3 := tk_rng p3
  have hr_p4 := tk_rng p4
  refine lv_iload_n hx hb dX5_chooseFrom_0 rfl (lv_at hl 1 rfl) ?_
  refine lv_aload_n hx hb dX5_chooseFrom_1 rfl (lv_at hl 0 rfl) ?_
  refine tk_get (ci := 5) (C := RX5) (T := TX5) (N := 11) (sp := (8, 20, 3, 0)) hx hb htl inX5 hown hK hG ht_a0 (by decide) tk_no rfl 0 (by decide) (htl _ mw_155) (fun _ h9 => h9) rfl dX5_chooseFrom_2 (fun v9 hf1 hV9 => ?_)
  obtain ⟨rfl, ht_ld20⟩ := hV9
  have ht_ld20 : t (ld 20) = (3, 0, 0) := ht_ld20
  refine fx_top (v := .ref (ld 20)) rfl ?_
  refine tk_get (ci := 2) (C := RX2) (T := TX2) (N := 20) (sp := (0, 0, 8, 0)) hx hb htl inX2 hown hK hG ht_ld20 (by decide) tk_no rfl 0 (by decide) (htl _ mw_1419) (fun _ h9 => h9) rfl dX5_chooseFrom_5 (fun v9 hf2 hV9 => ?_)
  obtain ⟨v3, rfl, (ha_v3 : 0 ≤ v3.toInt), (hb_v3 : v3.toInt ≤ 8)⟩ := hV9
  refine lv_icmp_lt (tgt := 63) hx hb dX5_chooseFrom_8 (by decide) (fun c9 => absurd (show 8 < v3.toInt from (fi_lt (show (8 : Int32).toInt = 8 by decide) rfl).mp c9) (by omega)) (fun _ => ?_)
  refine lv_iload_n hx hb dX5_chooseFrom_11 rfl (lv_at hl 3 rfl) ?_
  refine lv_aload_n hx hb dX5_chooseFrom_12 rfl (lv_at hl 0 rfl) ?_
  refine tk_get (ci := 5) (C := RX5) (T := TX5) (N := 11) (sp := (0, (-2147483648), 2147483647, 0)) hx hb htl inX5 hown hK hG ht_a0 (by decide) tk_no rfl 9 (by decide) (htl _ mw_1421) (fun _ h9 => h9) rfl dX5_chooseFrom_13 (fun v9 hf4 hV9 => ?_)
  obtain ⟨v5, rfl, (ha_v5 : (-2147483648) ≤ v5.toInt), (hb_v5 : v5.toInt ≤ 2147483647)⟩ := hV9
  refine lv_icmp_gt (tgt := 36) hx hb dX5_chooseFrom_16 (by decide) (fun c9 => ?_) (fun c9 => ?_)
  · have hc6 : v5.toInt < p3.toInt := (fi_lt rfl rfl).mp c9
    refine lv_aload_n hx hb dX5_chooseFrom_36 rfl (lv_at hl 0 rfl) ?_
    refine lv_iload_n hx hb dX5_chooseFrom_37 rfl (lv_at hl 3 rfl) ?_
    refine tk_put (ci := 5) (v := .int p3) (ty := .int) (C := RX5) (T := TX5) (N := 11) (sp := (0, (-2147483648), 2147483647, 0)) hx hb htl inX5 tyX5 tyX5_ok nmX5 hown hK hG hS ht_a0 (by decide) tk_no rfl 9 (by decide) (htl _ mw_1421) (fun _ h9 => h9) rfl (tyX5_ok 9 (by decide)) rfl rfl rfl (tk_V0 (tk_rng _).1 (tk_rng _).2) (fun _ h => h) (tk_w.of ht_a0 (by decide) (List.mem_of_getElem? (i := 0) rfl) (Nat.le_refl _) (Nat.le_refl _)) dX5_chooseFrom_38 (fun H locs hG hS hf7 hq9 hj9 => ?_)
    have hf2 := hf2.kept (hq9 _ (tk_ne ht_ld20 ht_a0 (Or.inl (by decide))))
    refine lv_aload_n hx hb dX5_chooseFrom_41 rfl (lv_at hl 0 rfl) ?_
    refine lv_iload hx hb dX5_chooseFrom_42 (lv_at hl 4 rfl) ?_
    refine tk_put (ci := 5) (v := .int p4) (ty := .int) (C := RX5) (T := TX5) (N := 11) (sp := (0, (-2147483648), 2147483647, 0)) hx hb htl inX5 tyX5 tyX5_ok nmX5 hown hK hG hS ht_a0 (by decide) tk_no rfl 10 (by decide) (htl _ mw_1422) (fun _ h9 => h9) rfl (tyX5_ok 10 (by decide)) rfl rfl rfl (tk_V0 (tk_rng _).1 (tk_rng _).2) (fun _ h => h) (tk_w.of ht_a0 (by decide) (List.mem_of_getElem? (i := 0) rfl) (Nat.le_refl _) (Nat.le_refl _)) dX5_chooseFrom_44 (fun H locs hG hS hf9 hq9 hj9 => ?_)
    have hf2 := hf2.kept (hq9 _ (tk_ne ht_ld20 ht_a0 (Or.inl (by decide))))
    refine lv_aload_n hx hb dX5_chooseFrom_47 rfl (lv_at hl 0 rfl) ?_
    refine tk_get (ci := 5) (C := RX5) (T := TX5) (N := 11) (sp := (6, 20, 8, 0)) hx hb htl inX5 hown hK hG ht_a0 (by decide) tk_no rfl 7 (by decide) (htl _ mw_153) (fun _ h9 => h9) rfl dX5_chooseFrom_48 (fun v9 hf11 hV9 => ?_)
    obtain ⟨b12, rfl, ht_b12⟩ := hV9
    have ht_b12 : t b12 = (20, 8, 0) := ht_b12
    refine lv_iconst (v := 0) hx hb dX5_chooseFrom_51 (by decide) ?_
    refine lv_aload_n hx hb dX5_chooseFrom_52 rfl (lv_at hl 0 rfl) ?_
    refine tk_get (ci := 5) (C := RX5) (T := TX5) (N := 11) (sp := (6, 20, 8, 0)) hx hb htl inX5 hown hK hG ht_a0 (by decide) tk_no rfl 8 (by decide) (htl _ mw_154) (fun _ h9 => h9) rfl dX5_chooseFrom_53 (fun v9 hf13 hV9 => ?_)
    obtain ⟨b14, rfl, ht_b14⟩ := hV9
    have ht_b14 : t b14 = (20, 8, 0) := ht_b14
    refine lv_iconst (v := 0) hx hb dX5_chooseFrom_56 (by decide) ?_
    refine lv_bipush (v := 8) hx hb dX5_chooseFrom_57 (by decide) ?_
    refine tk_copy (SP := 0) (DP := 0) (NC := 8) hx hb (by rw [hml]; exact hl.1.symm) hown (htl _ mw_1428) (htl _ mw_655) (htl _ mw_656) (htl _ mw_657) hK hG hS ht_b12 ht_b14 (by decide) (by decide) (fun _ h => h) (fun _ => Iff.rfl) tk_no tk_no (show (0 : Int32).toInt = 0 by decide) (show (0 : Int32).toInt = 0 by decide) (show (8 : Int32).toInt = 8 by decide) (by decide) (by decide) (by decide) (by decide) (by decide) (fun _ _ _ _ _ => trivial) (tk_w.of ht_b14 (by decide) (List.mem_of_getElem? (i := 1) rfl) (Nat.le_refl _) (Nat.le_refl _)) (Nat.le_of_ble_eq_true rfl) (Nat.le_of_ble_eq_true rfl) dX5_chooseFrom_59 (fun H locs hG hS hq9 => ?_)
    have hf2 := hf2.kept (hq9 _ (tk_ne ht_ld20 ht_b14 (Or.inl (by decide))))
    exact tk_vret hx hb hr hlocks trivial hG hS dX5_chooseFrom_62
  · have hc6 : ¬ (v5.toInt < p3.toInt) := fun h9 => c9 ((fi_lt rfl rfl).mpr h9)
    refine lv_iload_n hx hb dX5_chooseFrom_19 rfl (lv_at hl 3 rfl) ?_
    refine lv_aload_n hx hb dX5_chooseFrom_20 rfl (lv_at hl 0 rfl) ?_
    refine tk_get (ci := 5) (C := RX5) (T := TX5) (N := 11) (sp := (0, (-2147483648), 2147483647, 0)) hx hb htl inX5 hown hK hG ht_a0 (by decide) tk_no rfl 9 (by decide) (htl _ mw_1421) (fun _ h9 => h9) rfl dX5_chooseFrom_21 (fun v9 hf16 hV9 => ?_)
    obtain ⟨v17, rfl, (ha_v17 : (-2147483648) ≤ v17.toInt), (hb_v17 : v17.toInt ≤ 2147483647)⟩ := hV9
    refine lv_icmp_ne (tgt := 62) hx hb dX5_chooseFrom_24 (by decide) (fun c9 => ?_) (fun c9 => ?_)
    · have hc18 : ¬ (p3.toInt = v17.toInt) := fun h9 => c9 ((fi_eq rfl rfl).mpr h9)
      exact tk_vret hx hb hr hlocks trivial hG hS dX5_chooseFrom_62
    · have hc18 : p3.toInt = v17.toInt := (fi_eq rfl rfl).mp c9
      refine lv_iload hx hb dX5_chooseFrom_27 (lv_at hl 4 rfl) ?_
      refine lv_aload_n hx hb dX5_chooseFrom_29 rfl (lv_at hl 0 rfl) ?_
      refine tk_get (ci := 5) (C := RX5) (T := TX5) (N := 11) (sp := (0, (-2147483648), 2147483647, 0)) hx hb htl inX5 hown hK hG ht_a0 (by decide) tk_no rfl 10 (by decide) (htl _ mw_1422) (fun _ h9 => h9) rfl dX5_chooseFrom_30 (fun v9 hf19 hV9 => ?_)
      obtain ⟨v20, rfl, (ha_v20 : (-2147483648) ≤ v20.toInt), (hb_v20 : v20.toInt ≤ 2147483647)⟩ := hV9
      refine lv_icmp_ge (tgt := 62) hx hb dX5_chooseFrom_33 (by decide) (fun c9 => ?_) (fun c9 => ?_)
      · have hc21 : v20.toInt ≤ p4.toInt := (fi_le rfl rfl).mp c9
        exact tk_vret hx hb hr hlocks trivial hG hS dX5_chooseFrom_62
      · have hc21 : ¬ (v20.toInt ≤ p4.toInt) := fun h9 => c9 ((fi_le rfl rfl).mpr h9)
        refine lv_aload_n hx hb dX5_chooseFrom_36 rfl (lv_at hl 0 rfl) ?_
        refine lv_iload_n hx hb dX5_chooseFrom_37 rfl (lv_at hl 3 rfl) ?_
        refine tk_put (ci := 5) (v := .int p3) (ty := .int) (C := RX5) (T := TX5) (N := 11) (sp := (0, (-2147483648), 2147483647, 0)) hx hb htl inX5 tyX5 tyX5_ok nmX5 hown hK hG hS ht_a0 (by decide) tk_no rfl 9 (by decide) (htl _ mw_1421) (fun _ h9 => h9) rfl (tyX5_ok 9 (by decide)) rfl rfl rfl (tk_V0 (tk_rng _).1 (tk_rng _).2) (fun _ h => h) (tk_w.of ht_a0 (by decide) (List.mem_of_getElem? (i := 0) rfl) (Nat.le_refl _) (Nat.le_refl _)) dX5_chooseFrom_38 (fun H locs hG hS hf22 hq9 hj9 => ?_)
        have hf2 := hf2.kept (hq9 _ (tk_ne ht_ld20 ht_a0 (Or.inl (by decide))))
        refine lv_aload_n hx hb dX5_chooseFrom_41 rfl (lv_at hl 0 rfl) ?_
        refine lv_iload hx hb dX5_chooseFrom_42 (lv_at hl 4 rfl) ?_
        refine tk_put (ci := 5) (v := .int p4) (ty := .int) (C := RX5) (T := TX5) (N := 11) (sp := (0, (-2147483648), 2147483647, 0)) hx hb htl inX5 tyX5 tyX5_ok nmX5 hown hK hG hS ht_a0 (by decide) tk_no rfl 10 (by decide) (htl _ mw_1422) (fun _ h9 => h9) rfl (tyX5_ok 10 (by decide)) rfl rfl rfl (tk_V0 (tk_rng _).1 (tk_rng _).2) (fun _ h => h) (tk_w.of ht_a0 (by decide) (List.mem_of_getElem? (i := 0) rfl) (Nat.le_refl _) (Nat.le_refl _)) dX5_chooseFrom_44 (fun H locs hG hS hf24 hq9 hj9 => ?_)
        have hf2 := hf2.kept (hq9 _ (tk_ne ht_ld20 ht_a0 (Or.inl (by decide))))
        refine lv_aload_n hx hb dX5_chooseFrom_47 rfl (lv_at hl 0 rfl) ?_
        refine tk_get (ci := 5) (C := RX5) (T := TX5) (N := 11) (sp := (6, 20, 8, 0)) hx hb htl inX5 hown hK hG ht_a0 (by decide) tk_no rfl 7 (by decide) (htl _ mw_153) (fun _ h9 => h9) rfl dX5_chooseFrom_48 (fun v9 hf26 hV9 => ?_)
        obtain ⟨b27, rfl, ht_b27⟩ := hV9
        have ht_b27 : t b27 = (20, 8, 0) := ht_b27
        refine lv_iconst (v := 0) hx hb dX5_chooseFrom_51 (by decide) ?_
        refine lv_aload_n hx hb dX5_chooseFrom_52 rfl (lv_at hl 0 rfl) ?_
        refine tk_get (ci := 5) (C := RX5) (T := TX5) (N := 11) (sp := (6, 20, 8, 0)) hx hb htl inX5 hown hK hG ht_a0 (by decide) tk_no rfl 8 (by decide) (htl _ mw_154) (fun _ h9 => h9) rfl dX5_chooseFrom_53 (fun v9 hf28 hV9 => ?_)
        obtain ⟨b29, rfl, ht_b29⟩ := hV9
        have ht_b29 : t b29 = (20, 8, 0) := ht_b29
        refine lv_iconst (v := 0) hx hb dX5_chooseFrom_56 (by decide) ?_
        refine lv_bipush (v := 8) hx hb dX5_chooseFrom_57 (by decide) ?_
        refine tk_copy (SP := 0) (DP := 0) (NC := 8) hx hb (by rw [hml]; exact hl.1.symm) hown (htl _ mw_1428) (htl _ mw_655) (htl _ mw_656) (htl _ mw_657) hK hG hS ht_b27 ht_b29 (by decide) (by decide) (fun _ h => h) (fun _ => Iff.rfl) tk_no tk_no (show (0 : Int32).toInt = 0 by decide) (show (0 : Int32).toInt = 0 by decide) (show (8 : Int32).toInt = 8 by decide) (by decide) (by decide) (by decide) (by decide) (by decide) (fun _ _ _ _ _ => trivial) (tk_w.of ht_b29 (by decide) (List.mem_of_getElem? (i := 1) rfl) (Nat.le_refl _) (Nat.le_refl _)) (Nat.le_of_ble_eq_true rfl) (Nat.le_of_ble_eq_true rfl) dX5_chooseFrom_59 (fun H locs hG hS hq9 => ?_)
        have hf2 := hf2.kept (hq9 _ (tk_ne ht_ld20 ht_b29 (Or.inl (by decide))))
        exact tk_vret hx hb hr hlocks trivial hG hS dX5_chooseFrom_62
theorem dX5_chooseFrom_63 : decode cX5_chooseFrom 63 = .ok (.aload_n 0, 1) := by decide +kernel
theorem dX5_chooseFrom_64 : decode cX5_chooseFrom 64 = .ok (.getfield 34, 3) := by decide +kernel
theorem dX5_chooseFrom_67 : decode cX5_chooseFrom 67 = .ok (.getfield 130, 3) := by decide +kernel
theorem dX5_chooseFrom_70 : decode cX5_chooseFrom 70 = .ok (.iload_n 1, 1) := by decide +kernel
theorem dX5_chooseFrom_71 : decode cX5_chooseFrom 71 = .ok (.iaload, 1) := by decide +kernel
theorem dX5_chooseFrom_176 : decode cX5_chooseFrom 176 = .ok (.aload_n 0, 1) := by decide +kernel
theorem dX5_chooseFrom_177 : decode cX5_chooseFrom 177 = .ok (.getfield 27, 3) := by decide +kernel
theorem dX5_chooseFrom_180 : decode cX5_chooseFrom 180 = .ok (.iload_n 1, 1) := by decide +kernel
theorem dX5_chooseFrom_181 : decode cX5_chooseFrom 181 = .ok (.bipush 100, 2) := by decide +kernel
theorem dX5_chooseFrom_183 : decode cX5_chooseFrom 183 = .ok (.iastore, 1) := by decide +kernel
theorem dX5_chooseFrom_184 : decode cX5_chooseFrom 184 = .ok (.aload_n 0, 1) := by decide +kernel
theorem dX5_chooseFrom_185 : decode cX5_chooseFrom 185 = .ok (.iload_n 1, 1) := by decide +kernel
theorem dX5_chooseFrom_186 : decode cX5_chooseFrom 186 = .ok (.iconst 1, 1) := by decide +kernel
theorem dX5_chooseFrom_187 : decode cX5_chooseFrom 187 = .ok (.iadd, 1) := by decide +kernel
theorem dX5_chooseFrom_188 : decode cX5_chooseFrom 188 = .ok (.iload_n 2, 1) := by decide +kernel
theorem dX5_chooseFrom_189 : decode cX5_chooseFrom 189 = .ok (.iload_n 3, 1) := by decide +kernel
theorem dX5_chooseFrom_190 : decode cX5_chooseFrom 190 = .ok (.iload 4, 2) := by decide +kernel
theorem dX5_chooseFrom_192 : decode cX5_chooseFrom 192 = .ok (.invokevirtual 142, 3) := by decide +kernel
theorem dX5_chooseFrom_195 : decode cX5_chooseFrom 195 = .ok (.return_, 1) := by decide +kernel
theorem dX5_chooseFrom_72 : decode cX5_chooseFrom 72 = .ok (.ifCond .ne 104, 3) := by decide +kernel
theorem dX5_chooseFrom_75 : decode cX5_chooseFrom 75 = .ok (.iconst 0, 1) := by decide +kernel
theorem dX5_chooseFrom_76 : decode cX5_chooseFrom 76 = .ok (.istore 5, 2) := by decide +kernel
theorem dX5_chooseFrom_78 : decode cX5_chooseFrom 78 = .ok (.iload 5, 2) := by decide +kernel
theorem dX5_chooseFrom_80 : decode cX5_chooseFrom 80 = .ok (.aload_n 0, 1) := by decide +kernel
theorem dX5_chooseFrom_81 : decode cX5_chooseFrom 81 = .ok (.getfield 34, 3) := by decide +kernel
theorem dX5_chooseFrom_84 : decode cX5_chooseFrom 84 = .ok (.getfield 127, 3) := by decide +kernel
theorem dX5_chooseFrom_87 : decode cX5_chooseFrom 87 = .ok (.if_icmp .ge 89, 3) := by decide +kernel
theorem dX5_chooseFrom_90 : decode cX5_chooseFrom 90 = .ok (.aload_n 0, 1) := by decide +kernel
theorem dX5_chooseFrom_91 : decode cX5_chooseFrom 91 = .ok (.getfield 34, 3) := by decide +kernel
theorem dX5_chooseFrom_94 : decode cX5_chooseFrom 94 = .ok (.getfield 130, 3) := by decide +kernel
theorem dX5_chooseFrom_97 : decode cX5_chooseFrom 97 = .ok (.iload 5, 2) := by decide +kernel
theorem dX5_chooseFrom_99 : decode cX5_chooseFrom 99 = .ok (.iaload, 1) := by decide +kernel
theorem dX5_chooseFrom_100 : decode cX5_chooseFrom 100 = .ok (.iconst 1, 1) := by decide +kernel
theorem dX5_chooseFrom_170 : decode cX5_chooseFrom 170 = .ok (.iinc 5 1, 3) := by decide +kernel
theorem dX5_chooseFrom_173 : decode cX5_chooseFrom 173 = .ok (.goto (-95), 3) := by decide +kernel
theorem dX5_chooseFrom_101 : decode cX5_chooseFrom 101 = .ok (.if_icmp .ne 69, 3) := by decide +kernel
theorem dX5_chooseFrom_104 : decode cX5_chooseFrom 104 = .ok (.iload_n 2, 1) := by decide +kernel
theorem dX5_chooseFrom_105 : decode cX5_chooseFrom 105 = .ok (.iload 5, 2) := by decide +kernel
theorem dX5_chooseFrom_107 : decode cX5_chooseFrom 107 = .ok (.ishr, 1) := by decide +kernel
theorem dX5_chooseFrom_108 : decode cX5_chooseFrom 108 = .ok (.iconst 1, 1) := by decide +kernel
theorem dX5_chooseFrom_109 : decode cX5_chooseFrom 109 = .ok (.iand, 1) := by decide +kernel
theorem dX5_chooseFrom_110 : decode cX5_chooseFrom 110 = .ok (.ifCond .ne 60, 3) := by decide +kernel
theorem dX5_chooseFrom_113 : decode cX5_chooseFrom 113 = .ok (.aload_n 0, 1) := by decide +kernel
theorem dX5_chooseFrom_114 : decode cX5_chooseFrom 114 = .ok (.getfield 24, 3) := by decide +kernel
theorem dX5_chooseFrom_117 : decode cX5_chooseFrom 117 = .ok (.iload_n 1, 1) := by decide +kernel
theorem dX5_chooseFrom_118 : decode cX5_chooseFrom 118 = .ok (.aaload, 1) := by decide +kernel
theorem dX5_chooseFrom_119 : decode cX5_chooseFrom 119 = .ok (.iload 5, 2) := by decide +kernel
theorem dX5_chooseFrom_121 : decode cX5_chooseFrom 121 = .ok (.iaload, 1) := by decide +kernel
theorem dX5_chooseFrom_122 : decode cX5_chooseFrom 122 = .ok (.istore 6, 2) := by decide +kernel
theorem dX5_chooseFrom_124 : decode cX5_chooseFrom 124 = .ok (.aload_n 0, 1) := by decide +kernel
theorem dX5_chooseFrom_125 : decode cX5_chooseFrom 125 = .ok (.getfield 27, 3) := by decide +kernel
theorem dX5_chooseFrom_128 : decode cX5_chooseFrom 128 = .ok (.iload_n 1, 1) := by decide +kernel
theorem dX5_chooseFrom_129 : decode cX5_chooseFrom 129 = .ok (.iload 5, 2) := by decide +kernel
theorem dX5_chooseFrom_131 : decode cX5_chooseFrom 131 = .ok (.iastore, 1) := by decide +kernel
theorem dX5_chooseFrom_132 : decode cX5_chooseFrom 132 = .ok (.aload_n 0, 1) := by decide +kernel
theorem dX5_chooseFrom_133 : decode cX5_chooseFrom 133 = .ok (.iload_n 1, 1) := by decide +kernel
theorem dX5_chooseFrom_134 : decode cX5_chooseFrom 134 = .ok (.iconst 1, 1) := by decide +kernel
theorem dX5_chooseFrom_135 : decode cX5_chooseFrom 135 = .ok (.iadd, 1) := by decide +kernel
theorem dX5_chooseFrom_136 : decode cX5_chooseFrom 136 = .ok (.iload_n 2, 1) := by decide +kernel
theorem dX5_chooseFrom_137 : decode cX5_chooseFrom 137 = .ok (.iconst 1, 1) := by decide +kernel
theorem dX5_chooseFrom_138 : decode cX5_chooseFrom 138 = .ok (.iload 5, 2) := by decide +kernel
theorem dX5_chooseFrom_140 : decode cX5_chooseFrom 140 = .ok (.ishl, 1) := by decide +kernel
theorem dX5_chooseFrom_141 : decode cX5_chooseFrom 141 = .ok (.ior, 1) := by decide +kernel
theorem dX5_chooseFrom_142 : decode cX5_chooseFrom 142 = .ok (.iload_n 3, 1) := by decide +kernel
theorem dX5_chooseFrom_143 : decode cX5_chooseFrom 143 = .ok (.iload 6, 2) := by decide +kernel
theorem dX5_chooseFrom_153 : decode cX5_chooseFrom 153 = .ok (.iadd, 1) := by decide +kernel
theorem dX5_chooseFrom_154 : decode cX5_chooseFrom 154 = .ok (.iload 4, 2) := by decide +kernel
theorem dX5_chooseFrom_156 : decode cX5_chooseFrom 156 = .ok (.iload 6, 2) := by decide +kernel
theorem dX5_chooseFrom_166 : decode cX5_chooseFrom 166 = .ok (.iadd, 1) := by decide +kernel
theorem dX5_chooseFrom_167 : decode cX5_chooseFrom 167 = .ok (.invokevirtual 142, 3) := by decide +kernel
theorem dX5_chooseFrom_158 : decode cX5_chooseFrom 158 = .ok (.ifCond .ge 7, 3) := by decide +kernel
theorem dX5_chooseFrom_165 : decode cX5_chooseFrom 165 = .ok (.iconst 0, 1) := by decide +kernel
theorem dX5_chooseFrom_161 : decode cX5_chooseFrom 161 = .ok (.iconst 1, 1) := by decide +kernel
theorem dX5_chooseFrom_162 : decode cX5_chooseFrom 162 = .ok (.goto 4, 3) := by decide +kernel
theorem dX5_chooseFrom_145 : decode cX5_chooseFrom 145 = .ok (.ifCond .le 7, 3) := by decide +kernel
theorem dX5_chooseFrom_152 : decode cX5_chooseFrom 152 = .ok (.iconst 0, 1) := by decide +kernel
theorem dX5_chooseFrom_148 : decode cX5_chooseFrom 148 = .ok (.iconst 1, 1) := by decide +kernel
theorem dX5_chooseFrom_149 : decode cX5_chooseFrom 149 = .ok (.goto 4, 3) := by decide +kernel
set_option maxHeartbeats 4000000 in
set_option maxRecDepth 100000 in
theorem k_X5_chooseFrom_7 (l : Launch) (D : va_G) (cy : Nat → ClassId) (ld : Nat → Nat) (t : tk_T) (a0 : Nat) (p2 : Int32) (p3 : Int32) (p4 : Int32) (ht_a0 : t a0 = (6, 0, 0)) : Met l yX5_chooseFrom (wl yX5_chooseFrom cX5_chooseFrom 7 none) ({ frames := 5, cells := 0, slots := 0, locals := 280 }) (tp D cy ld t [] [.ref a0, .int 7, .int p2, .int p3, .int p4] (fun H => True)) (tv D cy ld t [] (fun H => True) (tk_w t [(20, 0, 0), (6, 0, 0)])) 0 0 (tk_w t [(20, 0, 0), (6, 0, 0)]) := by
  refine tk_met (y := yX5_chooseFrom) (cc := cX5_chooseFrom) (maxL := 7) (ret := none) (av := [.ref a0, .int 7, .int p2, .int p3, .int p4]) _ _ (by decide) (Nat.le_of_ble_eq_true rfl) ?_
  intro p e s m args below meth c hx hb hr hml hts htl hown hlocks hK H locs hH hG hS hB hZ ls hl
  have hown : s.vm.findClass RX5 = some m.cls := hown
  have hl : lv_has ls 7 [(0, .ref a0), (1, .int 7), (2, .int p2), (3, .int p3), (4, .int p4)] := hl
  have hr_p2 := tk_rng p2
  have hr_p3 := tk_rng p3
  have hr_p4 := tk_rng p4
  refine lv_iload_n hx hb dX5_chooseFrom_0 rfl (lv_at hl 1 rfl) ?_
  refine lv_aload_n hx hb dX5_chooseFrom_1 rfl (lv_at hl 0 rfl) ?_
  refine tk_get (ci := 5) (C := RX5) (T := TX5) (N := 11) (sp := (8, 20, 3, 0)) hx hb htl inX5 hown hK hG ht_a0 (by decide) tk_no rfl 0 (by decide) (htl _ mw_155) (fun _ h9 => h9) rfl dX5_chooseFrom_2 (fun v9 hf1 hV9 => ?_)
  obtain ⟨rfl, ht_ld20⟩ := hV9
  have ht_ld20 : t (ld 20) = (3, 0, 0) := ht_ld20
  refine fx_top (v := .ref (ld 20)) rfl ?_
  refine tk_get (ci := 2) (C := RX2) (T := TX2) (N := 20) (sp := (0, 0, 8, 0)) hx hb htl inX2 hown hK hG ht_ld20 (by decide) tk_no rfl 0 (by decide) (htl _ mw_1419) (fun _ h9 => h9) rfl dX5_chooseFrom_5 (fun v9 hf2 hV9 => ?_)
  obtain ⟨v3, rfl, (ha_v3 : 0 ≤ v3.toInt), (hb_v3 : v3.toInt ≤ 8)⟩ := hV9
  refine lv_icmp_lt (tgt := 63) hx hb dX5_chooseFrom_8 (by decide) (fun c9 => ?_) (fun c9 => ?_)
  · have hc4 : 7 < v3.toInt := (fi_lt (show (7 : Int32).toInt = 7 by decide) rfl).mp c9
    refine lv_aload_n hx hb dX5_chooseFrom_63 rfl (lv_at hl 0 rfl) ?_
    refine tk_get (ci := 5) (C := RX5) (T := TX5) (N := 11) (sp := (8, 20, 3, 0)) hx hb htl inX5 hown hK hG ht_a0 (by decide) tk_no rfl 0 (by decide) (htl _ mw_155) (fun _ h9 => h9) rfl dX5_chooseFrom_64 (fun v9 hf5 hV9 => ?_)
    obtain ⟨rfl, ht_ld20⟩ := hV9
    have ht_ld20 : t (ld 20) = (3, 0, 0) := ht_ld20
    refine fx_top (v := .ref (ld 20)) rfl ?_
    refine tk_get (ci := 2) (C := RX2) (T := TX2) (N := 20) (sp := (1, 21, 8, 0)) hx hb htl inX2 hown hK hG ht_ld20 (by decide) tk_no rfl 2 (by decide) (htl _ mw_1420) (fun _ h9 => h9) rfl dX5_chooseFrom_67 (fun v9 hf6 hV9 => ?_)
    obtain ⟨b7, rfl, ht_b7⟩ := hV9
    have ht_b7 : t b7 = (21, 8, 0) := ht_b7
    refine lv_iload_n hx hb dX5_chooseFrom_70 rfl (lv_at hl 1 rfl) ?_
    refine tk_iald hx hb hK hG ht_b7 (by decide) (fun _ h => h) tk_no (I := 7) (by decide) (by decide) (by decide) dX5_chooseFrom_71 (fun v8 hE9 _ => ?_)
    have he_v8 : 0 ≤ v8.toInt ∧ v8.toInt ≤ 1 := hE9
    have hj486 : ∀ (H : Heap) (locs : List Loc), tk_G D cy ld t [] H → va_S (tk_w t [(20, 0, 0), (6, 0, 0)]) s.heap H locs → tk_f D H (ld 20) 2 0 (.int v3) → ∀ ls : Array Slot, lv_has ls 7 [(0, .ref a0), (1, .int 7), (2, .int p2), (3, .int p3), (4, .int p4)] → W p l e ({ frames := 5, cells := 0, slots := 0, locals := 280 }) s m args below meth c H locs 0 0 (MQ below (tv D cy ld t [] (fun H => True) (tk_w t [(20, 0, 0), (6, 0, 0)])) args s 0 0 (tk_w t [(20, 0, 0), (6, 0, 0)])) (F0 m 176 ls []) := by
      intro H locs hG hS hf2 ls hl
      refine lv_aload_n hx hb dX5_chooseFrom_176 rfl (lv_at hl 0 rfl) ?_
      refine tk_get (ci := 5) (C := RX5) (T := TX5) (N := 11) (sp := (6, 20, 8, 0)) hx hb htl inX5 hown hK hG ht_a0 (by decide) tk_no rfl 7 (by decide) (htl _ mw_153) (fun _ h9 => h9) rfl dX5_chooseFrom_177 (fun v9 hf487 hV9 => ?_)
      obtain ⟨b488, rfl, ht_b488⟩ := hV9
      have ht_b488 : t b488 = (20, 8, 0) := ht_b488
      refine lv_iload_n hx hb dX5_chooseFrom_180 rfl (lv_at hl 1 rfl) ?_
      refine lv_bipush (v := 100) hx hb dX5_chooseFrom_181 (by decide) ?_
      refine tk_iast hx hb hK hG hS ht_b488 (by decide) (fun _ => Iff.rfl) tk_no (I := 7) (by decide) (by decide) (by decide) trivial (tk_w.of ht_b488 (by decide) (List.mem_of_getElem? (i := 0) rfl) (Nat.le_refl _) (Nat.le_refl _)) dX5_chooseFrom_183 (fun H locs hG hS hq9 => ?_)
      have hf2 := hf2.kept (hq9 _ (tk_ne ht_ld20 ht_b488 (Or.inl (by decide))))
      refine lv_aload_n hx hb dX5_chooseFrom_184 rfl (lv_at hl 0 rfl) ?_
      refine lv_iload_n hx hb dX5_chooseFrom_185 rfl (lv_at hl 1 rfl) ?_
      refine lv_iconst (v := 1) hx hb dX5_chooseFrom_186 (by decide) ?_
      refine lv_iadd hx hb dX5_chooseFrom_187 ?_
      refine fx_ti (v := 8) (by decide) ?_
      refine lv_iload_n hx hb dX5_chooseFrom_188 rfl (lv_at hl 2 rfl) ?_
      refine lv_iload_n hx hb dX5_chooseFrom_189 rfl (lv_at hl 3 rfl) ?_
      refine lv_iload hx hb dX5_chooseFrom_190 (lv_at hl 4 rfl) ?_
      have hk_8 : (8 : Int32).toInt = 8 := by decide
      refine tk_Vv (As := [.int 8, .int p2, .int p3, .int p4]) (rest := []) (ci := 5) ⟨hx, hb, hml, hown, hts⟩ hK hG hZ hS (k_X5_chooseFrom_8 l D cy ld t a0 p2 p3 p4 ht_a0) trivial ⟨callB_of 4 hts (wl_in mw_1427) rfl rfl rfl (htl _ mw_40) (htl _ mw_1424) hd_yX5_chooseFrom ⟨(Nat.le_of_ble_eq_true rfl), (Nat.le_of_ble_eq_true rfl)⟩, htl _ mw_1425, htl _ mw_1426⟩ ht_a0 (by decide) tk_no rfl (tk_w.pick [1, 0] rfl) rfl hl.1 rfl (Nat.le_of_ble_eq_true rfl) dX5_chooseFrom_192 ⟨(Nat.le_of_ble_eq_true rfl), (Nat.le_of_ble_eq_true rfl)⟩ (fun H locs hpo hG hS hq9 => ?_)
      have hf2 := hf2.call hq9 (tk_w.no ht_ld20 (by decide))
      exact tk_vret hx hb hr hlocks trivial hG hS dX5_chooseFrom_195
    refine lv_if_ne (tgt := 176) hx hb dX5_chooseFrom_72 (by decide) (fun c9 => ?_) (fun c9 => ?_)
    · have hc9 : ¬ (v8.toInt = 0) := fun h9 => c9 ((fi_eq rfl (show (0 : Int32).toInt = 0 by decide)).mpr h9)
      exact hj486 _ _ hG hS hf2 _ (lv_sub hl [0, 1, 2, 3, 4] rfl)
    · have hc9 : v8.toInt = 0 := (fi_eq rfl (show (0 : Int32).toInt = 0 by decide)).mp c9
      refine lv_iconst (v := 0) hx hb dX5_chooseFrom_75 (by decide) ?_
      refine lv_istore (lv' := [(5, .int 0), (0, .ref a0), (1, .int 7), (2, .int p2), (3, .int p3), (4, .int p4)]) hx hb dX5_chooseFrom_76 hl (by decide) rfl (fun ls hl => ?_)
      have hl905 : ∀ (N_l905 : Nat) (v491 : Int32) (H : Heap) (locs : List Loc), v491.toInt ≤ 8 → 0 ≤ v491.toInt → (-1) * v491.toInt + 8 < (N_l905 : Int) → tk_G D cy ld t [] H → va_S (tk_w t [(20, 0, 0), (6, 0, 0)]) s.heap H locs → tk_f D H (ld 20) 2 0 (.int v3) → ∀ ls : Array Slot, lv_has ls 7 [(5, .int v491), (0, .ref a0), (1, .int 7), (2, .int p2), (3, .int p3), (4, .int p4)] → W p l e ({ frames := 5, cells := 0, slots := 0, locals := 280 }) s m args below meth c H locs 0 0 (MQ below (tv D cy ld t [] (fun H => True) (tk_w t [(20, 0, 0), (6, 0, 0)])) args s 0 0 (tk_w t [(20, 0, 0), (6, 0, 0)])) (F0 m 78 ls []) := by
        intro N_l905
        induction N_l905 with
        | zero => intro v491 H locs hq0_l905 hq1_l905 hm_l905 hG hS hf2 ls hl; exfalso; omega
        | succ N_l905 ih_l905 =>
          intro v491 H locs hq0_l905 hq1_l905 hm_l905 hG hS hf2 ls hl
          refine lv_iload hx hb dX5_chooseFrom_78 (lv_at hl 0 rfl) ?_
          refine lv_aload_n hx hb dX5_chooseFrom_80 rfl (lv_at hl 1 rfl) ?_
          refine tk_get (ci := 5) (C := RX5) (T := TX5) (N := 11) (sp := (8, 20, 3, 0)) hx hb htl inX5 hown hK hG ht_a0 (by decide) tk_no rfl 0 (by decide) (htl _ mw_155) (fun _ h9 => h9) rfl dX5_chooseFrom_81 (fun v9 hf906 hV9 => ?_)
          obtain ⟨rfl, ht_ld20⟩ := hV9
          have ht_ld20 : t (ld 20) = (3, 0, 0) := ht_ld20
          refine fx_top (v := .ref (ld 20)) rfl ?_
          refine tk_getk (ci := 2) (C := RX2) (T := TX2) (N := 20) (sp := (0, 0, 8, 0)) hx hb htl inX2 hown hK hG ht_ld20 (by decide) tk_no rfl 0 (by decide) (htl _ mw_1419) (fun _ h9 => h9) rfl hf2 dX5_chooseFrom_84 ?_
          refine lv_icmp_ge (tgt := 176) hx hb dX5_chooseFrom_87 (by decide) (fun c9 => ?_) (fun c9 => ?_)
          · have hc907 : v3.toInt ≤ v491.toInt := (fi_le rfl rfl).mp c9
            exact hj486 _ _ hG hS hf2 _ (lv_sub hl [1, 2, 3, 4, 5] rfl)
          · have hc907 : ¬ (v3.toInt ≤ v491.toInt) := fun h9 => c9 ((fi_le rfl rfl).mpr h9)
            refine lv_aload_n hx hb dX5_chooseFrom_90 rfl (lv_at hl 1 rfl) ?_
            refine tk_get (ci := 5) (C := RX5) (T := TX5) (N := 11) (sp := (8, 20, 3, 0)) hx hb htl inX5 hown hK hG ht_a0 (by decide) tk_no rfl 0 (by decide) (htl _ mw_155) (fun _ h9 => h9) rfl dX5_chooseFrom_91 (fun v9 hf908 hV9 => ?_)
            obtain ⟨rfl, ht_ld20⟩ := hV9
            have ht_ld20 : t (ld 20) = (3, 0, 0) := ht_ld20
            refine fx_top (v := .ref (ld 20)) rfl ?_
            refine tk_get (ci := 2) (C := RX2) (T := TX2) (N := 20) (sp := (1, 21, 8, 0)) hx hb htl inX2 hown hK hG ht_ld20 (by decide) tk_no rfl 2 (by decide) (htl _ mw_1420) (fun _ h9 => h9) rfl dX5_chooseFrom_94 (fun v9 hf909 hV9 => ?_)
            obtain ⟨b910, rfl, ht_b910⟩ := hV9
            have ht_b910 : t b910 = (21, 8, 0) := ht_b910
            refine lv_iload hx hb dX5_chooseFrom_97 (lv_at hl 0 rfl) ?_
            refine tk_iald hx hb hK hG ht_b910 (by decide) (fun _ h => h) tk_no rfl (by omega) (by omega) dX5_chooseFrom_99 (fun v911 hE9 _ => ?_)
            have he_v911 : 0 ≤ v911.toInt ∧ v911.toInt ≤ 1 := hE9
            refine lv_iconst (v := 1) hx hb dX5_chooseFrom_100 (by decide) ?_
            have hj939 : ∀ (H : Heap) (locs : List Loc), tk_G D cy ld t [] H → va_S (tk_w t [(20, 0, 0), (6, 0, 0)]) s.heap H locs → tk_f D H (ld 20) 2 0 (.int v3) → ∀ ls : Array Slot, lv_has ls 7 [(5, .int v491), (0, .ref a0), (1, .int 7), (2, .int p2), (3, .int p3), (4, .int p4)] → W p l e ({ frames := 5, cells := 0, slots := 0, locals := 280 }) s m args below meth c H locs 0 0 (MQ below (tv D cy ld t [] (fun H => True) (tk_w t [(20, 0, 0), (6, 0, 0)])) args s 0 0 (tk_w t [(20, 0, 0), (6, 0, 0)])) (F0 m 170 ls []) := by
              intro H locs hG hS hf2 ls hl
              obtain ⟨v940, h_v940, e_v940⟩ := tk_inc v491 1 (by decide) (by omega) (by omega)
              refine lv_iinc (v := v940) (lv' := [(5, .int v940), (0, .ref a0), (1, .int 7), (2, .int p2), (3, .int p3), (4, .int p4)]) hx hb dX5_chooseFrom_170 hl (k := 0) rfl e_v940 (by decide) rfl (fun ls hl => ?_)
              refine lv_goto (tgt := 78) hx hb dX5_chooseFrom_173 (by decide) ?_
              exact ih_l905 v940 _ _ (by omega) (by omega) (by omega) hG hS hf2 _ (lv_sub hl [0, 1, 2, 3, 4, 5] rfl)
            refine lv_icmp_ne (tgt := 170) hx hb dX5_chooseFrom_101 (by decide) (fun c9 => ?_) (fun c9 => ?_)
            · have hc912 : ¬ (v911.toInt = 1) := fun h9 => c9 ((fi_eq rfl (show (1 : Int32).toInt = 1 by decide)).mpr h9)
              exact hj939 _ _ hG hS hf2 _ (lv_sub hl [0, 1, 2, 3, 4, 5] rfl)
            · have hc912 : v911.toInt = 1 := (fi_eq rfl (show (1 : Int32).toInt = 1 by decide)).mp c9
              refine lv_iload_n hx hb dX5_chooseFrom_104 rfl (lv_at hl 3 rfl) ?_
              refine lv_iload hx hb dX5_chooseFrom_105 (lv_at hl 0 rfl) ?_
              refine lv_ishr hx hb dX5_chooseFrom_107 ?_
              refine tk_any (fun v941 => ?_)
              refine lv_iconst (v := 1) hx hb dX5_chooseFrom_108 (by decide) ?_
              refine lv_iand hx hb dX5_chooseFrom_109 ?_
              refine tk_say (P := fun z => 0 ≤ z.toInt ∧ z.toInt ≤ 1) (tk_and v941 1 (by decide) (by decide)) (fun v942 h_v942 => ?_)
              refine lv_if_ne (tgt := 170) hx hb dX5_chooseFrom_110 (by decide) (fun c9 => ?_) (fun c9 => ?_)
              · have hc943 : ¬ (v942.toInt = 0) := fun h9 => c9 ((fi_eq rfl (show (0 : Int32).toInt = 0 by decide)).mpr h9)
                exact hj939 _ _ hG hS hf2 _ (lv_sub hl [0, 1, 2, 3, 4, 5] rfl)
              · have hc943 : v942.toInt = 0 := (fi_eq rfl (show (0 : Int32).toInt = 0 by decide)).mp c9
                refine lv_aload_n hx hb dX5_chooseFrom_113 rfl (lv_at hl 1 rfl) ?_
                refine tk_get (ci := 5) (C := RX5) (T := TX5) (N := 11) (sp := (6, 30, 8, 0)) hx hb htl inX5 hown hK hG ht_a0 (by decide) tk_no rfl 6 (by decide) (htl _ mw_152) (fun _ h9 => h9) rfl dX5_chooseFrom_114 (fun v9 hf944 hV9 => ?_)
                obtain ⟨b945, rfl, ht_b945⟩ := hV9
                have ht_b945 : t b945 = (30, 8, 0) := ht_b945
                refine lv_iload_n hx hb dX5_chooseFrom_117 rfl (lv_at hl 2 rfl) ?_
                refine tk_aald hx hb hK hG 6 rfl rfl ht_b945 (by decide) (fun _ h => h) tk_no (I := 7) (by decide) (by decide) (by decide) dX5_chooseFrom_118 (fun o946 ht_o946 => ?_)
                obtain ⟨b947, rfl, ht_b947⟩ := ht_o946
                have ht_b947 : t b947 = (20, 8, 0) := ht_b947
                refine fx_top (v := .ref b947) rfl ?_
                refine lv_iload hx hb dX5_chooseFrom_119 (lv_at hl 0 rfl) ?_
                refine tk_iald hx hb hK hG ht_b947 (by decide) (fun _ h => h) tk_no rfl (by omega) (by omega) dX5_chooseFrom_121 (fun v948 _ _ => ?_)
                have hr_v948 := tk_rng v948
                refine lv_istore (lv' := [(6, .int v948), (5, .int v491), (0, .ref a0), (1, .int 7), (2, .int p2), (3, .int p3), (4, .int p4)]) hx hb dX5_chooseFrom_122 hl (by decide) rfl (fun ls hl => ?_)
                refine lv_aload_n hx hb dX5_chooseFrom_124 rfl (lv_at hl 2 rfl) ?_
                refine tk_get (ci := 5) (C := RX5) (T := TX5) (N := 11) (sp := (6, 20, 8, 0)) hx hb htl inX5 hown hK hG ht_a0 (by decide) tk_no rfl 7 (by decide) (htl _ mw_153) (fun _ h9 => h9) rfl dX5_chooseFrom_125 (fun v9 hf949 hV9 => ?_)
                obtain ⟨b950, rfl, ht_b950⟩ := hV9
                have ht_b950 : t b950 = (20, 8, 0) := ht_b950
                refine lv_iload_n hx hb dX5_chooseFrom_128 rfl (lv_at hl 3 rfl) ?_
                refine lv_iload hx hb dX5_chooseFrom_129 (lv_at hl 1 rfl) ?_
                refine tk_iast hx hb hK hG hS ht_b950 (by decide) (fun _ => Iff.rfl) tk_no (I := 7) (by decide) (by decide) (by decide) trivial (tk_w.of ht_b950 (by decide) (List.mem_of_getElem? (i := 0) rfl) (Nat.le_refl _) (Nat.le_refl _)) dX5_chooseFrom_131 (fun H locs hG hS hq9 => ?_)
                have hf2 := hf2.kept (hq9 _ (tk_ne ht_ld20 ht_b950 (Or.inl (by decide))))
                refine lv_aload_n hx hb dX5_chooseFrom_132 rfl (lv_at hl 2 rfl) ?_
                refine lv_iload_n hx hb dX5_chooseFrom_133 rfl (lv_at hl 3 rfl) ?_
                refine lv_iconst (v := 1) hx hb dX5_chooseFrom_134 (by decide) ?_
                refine lv_iadd hx hb dX5_chooseFrom_135 ?_
                refine fx_ti (v := 8) (by decide) ?_
                refine lv_iload_n hx hb dX5_chooseFrom_136 rfl (lv_at hl 4 rfl) ?_
                refine lv_iconst (v := 1) hx hb dX5_chooseFrom_137 (by decide) ?_
                refine lv_iload hx hb dX5_chooseFrom_138 (lv_at hl 1 rfl) ?_
                refine lv_ishl hx hb dX5_chooseFrom_140 ?_
                refine tk_say (P := fun z => 1 ≤ z.toInt ∧ z.toInt ≤ 1024) (tk_shl1 v491 (by omega) (by omega)) (fun v952 h_v952 => ?_)
                refine lv_ior hx hb dX5_chooseFrom_141 ?_
                refine tk_any (fun v953 => ?_)
                refine lv_iload_n hx hb dX5_chooseFrom_142 rfl (lv_at hl 5 rfl) ?_
                refine lv_iload hx hb dX5_chooseFrom_143 (lv_at hl 0 rfl) ?_
                have hj957 : ∀ (v956 : Int32), 0 ≤ v956.toInt → v956.toInt ≤ 1 → ∀ ls : Array Slot, lv_has ls 7 [(6, .int v948), (5, .int v491), (0, .ref a0), (1, .int 7), (2, .int p2), (3, .int p3), (4, .int p4)] → W p l e ({ frames := 5, cells := 0, slots := 0, locals := 280 }) s m args below meth c H locs 0 0 (MQ below (tv D cy ld t [] (fun H => True) (tk_w t [(20, 0, 0), (6, 0, 0)])) args s 0 0 (tk_w t [(20, 0, 0), (6, 0, 0)])) (F0 m 153 ls [.int v956, .int p3, .int v953, .int 8, .ref a0]) := by
                  intro v956 hq0_j957 hq1_j957 ls hl
                  refine lv_iadd hx hb dX5_chooseFrom_153 ?_
                  obtain ⟨v958, hm_v958⟩ : ∃ z : Int32, p3 + v956 = z := ⟨_, rfl⟩
                  refine fx_ti hm_v958 ?_
                  refine lv_iload hx hb dX5_chooseFrom_154 (lv_at hl 6 rfl) ?_
                  refine lv_iload hx hb dX5_chooseFrom_156 (lv_at hl 0 rfl) ?_
                  have hj962 : ∀ (v961 : Int32), 0 ≤ v961.toInt → v961.toInt ≤ 1 → ∀ ls : Array Slot, lv_has ls 7 [(5, .int v491), (0, .ref a0), (1, .int 7), (2, .int p2), (3, .int p3), (4, .int p4)] → W p l e ({ frames := 5, cells := 0, slots := 0, locals := 280 }) s m args below meth c H locs 0 0 (MQ below (tv D cy ld t [] (fun H => True) (tk_w t [(20, 0, 0), (6, 0, 0)])) args s 0 0 (tk_w t [(20, 0, 0), (6, 0, 0)])) (F0 m 166 ls [.int v961, .int p4, .int v958, .int v953, .int 8, .ref a0]) := by
                    intro v961 hq0_j962 hq1_j962 ls hl
                    refine lv_iadd hx hb dX5_chooseFrom_166 ?_
                    obtain ⟨v963, hm_v963⟩ : ∃ z : Int32, p4 + v961 = z := ⟨_, rfl⟩
                    refine fx_ti hm_v963 ?_
                    have hk_8 : (8 : Int32).toInt = 8 := by decide
                    refine tk_Vv (As := [.int 8, .int v953, .int v958, .int v963]) (rest := []) (ci := 5) ⟨hx, hb, hml, hown, hts⟩ hK hG hZ hS (k_X5_chooseFrom_8 l D cy ld t a0 v953 v958 v963 ht_a0) trivial ⟨callB_of 4 hts (wl_in mw_1427) rfl rfl rfl (htl _ mw_40) (htl _ mw_1424) hd_yX5_chooseFrom ⟨(Nat.le_of_ble_eq_true rfl), (Nat.le_of_ble_eq_true rfl)⟩, htl _ mw_1425, htl _ mw_1426⟩ ht_a0 (by decide) tk_no rfl (tk_w.pick [1, 0] rfl) rfl hl.1 rfl (Nat.le_of_ble_eq_true rfl) dX5_chooseFrom_167 ⟨(Nat.le_of_ble_eq_true rfl), (Nat.le_of_ble_eq_true rfl)⟩ (fun H locs hpo hG hS hq9 => ?_)
                    have hf2 := hf2.call hq9 (tk_w.no ht_ld20 (by decide))
                    exact hj939 _ _ hG hS hf2 _ (lv_sub hl [0, 1, 2, 3, 4, 5] rfl)
                  refine lv_if_ge (tgt := 165) hx hb dX5_chooseFrom_158 (by decide) (fun c9 => ?_) (fun c9 => ?_)
                  · have hc959 : 0 ≤ v948.toInt := (fi_le (show (0 : Int32).toInt = 0 by decide) rfl).mp c9
                    refine lv_iconst (v := 0) hx hb dX5_chooseFrom_165 (by decide) ?_
                    have hk_0 : (0 : Int32).toInt = 0 := by decide
                    exact hj962 0 (by omega) (by omega) _ (lv_sub hl [1, 2, 3, 4, 5, 6] rfl)
                  · have hc959 : ¬ (0 ≤ v948.toInt) := fun h9 => c9 ((fi_le (show (0 : Int32).toInt = 0 by decide) rfl).mpr h9)
                    refine lv_iconst (v := 1) hx hb dX5_chooseFrom_161 (by decide) ?_
                    refine lv_goto (tgt := 166) hx hb dX5_chooseFrom_162 (by decide) ?_
                    have hk_1 : (1 : Int32).toInt = 1 := by decide
                    exact hj962 1 (by omega) (by omega) _ (lv_sub hl [1, 2, 3, 4, 5, 6] rfl)
                refine lv_if_le (tgt := 152) hx hb dX5_chooseFrom_145 (by decide) (fun c9 => ?_) (fun c9 => ?_)
                · have hc954 : v948.toInt ≤ 0 := (fi_le rfl (show (0 : Int32).toInt = 0 by decide)).mp c9
                  refine lv_iconst (v := 0) hx hb dX5_chooseFrom_152 (by decide) ?_
                  have hk_0 : (0 : Int32).toInt = 0 := by decide
                  exact hj957 0 (by omega) (by omega) _ (lv_sub hl [0, 1, 2, 3, 4, 5, 6] rfl)
                · have hc954 : ¬ (v948.toInt ≤ 0) := fun h9 => c9 ((fi_le rfl (show (0 : Int32).toInt = 0 by decide)).mpr h9)
                  refine lv_iconst (v := 1) hx hb dX5_chooseFrom_148 (by decide) ?_
                  refine lv_goto (tgt := 153) hx hb dX5_chooseFrom_149 (by decide) ?_
                  have hk_1 : (1 : Int32).toInt = 1 := by decide
                  exact hj957 1 (by omega) (by omega) _ (lv_sub hl [0, 1, 2, 3, 4, 5, 6] rfl)
      have hk_0 : (0 : Int32).toInt = 0 := by decide
      exact hl905 9 0 _ _ (by omega) (by omega) (by omega) hG hS hf2 _ (lv_sub hl [0, 1, 2, 3, 4, 5] rfl)
  · have hc4 : ¬ (7 < v3.toInt) := fun h9 => c9 ((fi_lt (show (7 : Int32).toInt = 7 by decide) rfl).mpr h9)
    refine lv_iload_n hx hb dX5_chooseFrom_11 rfl (lv_at hl 3 rfl) ?_
    refine lv_aload_n hx hb dX5_chooseFrom_12 rfl (lv_at hl 0 rfl) ?_
    refine tk_get (ci := 5) (C := RX5) (T := TX5) (N := 11) (sp := (0, (-2147483648), 2147483647, 0)) hx hb htl inX5 hown hK hG ht_a0 (by decide) tk_no rfl 9 (by decide) (htl _ mw_1421) (fun _ h9 => h9) rfl dX5_chooseFrom_13 (fun v9 hf965 hV9 => ?_)
    obtain ⟨v966, rfl, (ha_v966 : (-2147483648) ≤ v966.toInt), (hb_v966 : v966.toInt ≤ 2147483647)⟩ := hV9
    refine lv_icmp_gt (tgt := 36) hx hb dX5_chooseFrom_16 (by decide) (fun c9 => ?_) (fun c9 => ?_)
    · have hc967 : v966.toInt < p3.toInt := (fi_lt rfl rfl).mp c9
      refine lv_aload_n hx hb dX5_chooseFrom_36 rfl (lv_at hl 0 rfl) ?_
      refine lv_iload_n hx hb dX5_chooseFrom_37 rfl (lv_at hl 3 rfl) ?_
      refine tk_put (ci := 5) (v := .int p3) (ty := .int) (C := RX5) (T := TX5) (N := 11) (sp := (0, (-2147483648), 2147483647, 0)) hx hb htl inX5 tyX5 tyX5_ok nmX5 hown hK hG hS ht_a0 (by decide) tk_no rfl 9 (by decide) (htl _ mw_1421) (fun _ h9 => h9) rfl (tyX5_ok 9 (by decide)) rfl rfl rfl (tk_V0 (tk_rng _).1 (tk_rng _).2) (fun _ h => h) (tk_w.of ht_a0 (by decide) (List.mem_of_getElem? (i := 1) rfl) (Nat.le_refl _) (Nat.le_refl _)) dX5_chooseFrom_38 (fun H locs hG hS hf968 hq9 hj9 => ?_)
      have hf2 := hf2.kept (hq9 _ (tk_ne ht_ld20 ht_a0 (Or.inl (by decide))))
      refine lv_aload_n hx hb dX5_chooseFrom_41 rfl (lv_at hl 0 rfl) ?_
      refine lv_iload hx hb dX5_chooseFrom_42 (lv_at hl 4 rfl) ?_
      refine tk_put (ci := 5) (v := .int p4) (ty := .int) (C := RX5) (T := TX5) (N := 11) (sp := (0, (-2147483648), 2147483647, 0)) hx hb htl inX5 tyX5 tyX5_ok nmX5 hown hK hG hS ht_a0 (by decide) tk_no rfl 10 (by decide) (htl _ mw_1422) (fun _ h9 => h9) rfl (tyX5_ok 10 (by decide)) rfl rfl rfl (tk_V0 (tk_rng _).1 (tk_rng _).2) (fun _ h => h) (tk_w.of ht_a0 (by decide) (List.mem_of_getElem? (i := 1) rfl) (Nat.le_refl _) (Nat.le_refl _)) dX5_chooseFrom_44 (fun H locs hG hS hf970 hq9 hj9 => ?_)
      have hf2 := hf2.kept (hq9 _ (tk_ne ht_ld20 ht_a0 (Or.inl (by decide))))
      refine lv_aload_n hx hb dX5_chooseFrom_47 rfl (lv_at hl 0 rfl) ?_
      refine tk_get (ci := 5) (C := RX5) (T := TX5) (N := 11) (sp := (6, 20, 8, 0)) hx hb htl inX5 hown hK hG ht_a0 (by decide) tk_no rfl 7 (by decide) (htl _ mw_153) (fun _ h9 => h9) rfl dX5_chooseFrom_48 (fun v9 hf972 hV9 => ?_)
      obtain ⟨b973, rfl, ht_b973⟩ := hV9
      have ht_b973 : t b973 = (20, 8, 0) := ht_b973
      refine lv_iconst (v := 0) hx hb dX5_chooseFrom_51 (by decide) ?_
      refine lv_aload_n hx hb dX5_chooseFrom_52 rfl (lv_at hl 0 rfl) ?_
      refine tk_get (ci := 5) (C := RX5) (T := TX5) (N := 11) (sp := (6, 20, 8, 0)) hx hb htl inX5 hown hK hG ht_a0 (by decide) tk_no rfl 8 (by decide) (htl _ mw_154) (fun _ h9 => h9) rfl dX5_chooseFrom_53 (fun v9 hf974 hV9 => ?_)
      obtain ⟨b975, rfl, ht_b975⟩ := hV9
      have ht_b975 : t b975 = (20, 8, 0) := ht_b975
      refine lv_iconst (v := 0) hx hb dX5_chooseFrom_56 (by decide) ?_
      refine lv_bipush (v := 8) hx hb dX5_chooseFrom_57 (by decide) ?_
      refine tk_copy (SP := 0) (DP := 0) (NC := 8) hx hb (by rw [hml]; exact hl.1.symm) hown (htl _ mw_1428) (htl _ mw_655) (htl _ mw_656) (htl _ mw_657) hK hG hS ht_b973 ht_b975 (by decide) (by decide) (fun _ h => h) (fun _ => Iff.rfl) tk_no tk_no (show (0 : Int32).toInt = 0 by decide) (show (0 : Int32).toInt = 0 by decide) (show (8 : Int32).toInt = 8 by decide) (by decide) (by decide) (by decide) (by decide) (by decide) (fun _ _ _ _ _ => trivial) (tk_w.of ht_b975 (by decide) (List.mem_of_getElem? (i := 0) rfl) (Nat.le_refl _) (Nat.le_refl _)) (Nat.le_of_ble_eq_true rfl) (Nat.le_of_ble_eq_true rfl) dX5_chooseFrom_59 (fun H locs hG hS hq9 => ?_)
      have hf2 := hf2.kept (hq9 _ (tk_ne ht_ld20 ht_b975 (Or.inl (by decide))))
      exact tk_vret hx hb hr hlocks trivial hG hS dX5_chooseFrom_62
    · have hc967 : ¬ (v966.toInt < p3.toInt) := fun h9 => c9 ((fi_lt rfl rfl).mpr h9)
      refine lv_iload_n hx hb dX5_chooseFrom_19 rfl (lv_at hl 3 rfl) ?_
      refine lv_aload_n hx hb dX5_chooseFrom_20 rfl (lv_at hl 0 rfl) ?_
      refine tk_get (ci := 5) (C := RX5) (T := TX5) (N := 11) (sp := (0, (-2147483648), 2147483647, 0)) hx hb htl inX5 hown hK hG ht_a0 (by decide) tk_no rfl 9 (by decide) (htl _ mw_1421) (fun _ h9 => h9) rfl dX5_chooseFrom_21 (fun v9 hf977 hV9 => ?_)
      obtain ⟨v978, rfl, (ha_v978 : (-2147483648) ≤ v978.toInt), (hb_v978 : v978.toInt ≤ 2147483647)⟩ := hV9
      refine lv_icmp_ne (tgt := 62) hx hb dX5_chooseFrom_24 (by decide) (fun c9 => ?_) (fun c9 => ?_)
      · have hc979 : ¬ (p3.toInt = v978.toInt) := fun h9 => c9 ((fi_eq rfl rfl).mpr h9)
        exact tk_vret hx hb hr hlocks trivial hG hS dX5_chooseFrom_62
      · have hc979 : p3.toInt = v978.toInt := (fi_eq rfl rfl).mp c9
        refine lv_iload hx hb dX5_chooseFrom_27 (lv_at hl 4 rfl) ?_
        refine lv_aload_n hx hb dX5_chooseFrom_29 rfl (lv_at hl 0 rfl) ?_
        refine tk_get (ci := 5) (C := RX5) (T := TX5) (N := 11) (sp := (0, (-2147483648), 2147483647, 0)) hx hb htl inX5 hown hK hG ht_a0 (by decide) tk_no rfl 10 (by decide) (htl _ mw_1422) (fun _ h9 => h9) rfl dX5_chooseFrom_30 (fun v9 hf980 hV9 => ?_)
        obtain ⟨v981, rfl, (ha_v981 : (-2147483648) ≤ v981.toInt), (hb_v981 : v981.toInt ≤ 2147483647)⟩ := hV9
        refine lv_icmp_ge (tgt := 62) hx hb dX5_chooseFrom_33 (by decide) (fun c9 => ?_) (fun c9 => ?_)
        · have hc982 : v981.toInt ≤ p4.toInt := (fi_le rfl rfl).mp c9
          exact tk_vret hx hb hr hlocks trivial hG hS dX5_chooseFrom_62
        · have hc982 : ¬ (v981.toInt ≤ p4.toInt) := fun h9 => c9 ((fi_le rfl rfl).mpr h9)
          refine lv_aload_n hx hb dX5_chooseFrom_36 rfl (lv_at hl 0 rfl) ?_
          refine lv_iload_n hx hb dX5_chooseFrom_37 rfl (lv_at hl 3 rfl) ?_
          refine tk_put (ci := 5) (v := .int p3) (ty := .int) (C := RX5) (T := TX5) (N := 11) (sp := (0, (-2147483648), 2147483647, 0)) hx hb htl inX5 tyX5 tyX5_ok nmX5 hown hK hG hS ht_a0 (by decide) tk_no rfl 9 (by decide) (htl _ mw_1421) (fun _ h9 => h9) rfl (tyX5_ok 9 (by decide)) rfl rfl rfl (tk_V0 (tk_rng _).1 (tk_rng _).2) (fun _ h => h) (tk_w.of ht_a0 (by decide) (List.mem_of_getElem? (i := 1) rfl) (Nat.le_refl _) (Nat.le_refl _)) dX5_chooseFrom_38 (fun H locs hG hS hf983 hq9 hj9 => ?_)
          have hf2 := hf2.kept (hq9 _ (tk_ne ht_ld20 ht_a0 (Or.inl (by decide))))
          refine lv_aload_n hx hb dX5_chooseFrom_41 rfl (lv_at hl 0 rfl) ?_
          refine lv_iload hx hb dX5_chooseFrom_42 (lv_at hl 4 rfl) ?_
          refine tk_put (ci := 5) (v := .int p4) (ty := .int) (C := RX5) (T := TX5) (N := 11) (sp := (0, (-2147483648), 2147483647, 0)) hx hb htl inX5 tyX5 tyX5_ok nmX5 hown hK hG hS ht_a0 (by decide) tk_no rfl 10 (by decide) (htl _ mw_1422) (fun _ h9 => h9) rfl (tyX5_ok 10 (by decide)) rfl rfl rfl (tk_V0 (tk_rng _).1 (tk_rng _).2) (fun _ h => h) (tk_w.of ht_a0 (by decide) (List.mem_of_getElem? (i := 1) rfl) (Nat.le_refl _) (Nat.le_refl _)) dX5_chooseFrom_44 (fun H locs hG hS hf985 hq9 hj9 => ?_)
          have hf2 := hf2.kept (hq9 _ (tk_ne ht_ld20 ht_a0 (Or.inl (by decide))))
          refine lv_aload_n hx hb dX5_chooseFrom_47 rfl (lv_at hl 0 rfl) ?_
          refine tk_get (ci := 5) (C := RX5) (T := TX5) (N := 11) (sp := (6, 20, 8, 0)) hx hb htl inX5 hown hK hG ht_a0 (by decide) tk_no rfl 7 (by decide) (htl _ mw_153) (fun _ h9 => h9) rfl dX5_chooseFrom_48 (fun v9 hf987 hV9 => ?_)
          obtain ⟨b988, rfl, ht_b988⟩ := hV9
          have ht_b988 : t b988 = (20, 8, 0) := ht_b988
          refine lv_iconst (v := 0) hx hb dX5_chooseFrom_51 (by decide) ?_
          refine lv_aload_n hx hb dX5_chooseFrom_52 rfl (lv_at hl 0 rfl) ?_
          refine tk_get (ci := 5) (C := RX5) (T := TX5) (N := 11) (sp := (6, 20, 8, 0)) hx hb htl inX5 hown hK hG ht_a0 (by decide) tk_no rfl 8 (by decide) (htl _ mw_154) (fun _ h9 => h9) rfl dX5_chooseFrom_53 (fun v9 hf989 hV9 => ?_)
          obtain ⟨b990, rfl, ht_b990⟩ := hV9
          have ht_b990 : t b990 = (20, 8, 0) := ht_b990
          refine lv_iconst (v := 0) hx hb dX5_chooseFrom_56 (by decide) ?_
          refine lv_bipush (v := 8) hx hb dX5_chooseFrom_57 (by decide) ?_
          refine tk_copy (SP := 0) (DP := 0) (NC := 8) hx hb (by rw [hml]; exact hl.1.symm) hown (htl _ mw_1428) (htl _ mw_655) (htl _ mw_656) (htl _ mw_657) hK hG hS ht_b988 ht_b990 (by decide) (by decide) (fun _ h => h) (fun _ => Iff.rfl) tk_no tk_no (show (0 : Int32).toInt = 0 by decide) (show (0 : Int32).toInt = 0 by decide) (show (8 : Int32).toInt = 8 by decide) (by decide) (by decide) (by decide) (by decide) (by decide) (fun _ _ _ _ _ => trivial) (tk_w.of ht_b990 (by decide) (List.mem_of_getElem? (i := 0) rfl) (Nat.le_refl _) (Nat.le_refl _)) (Nat.le_of_ble_eq_true rfl) (Nat.le_of_ble_eq_true rfl) dX5_chooseFrom_59 (fun H locs hG hS hq9 => ?_)
          have hf2 := hf2.kept (hq9 _ (tk_ne ht_ld20 ht_b990 (Or.inl (by decide))))
          exact tk_vret hx hb hr hlocks trivial hG hS dX5_chooseFrom_62
set_option maxHeartbeats 4000000 in
set_option maxRecDepth 100000 in
theorem k_X5_chooseFrom_6 (l : Launch) (D : va_G) (cy : Nat → ClassId) (ld : Nat → Nat) (t : tk_T) (a0 : Nat) (p2 : Int32) (p3 : Int32) (p4 : Int32) (ht_a0 : t a0 = (6, 0, 0)) : Met l yX5_chooseFrom (wl yX5_chooseFrom cX5_chooseFrom 7 none) ({ frames := 6, cells := 0, slots := 0, locals := 350 }) (tp D cy ld t [] [.ref a0, .int 6, .int p2, .int p3, .int p4] (fun H => True)) (tv D cy ld t [] (fun H => True) (tk_w t [(20, 0, 0), (6, 0, 0)])) 0 0 (tk_w t [(20, 0, 0), (6, 0, 0)]) := by
  refine tk_met (y := yX5_chooseFrom) (cc := cX5_chooseFrom) (maxL := 7) (ret := none) (av := [.ref a0, .int 6, .int p2, .int p3, .int p4]) _ _ (by decide) (Nat.le_of_ble_eq_true rfl) ?_
  intro p e s m args below meth c hx hb hr hml hts htl hown hlocks hK H locs hH hG hS hB hZ ls hl
  have hown : s.vm.findClass RX5 = some m.cls := hown
  have hl : lv_has ls 7 [(0, .ref a0), (1, .int 6), (2, .int p2), (3, .int p3), (4, .int p4)] := hl
  have hr_p2 := tk_rng p2
  have hr_p3 := tk_rng p3
  have hr_p4 := tk_rng p4
  refine lv_iload_n hx hb dX5_chooseFrom_0 rfl (lv_at hl 1 rfl) ?_
  refine lv_aload_n hx hb dX5_chooseFrom_1 rfl (lv_at hl 0 rfl) ?_
  refine tk_get (ci := 5) (C := RX5) (T := TX5) (N := 11) (sp := (8, 20, 3, 0)) hx hb htl inX5 hown hK hG ht_a0 (by decide) tk_no rfl 0 (by decide) (htl _ mw_155) (fun _ h9 => h9) rfl dX5_chooseFrom_2 (fun v9 hf1 hV9 => ?_)
  obtain ⟨rfl, ht_ld20⟩ := hV9
  have ht_ld20 : t (ld 20) = (3, 0, 0) := ht_ld20
  refine fx_top (v := .ref (ld 20)) rfl ?_
  refine tk_get (ci := 2) (C := RX2) (T := TX2) (N := 20) (sp := (0, 0, 8, 0)) hx hb htl inX2 hown hK hG ht_ld20 (by decide) tk_no rfl 0 (by decide) (htl _ mw_1419) (fun _ h9 => h9) rfl dX5_chooseFrom_5 (fun v9 hf2 hV9 => ?_)
  obtain ⟨v3, rfl, (ha_v3 : 0 ≤ v3.toInt), (hb_v3 : v3.toInt ≤ 8)⟩ := hV9
  refine lv_icmp_lt (tgt := 63) hx hb dX5_chooseFrom_8 (by decide) (fun c9 => ?_) (fun c9 => ?_)
  · have hc4 : 6 < v3.toInt := (fi_lt (show (6 : Int32).toInt = 6 by decide) rfl).mp c9
    refine lv_aload_n hx hb dX5_chooseFrom_63 rfl (lv_at hl 0 rfl) ?_
    refine tk_get (ci := 5) (C := RX5) (T := TX5) (N := 11) (sp := (8, 20, 3, 0)) hx hb htl inX5 hown hK hG ht_a0 (by decide) tk_no rfl 0 (by decide) (htl _ mw_155) (fun _ h9 => h9) rfl dX5_chooseFrom_64 (fun v9 hf5 hV9 => ?_)
    obtain ⟨rfl, ht_ld20⟩ := hV9
    have ht_ld20 : t (ld 20) = (3, 0, 0) := ht_ld20
    refine fx_top (v := .ref (ld 20)) rfl ?_
    refine tk_get (ci := 2) (C := RX2) (T := TX2) (N := 20) (sp := (1, 21, 8, 0)) hx hb htl inX2 hown hK hG ht_ld20 (by decide) tk_no rfl 2 (by decide) (htl _ mw_1420) (fun _ h9 => h9) rfl dX5_chooseFrom_67 (fun v9 hf6 hV9 => ?_)
    obtain ⟨b7, rfl, ht_b7⟩ := hV9
    have ht_b7 : t b7 = (21, 8, 0) := ht_b7
    refine lv_iload_n hx hb dX5_chooseFrom_70 rfl (lv_at hl 1 rfl) ?_
    refine tk_iald hx hb hK hG ht_b7 (by decide) (fun _ h => h) tk_no (I := 6) (by decide) (by decide) (by decide) dX5_chooseFrom_71 (fun v8 hE9 _ => ?_)
    have he_v8 : 0 ≤ v8.toInt ∧ v8.toInt ≤ 1 := hE9
    have hj486 : ∀ (H : Heap) (locs : List Loc), tk_G D cy ld t [] H → va_S (tk_w t [(20, 0, 0), (6, 0, 0)]) s.heap H locs → tk_f D H (ld 20) 2 0 (.int v3) → ∀ ls : Array Slot, lv_has ls 7 [(0, .ref a0), (1, .int 6), (2, .int p2), (3, .int p3), (4, .int p4)] → W p l e ({ frames := 6, cells := 0, slots := 0, locals := 350 }) s m args below meth c H locs 0 0 (MQ below (tv D cy ld t [] (fun H => True) (tk_w t [(20, 0, 0), (6, 0, 0)])) args s 0 0 (tk_w t [(20, 0, 0), (6, 0, 0)])) (F0 m 176 ls []) := by
      intro H locs hG hS hf2 ls hl
      refine lv_aload_n hx hb dX5_chooseFrom_176 rfl (lv_at hl 0 rfl) ?_
      refine tk_get (ci := 5) (C := RX5) (T := TX5) (N := 11) (sp := (6, 20, 8, 0)) hx hb htl inX5 hown hK hG ht_a0 (by decide) tk_no rfl 7 (by decide) (htl _ mw_153) (fun _ h9 => h9) rfl dX5_chooseFrom_177 (fun v9 hf487 hV9 => ?_)
      obtain ⟨b488, rfl, ht_b488⟩ := hV9
      have ht_b488 : t b488 = (20, 8, 0) := ht_b488
      refine lv_iload_n hx hb dX5_chooseFrom_180 rfl (lv_at hl 1 rfl) ?_
      refine lv_bipush (v := 100) hx hb dX5_chooseFrom_181 (by decide) ?_
      refine tk_iast hx hb hK hG hS ht_b488 (by decide) (fun _ => Iff.rfl) tk_no (I := 6) (by decide) (by decide) (by decide) trivial (tk_w.of ht_b488 (by decide) (List.mem_of_getElem? (i := 0) rfl) (Nat.le_refl _) (Nat.le_refl _)) dX5_chooseFrom_183 (fun H locs hG hS hq9 => ?_)
      have hf2 := hf2.kept (hq9 _ (tk_ne ht_ld20 ht_b488 (Or.inl (by decide))))
      refine lv_aload_n hx hb dX5_chooseFrom_184 rfl (lv_at hl 0 rfl) ?_
      refine lv_iload_n hx hb dX5_chooseFrom_185 rfl (lv_at hl 1 rfl) ?_
      refine lv_iconst (v := 1) hx hb dX5_chooseFrom_186 (by decide) ?_
      refine lv_iadd hx hb dX5_chooseFrom_187 ?_
      refine fx_ti (v := 7) (by decide) ?_
      refine lv_iload_n hx hb dX5_chooseFrom_188 rfl (lv_at hl 2 rfl) ?_
      refine lv_iload_n hx hb dX5_chooseFrom_189 rfl (lv_at hl 3 rfl) ?_
      refine lv_iload hx hb dX5_chooseFrom_190 (lv_at hl 4 rfl) ?_
      have hk_7 : (7 : Int32).toInt = 7 := by decide
      refine tk_Vv (As := [.int 7, .int p2, .int p3, .int p4]) (rest := []) (ci := 5) ⟨hx, hb, hml, hown, hts⟩ hK hG hZ hS (k_X5_chooseFrom_7 l D cy ld t a0 p2 p3 p4 ht_a0) trivial ⟨callB_of 4 hts (wl_in mw_1427) rfl rfl rfl (htl _ mw_40) (htl _ mw_1424) hd_yX5_chooseFrom ⟨(Nat.le_of_ble_eq_true rfl), (Nat.le_of_ble_eq_true rfl)⟩, htl _ mw_1425, htl _ mw_1426⟩ ht_a0 (by decide) tk_no rfl (tk_w.pick [0, 1] rfl) rfl hl.1 rfl (Nat.le_of_ble_eq_true rfl) dX5_chooseFrom_192 ⟨(Nat.le_of_ble_eq_true rfl), (Nat.le_of_ble_eq_true rfl)⟩ (fun H locs hpo hG hS hq9 => ?_)
      have hf2 := hf2.call hq9 (tk_w.no ht_ld20 (by decide))
      exact tk_vret hx hb hr hlocks trivial hG hS dX5_chooseFrom_195
    refine lv_if_ne (tgt := 176) hx hb dX5_chooseFrom_72 (by decide) (fun c9 => ?_) (fun c9 => ?_)
    · have hc9 : ¬ (v8.toInt = 0) := fun h9 => c9 ((fi_eq rfl (show (0 : Int32).toInt = 0 by decide)).mpr h9)
      exact hj486 _ _ hG hS hf2 _ (lv_sub hl [0, 1, 2, 3, 4] rfl)
    · have hc9 : v8.toInt = 0 := (fi_eq rfl (show (0 : Int32).toInt = 0 by decide)).mp c9
      refine lv_iconst (v := 0) hx hb dX5_chooseFrom_75 (by decide) ?_
      refine lv_istore (lv' := [(5, .int 0), (0, .ref a0), (1, .int 6), (2, .int p2), (3, .int p3), (4, .int p4)]) hx hb dX5_chooseFrom_76 hl (by decide) rfl (fun ls hl => ?_)
      have hl905 : ∀ (N_l905 : Nat) (v491 : Int32) (H : Heap) (locs : List Loc), v491.toInt ≤ 8 → 0 ≤ v491.toInt → (-1) * v491.toInt + 8 < (N_l905 : Int) → tk_G D cy ld t [] H → va_S (tk_w t [(20, 0, 0), (6, 0, 0)]) s.heap H locs → tk_f D H (ld 20) 2 0 (.int v3) → ∀ ls : Array Slot, lv_has ls 7 [(5, .int v491), (0, .ref a0), (1, .int 6), (2, .int p2), (3, .int p3), (4, .int p4)] → W p l e ({ frames := 6, cells := 0, slots := 0, locals := 350 }) s m args below meth c H locs 0 0 (MQ below (tv D cy ld t [] (fun H => True) (tk_w t [(20, 0, 0), (6, 0, 0)])) args s 0 0 (tk_w t [(20, 0, 0), (6, 0, 0)])) (F0 m 78 ls []) := by
        intro N_l905
        induction N_l905 with
        | zero => intro v491 H locs hq0_l905 hq1_l905 hm_l905 hG hS hf2 ls hl; exfalso; omega
        | succ N_l905 ih_l905 =>
          intro v491 H locs hq0_l905 hq1_l905 hm_l905 hG hS hf2 ls hl
          refine lv_iload hx hb dX5_chooseFrom_78 (lv_at hl 0 rfl) ?_
          refine lv_aload_n hx hb dX5_chooseFrom_80 rfl (lv_at hl 1 rfl) ?_
          refine tk_get (ci := 5) (C := RX5) (T := TX5) (N := 11) (sp := (8, 20, 3, 0)) hx hb htl inX5 hown hK hG ht_a0 (by decide) tk_no rfl 0 (by decide) (htl _ mw_155) (fun _ h9 => h9) rfl dX5_chooseFrom_81 (fun v9 hf906 hV9 => ?_)
          obtain ⟨rfl, ht_ld20⟩ := hV9
          have ht_ld20 : t (ld 20) = (3, 0, 0) := ht_ld20
          refine fx_top (v := .ref (ld 20)) rfl ?_
          refine tk_getk (ci := 2) (C := RX2) (T := TX2) (N := 20) (sp := (0, 0, 8, 0)) hx hb htl inX2 hown hK hG ht_ld20 (by decide) tk_no rfl 0 (by decide) (htl _ mw_1419) (fun _ h9 => h9) rfl hf2 dX5_chooseFrom_84 ?_
          refine lv_icmp_ge (tgt := 176) hx hb dX5_chooseFrom_87 (by decide) (fun c9 => ?_) (fun c9 => ?_)
          · have hc907 : v3.toInt ≤ v491.toInt := (fi_le rfl rfl).mp c9
            exact hj486 _ _ hG hS hf2 _ (lv_sub hl [1, 2, 3, 4, 5] rfl)
          · have hc907 : ¬ (v3.toInt ≤ v491.toInt) := fun h9 => c9 ((fi_le rfl rfl).mpr h9)
            refine lv_aload_n hx hb dX5_chooseFrom_90 rfl (lv_at hl 1 rfl) ?_
            refine tk_get (ci := 5) (C := RX5) (T := TX5) (N := 11) (sp := (8, 20, 3, 0)) hx hb htl inX5 hown hK hG ht_a0 (by decide) tk_no rfl 0 (by decide) (htl _ mw_155) (fun _ h9 => h9) rfl dX5_chooseFrom_91 (fun v9 hf908 hV9 => ?_)
            obtain ⟨rfl, ht_ld20⟩ := hV9
            have ht_ld20 : t (ld 20) = (3, 0, 0) := ht_ld20
            refine fx_top (v := .ref (ld 20)) rfl ?_
            refine tk_get (ci := 2) (C := RX2) (T := TX2) (N := 20) (sp := (1, 21, 8, 0)) hx hb htl inX2 hown hK hG ht_ld20 (by decide) tk_no rfl 2 (by decide) (htl _ mw_1420) (fun _ h9 => h9) rfl dX5_chooseFrom_94 (fun v9 hf909 hV9 => ?_)
            obtain ⟨b910, rfl, ht_b910⟩ := hV9
            have ht_b910 : t b910 = (21, 8, 0) := ht_b910
            refine lv_iload hx hb dX5_chooseFrom_97 (lv_at hl 0 rfl) ?_
            refine tk_iald hx hb hK hG ht_b910 (by decide) (fun _ h => h) tk_no rfl (by omega) (by omega) dX5_chooseFrom_99 (fun v911 hE9 _ => ?_)
            have he_v911 : 0 ≤ v911.toInt ∧ v911.toInt ≤ 1 := hE9
            refine lv_iconst (v := 1) hx hb dX5_chooseFrom_100 (by decide) ?_
            have hj939 : ∀ (H : Heap) (locs : List Loc), tk_G D cy ld t [] H → va_S (tk_w t [(20, 0, 0), (6, 0, 0)]) s.heap H locs → tk_f D H (ld 20) 2 0 (.int v3) → ∀ ls : Array Slot, lv_has ls 7 [(5, .int v491), (0, .ref a0), (1, .int 6), (2, .int p2), (3, .int p3), (4, .int p4)] → W p l e ({ frames := 6, cells := 0, slots := 0, locals := 350 }) s m args below meth c H locs 0 0 (MQ below (tv D cy ld t [] (fun H => True) (tk_w t [(20, 0, 0), (6, 0, 0)])) args s 0 0 (tk_w t [(20, 0, 0), (6, 0, 0)])) (F0 m 170 ls []) := by
              intro H locs hG hS hf2 ls hl
              obtain ⟨v940, h_v940, e_v940⟩ := tk_inc v491 1 (by decide) (by omega) (by omega)
              refine lv_iinc (v := v940) (lv' := [(5, .int v940), (0, .ref a0), (1, .int 6), (2, .int p2), (3, .int p3), (4, .int p4)]) hx hb dX5_chooseFrom_170 hl (k := 0) rfl e_v940 (by decide) rfl (fun ls hl => ?_)
              refine lv_goto (tgt := 78) hx hb dX5_chooseFrom_173 (by decide) ?_
              exact ih_l905 v940 _ _ (by omega) (by omega) (by omega) hG hS hf2 _ (lv_sub hl [0, 1, 2, 3, 4, 5] rfl)
            refine lv_icmp_ne (tgt := 170) hx hb dX5_chooseFrom_101 (by decide) (fun c9 => ?_) (fun c9 => ?_)
            · have hc912 : ¬ (v911.toInt = 1) := fun h9 => c9 ((fi_eq rfl (show (1 : Int32).toInt = 1 by decide)).mpr h9)
              exact hj939 _ _ hG hS hf2 _ (lv_sub hl [0, 1, 2, 3, 4, 5] rfl)
            · have hc912 : v911.toInt = 1 := (fi_eq rfl (show (1 : Int32).toInt = 1 by decide)).mp c9
              refine lv_iload_n hx hb dX5_chooseFrom_104 rfl (lv_at hl 3 rfl) ?_
              refine lv_iload hx hb dX5_chooseFrom_105 (lv_at hl 0 rfl) ?_
              refine lv_ishr hx hb dX5_chooseFrom_107 ?_
              refine tk_any (fun v941 => ?_)
              refine lv_iconst (v := 1) hx hb dX5_chooseFrom_108 (by decide) ?_
              refine lv_iand hx hb dX5_chooseFrom_109 ?_
              refine tk_say (P := fun z => 0 ≤ z.toInt ∧ z.toInt ≤ 1) (tk_and v941 1 (by decide) (by decide)) (fun v942 h_v942 => ?_)
              refine lv_if_ne (tgt := 170) hx hb dX5_chooseFrom_110 (by decide) (fun c9 => ?_) (fun c9 => ?_)
              · have hc943 : ¬ (v942.toInt = 0) := fun h9 => c9 ((fi_eq rfl (show (0 : Int32).toInt = 0 by decide)).mpr h9)
                exact hj939 _ _ hG hS hf2 _ (lv_sub hl [0, 1, 2, 3, 4, 5] rfl)
              · have hc943 : v942.toInt = 0 := (fi_eq rfl (show (0 : Int32).toInt = 0 by decide)).mp c9
                refine lv_aload_n hx hb dX5_chooseFrom_113 rfl (lv_at hl 1 rfl) ?_
                refine tk_get (ci := 5) (C := RX5) (T := TX5) (N := 11) (sp := (6, 30, 8, 0)) hx hb htl inX5 hown hK hG ht_a0 (by decide) tk_no rfl 6 (by decide) (htl _ mw_152) (fun _ h9 => h9) rfl dX5_chooseFrom_114 (fun v9 hf944 hV9 => ?_)
                obtain ⟨b945, rfl, ht_b945⟩ := hV9
                have ht_b945 : t b945 = (30, 8, 0) := ht_b945
                refine lv_iload_n hx hb dX5_chooseFrom_117 rfl (lv_at hl 2 rfl) ?_
                refine tk_aald hx hb hK hG 6 rfl rfl ht_b945 (by decide) (fun _ h => h) tk_no (I := 6) (by decide) (by decide) (by decide) dX5_chooseFrom_118 (fun o946 ht_o946 => ?_)
                obtain ⟨b947, rfl, ht_b947⟩ := ht_o946
                have ht_b947 : t b947 = (20, 8, 0) := ht_b947
                refine fx_top (v := .ref b947) rfl ?_
                refine lv_iload hx hb dX5_chooseFrom_119 (lv_at hl 0 rfl) ?_
                refine tk_iald hx hb hK hG ht_b947 (by decide) (fun _ h => h) tk_no rfl (by omega) (by omega) dX5_chooseFrom_121 (fun v948 _ _ => ?_)
                have hr_v948 := tk_rng v948
                refine lv_istore (lv' := [(6, .int v948), (5, .int v491), (0, .ref a0), (1, .int 6), (2, .int p2), (3, .int p3), (4, .int p4)]) hx hb dX5_chooseFrom_122 hl (by decide) rfl (fun ls hl => ?_)
                refine lv_aload_n hx hb dX5_chooseFrom_124 rfl (lv_at hl 2 rfl) ?_
                refine tk_get (ci := 5) (C := RX5) (T := TX5) (N := 11) (sp := (6, 20, 8, 0)) hx hb htl inX5 hown hK hG ht_a0 (by decide) tk_no rfl 7 (by decide) (htl _ mw_153) (fun _ h9 => h9) rfl dX5_chooseFrom_125 (fun v9 hf949 hV9 => ?_)
                obtain ⟨b950, rfl, ht_b950⟩ := hV9
                have ht_b950 : t b950 = (20, 8, 0) := ht_b950
                refine lv_iload_n hx hb dX5_chooseFrom_128 rfl (lv_at hl 3 rfl) ?_
                refine lv_iload hx hb dX5_chooseFrom_129 (lv_at hl 1 rfl) ?_
                refine tk_iast hx hb hK hG hS ht_b950 (by decide) (fun _ => Iff.rfl) tk_no (I := 6) (by decide) (by decide) (by decide) trivial (tk_w.of ht_b950 (by decide) (List.mem_of_getElem? (i := 0) rfl) (Nat.le_refl _) (Nat.le_refl _)) dX5_chooseFrom_131 (fun H locs hG hS hq9 => ?_)
                have hf2 := hf2.kept (hq9 _ (tk_ne ht_ld20 ht_b950 (Or.inl (by decide))))
                refine lv_aload_n hx hb dX5_chooseFrom_132 rfl (lv_at hl 2 rfl) ?_
                refine lv_iload_n hx hb dX5_chooseFrom_133 rfl (lv_at hl 3 rfl) ?_
                refine lv_iconst (v := 1) hx hb dX5_chooseFrom_134 (by decide) ?_
                refine lv_iadd hx hb dX5_chooseFrom_135 ?_
                refine fx_ti (v := 7) (by decide) ?_
                refine lv_iload_n hx hb dX5_chooseFrom_136 rfl (lv_at hl 4 rfl) ?_
                refine lv_iconst (v := 1) hx hb dX5_chooseFrom_137 (by decide) ?_
                refine lv_iload hx hb dX5_chooseFrom_138 (lv_at hl 1 rfl) ?_
                refine lv_ishl hx hb dX5_chooseFrom_140 ?_
                refine tk_say (P := fun z => 1 ≤ z.toInt ∧ z.toInt ≤ 1024) (tk_shl1 v491 (by omega) (by omega)) (fun v952 h_v952 => ?_)
                refine lv_ior hx hb dX5_chooseFrom_141 ?_
                refine tk_any (fun v953 => ?_)
                refine lv_iload_n hx hb dX5_chooseFrom_142 rfl (lv_at hl 5 rfl) ?_
                refine lv_iload hx hb dX5_chooseFrom_143 (lv_at hl 0 rfl) ?_
                have hj957 : ∀ (v956 : Int32), 0 ≤ v956.toInt → v956.toInt ≤ 1 → ∀ ls : Array Slot, lv_has ls 7 [(6, .int v948), (5, .int v491), (0, .ref a0), (1, .int 6), (2, .int p2), (3, .int p3), (4, .int p4)] → W p l e ({ frames := 6, cells := 0, slots := 0, locals := 350 }) s m args below meth c H locs 0 0 (MQ below (tv D cy ld t [] (fun H => True) (tk_w t [(20, 0, 0), (6, 0, 0)])) args s 0 0 (tk_w t [(20, 0, 0), (6, 0, 0)])) (F0 m 153 ls [.int v956, .int p3, .int v953, .int 7, .ref a0]) := by
                  intro v956 hq0_j957 hq1_j957 ls hl
                  refine lv_iadd hx hb dX5_chooseFrom_153 ?_
                  obtain ⟨v958, hm_v958⟩ : ∃ z : Int32, p3 + v956 = z := ⟨_, rfl⟩
                  refine fx_ti hm_v958 ?_
                  refine lv_iload hx hb dX5_chooseFrom_154 (lv_at hl 6 rfl) ?_
                  refine lv_iload hx hb dX5_chooseFrom_156 (lv_at hl 0 rfl) ?_
                  have hj962 : ∀ (v961 : Int32), 0 ≤ v961.toInt → v961.toInt ≤ 1 → ∀ ls : Array Slot, lv_has ls 7 [(5, .int v491), (0, .ref a0), (1, .int 6), (2, .int p2), (3, .int p3), (4, .int p4)] → W p l e ({ frames := 6, cells := 0, slots := 0, locals := 350 }) s m args below meth c H locs 0 0 (MQ below (tv D cy ld t [] (fun H => True) (tk_w t [(20, 0, 0), (6, 0, 0)])) args s 0 0 (tk_w t [(20, 0, 0), (6, 0, 0)])) (F0 m 166 ls [.int v961, .int p4, .int v958, .int v953, .int 7, .ref a0]) := by
                    intro v961 hq0_j962 hq1_j962 ls hl
                    refine lv_iadd hx hb dX5_chooseFrom_166 ?_
                    obtain ⟨v963, hm_v963⟩ : ∃ z : Int32, p4 + v961 = z := ⟨_, rfl⟩
                    refine fx_ti hm_v963 ?_
                    have hk_7 : (7 : Int32).toInt = 7 := by decide
                    refine tk_Vv (As := [.int 7, .int v953, .int v958, .int v963]) (rest := []) (ci := 5) ⟨hx, hb, hml, hown, hts⟩ hK hG hZ hS (k_X5_chooseFrom_7 l D cy ld t a0 v953 v958 v963 ht_a0) trivial ⟨callB_of 4 hts (wl_in mw_1427) rfl rfl rfl (htl _ mw_40) (htl _ mw_1424) hd_yX5_chooseFrom ⟨(Nat.le_of_ble_eq_true rfl), (Nat.le_of_ble_eq_true rfl)⟩, htl _ mw_1425, htl _ mw_1426⟩ ht_a0 (by decide) tk_no rfl (tk_w.pick [0, 1] rfl) rfl hl.1 rfl (Nat.le_of_ble_eq_true rfl) dX5_chooseFrom_167 ⟨(Nat.le_of_ble_eq_true rfl), (Nat.le_of_ble_eq_true rfl)⟩ (fun H locs hpo hG hS hq9 => ?_)
                    have hf2 := hf2.call hq9 (tk_w.no ht_ld20 (by decide))
                    exact hj939 _ _ hG hS hf2 _ (lv_sub hl [0, 1, 2, 3, 4, 5] rfl)
                  refine lv_if_ge (tgt := 165) hx hb dX5_chooseFrom_158 (by decide) (fun c9 => ?_) (fun c9 => ?_)
                  · have hc959 : 0 ≤ v948.toInt := (fi_le (show (0 : Int32).toInt = 0 by decide) rfl).mp c9
                    refine lv_iconst (v := 0) hx hb dX5_chooseFrom_165 (by decide) ?_
                    have hk_0 : (0 : Int32).toInt = 0 := by decide
                    exact hj962 0 (by omega) (by omega) _ (lv_sub hl [1, 2, 3, 4, 5, 6] rfl)
                  · have hc959 : ¬ (0 ≤ v948.toInt) := fun h9 => c9 ((fi_le (show (0 : Int32).toInt = 0 by decide) rfl).mpr h9)
                    refine lv_iconst (v := 1) hx hb dX5_chooseFrom_161 (by decide) ?_
                    refine lv_goto (tgt := 166) hx hb dX5_chooseFrom_162 (by decide) ?_
                    have hk_1 : (1 : Int32).toInt = 1 := by decide
                    exact hj962 1 (by omega) (by omega) _ (lv_sub hl [1, 2, 3, 4, 5, 6] rfl)
                refine lv_if_le (tgt := 152) hx hb dX5_chooseFrom_145 (by decide) (fun c9 => ?_) (fun c9 => ?_)
                · have hc954 : v948.toInt ≤ 0 := (fi_le rfl (show (0 : Int32).toInt = 0 by decide)).mp c9
                  refine lv_iconst (v := 0) hx hb dX5_chooseFrom_152 (by decide) ?_
                  have hk_0 : (0 : Int32).toInt = 0 := by decide
                  exact hj957 0 (by omega) (by omega) _ (lv_sub hl [0, 1, 2, 3, 4, 5, 6] rfl)
                · have hc954 : ¬ (v948.toInt ≤ 0) := fun h9 => c9 ((fi_le rfl (show (0 : Int32).toInt = 0 by decide)).mpr h9)
                  refine lv_iconst (v := 1) hx hb dX5_chooseFrom_148 (by decide) ?_
                  refine lv_goto (tgt := 153) hx hb dX5_chooseFrom_149 (by decide) ?_
                  have hk_1 : (1 : Int32).toInt = 1 := by decide
                  exact hj957 1 (by omega) (by omega) _ (lv_sub hl [0, 1, 2, 3, 4, 5, 6] rfl)
      have hk_0 : (0 : Int32).toInt = 0 := by decide
      exact hl905 9 0 _ _ (by omega) (by omega) (by omega) hG hS hf2 _ (lv_sub hl [0, 1, 2, 3, 4, 5] rfl)
  · have hc4 : ¬ (6 < v3.toInt) := fun h9 => c9 ((fi_lt (show (6 : Int32).toInt = 6 by decide) rfl).mpr h9)
    refine lv_iload_n hx hb dX5_chooseFrom_11 rfl (lv_at hl 3 rfl) ?_
    refine lv_aload_n hx hb dX5_chooseFrom_12 rfl (lv_at hl 0 rfl) ?_
    refine tk_get (ci := 5) (C := RX5) (T := TX5) (N := 11) (sp := (0, (-2147483648), 2147483647, 0)) hx hb htl inX5 hown hK hG ht_a0 (by decide) tk_no rfl 9 (by decide) (htl _ mw_1421) (fun _ h9 => h9) rfl dX5_chooseFrom_13 (fun v9 hf965 hV9 => ?_)
    obtain ⟨v966, rfl, (ha_v966 : (-2147483648) ≤ v966.toInt), (hb_v966 : v966.toInt ≤ 2147483647)⟩ := hV9
    refine lv_icmp_gt (tgt := 36) hx hb dX5_chooseFrom_16 (by decide) (fun c9 => ?_) (fun c9 => ?_)
    · have hc967 : v966.toInt < p3.toInt := (fi_lt rfl rfl).mp c9
      refine lv_aload_n hx hb dX5_chooseFrom_36 rfl (lv_at hl 0 rfl) ?_
      refine lv_iload_n hx hb dX5_chooseFrom_37 rfl (lv_at hl 3 rfl) ?_
      refine tk_put (ci := 5) (v := .int p3) (ty := .int) (C := RX5) (T := TX5) (N := 11) (sp := (0, (-2147483648), 2147483647, 0)) hx hb htl inX5 tyX5 tyX5_ok nmX5 hown hK hG hS ht_a0 (by decide) tk_no rfl 9 (by decide) (htl _ mw_1421) (fun _ h9 => h9) rfl (tyX5_ok 9 (by decide)) rfl rfl rfl (tk_V0 (tk_rng _).1 (tk_rng _).2) (fun _ h => h) (tk_w.of ht_a0 (by decide) (List.mem_of_getElem? (i := 1) rfl) (Nat.le_refl _) (Nat.le_refl _)) dX5_chooseFrom_38 (fun H locs hG hS hf968 hq9 hj9 => ?_)
      have hf2 := hf2.kept (hq9 _ (tk_ne ht_ld20 ht_a0 (Or.inl (by decide))))
      refine lv_aload_n hx hb dX5_chooseFrom_41 rfl (lv_at hl 0 rfl) ?_
      refine lv_iload hx hb dX5_chooseFrom_42 (lv_at hl 4 rfl) ?_
      refine tk_put (ci := 5) (v := .int p4) (ty := .int) (C := RX5) (T := TX5) (N := 11) (sp := (0, (-2147483648), 2147483647, 0)) hx hb htl inX5 tyX5 tyX5_ok nmX5 hown hK hG hS ht_a0 (by decide) tk_no rfl 10 (by decide) (htl _ mw_1422) (fun _ h9 => h9) rfl (tyX5_ok 10 (by decide)) rfl rfl rfl (tk_V0 (tk_rng _).1 (tk_rng _).2) (fun _ h => h) (tk_w.of ht_a0 (by decide) (List.mem_of_getElem? (i := 1) rfl) (Nat.le_refl _) (Nat.le_refl _)) dX5_chooseFrom_44 (fun H locs hG hS hf970 hq9 hj9 => ?_)
      have hf2 := hf2.kept (hq9 _ (tk_ne ht_ld20 ht_a0 (Or.inl (by decide))))
      refine lv_aload_n hx hb dX5_chooseFrom_47 rfl (lv_at hl 0 rfl) ?_
      refine tk_get (ci := 5) (C := RX5) (T := TX5) (N := 11) (sp := (6, 20, 8, 0)) hx hb htl inX5 hown hK hG ht_a0 (by decide) tk_no rfl 7 (by decide) (htl _ mw_153) (fun _ h9 => h9) rfl dX5_chooseFrom_48 (fun v9 hf972 hV9 => ?_)
      obtain ⟨b973, rfl, ht_b973⟩ := hV9
      have ht_b973 : t b973 = (20, 8, 0) := ht_b973
      refine lv_iconst (v := 0) hx hb dX5_chooseFrom_51 (by decide) ?_
      refine lv_aload_n hx hb dX5_chooseFrom_52 rfl (lv_at hl 0 rfl) ?_
      refine tk_get (ci := 5) (C := RX5) (T := TX5) (N := 11) (sp := (6, 20, 8, 0)) hx hb htl inX5 hown hK hG ht_a0 (by decide) tk_no rfl 8 (by decide) (htl _ mw_154) (fun _ h9 => h9) rfl dX5_chooseFrom_53 (fun v9 hf974 hV9 => ?_)
      obtain ⟨b975, rfl, ht_b975⟩ := hV9
      have ht_b975 : t b975 = (20, 8, 0) := ht_b975
      refine lv_iconst (v := 0) hx hb dX5_chooseFrom_56 (by decide) ?_
      refine lv_bipush (v := 8) hx hb dX5_chooseFrom_57 (by decide) ?_
      refine tk_copy (SP := 0) (DP := 0) (NC := 8) hx hb (by rw [hml]; exact hl.1.symm) hown (htl _ mw_1428) (htl _ mw_655) (htl _ mw_656) (htl _ mw_657) hK hG hS ht_b973 ht_b975 (by decide) (by decide) (fun _ h => h) (fun _ => Iff.rfl) tk_no tk_no (show (0 : Int32).toInt = 0 by decide) (show (0 : Int32).toInt = 0 by decide) (show (8 : Int32).toInt = 8 by decide) (by decide) (by decide) (by decide) (by decide) (by decide) (fun _ _ _ _ _ => trivial) (tk_w.of ht_b975 (by decide) (List.mem_of_getElem? (i := 0) rfl) (Nat.le_refl _) (Nat.le_refl _)) (Nat.le_of_ble_eq_true rfl) (Nat.le_of_ble_eq_true rfl) dX5_chooseFrom_59 (fun H locs hG hS hq9 => ?_)
      have hf2 := hf2.kept (hq9 _ (tk_ne ht_ld20 ht_b975 (Or.inl (by decide))))
      exact tk_vret hx hb hr hlocks trivial hG hS dX5_chooseFrom_62
    · have hc967 : ¬ (v966.toInt < p3.toInt) := fun h9 => c9 ((fi_lt rfl rfl).mpr h9)
      refine lv_iload_n hx hb dX5_chooseFrom_19 rfl (lv_at hl 3 rfl) ?_
      refine lv_aload_n hx hb dX5_chooseFrom_20 rfl (lv_at hl 0 rfl) ?_
      refine tk_get (ci := 5) (C := RX5) (T := TX5) (N := 11) (sp := (0, (-2147483648), 2147483647, 0)) hx hb htl inX5 hown hK hG ht_a0 (by decide) tk_no rfl 9 (by decide) (htl _ mw_1421) (fun _ h9 => h9) rfl dX5_chooseFrom_21 (fun v9 hf977 hV9 => ?_)
      obtain ⟨v978, rfl, (ha_v978 : (-2147483648) ≤ v978.toInt), (hb_v978 : v978.toInt ≤ 2147483647)⟩ := hV9
      refine lv_icmp_ne (tgt := 62) hx hb dX5_chooseFrom_24 (by decide) (fun c9 => ?_) (fun c9 => ?_)
      · have hc979 : ¬ (p3.toInt = v978.toInt) := fun h9 => c9 ((fi_eq rfl rfl).mpr h9)
        exact tk_vret hx hb hr hlocks trivial hG hS dX5_chooseFrom_62
      · have hc979 : p3.toInt = v978.toInt := (fi_eq rfl rfl).mp c9
        refine lv_iload hx hb dX5_chooseFrom_27 (lv_at hl 4 rfl) ?_
        refine lv_aload_n hx hb dX5_chooseFrom_29 rfl (lv_at hl 0 rfl) ?_
        refine tk_get (ci := 5) (C := RX5) (T := TX5) (N := 11) (sp := (0, (-2147483648), 2147483647, 0)) hx hb htl inX5 hown hK hG ht_a0 (by decide) tk_no rfl 10 (by decide) (htl _ mw_1422) (fun _ h9 => h9) rfl dX5_chooseFrom_30 (fun v9 hf980 hV9 => ?_)
        obtain ⟨v981, rfl, (ha_v981 : (-2147483648) ≤ v981.toInt), (hb_v981 : v981.toInt ≤ 2147483647)⟩ := hV9
        refine lv_icmp_ge (tgt := 62) hx hb dX5_chooseFrom_33 (by decide) (fun c9 => ?_) (fun c9 => ?_)
        · have hc982 : v981.toInt ≤ p4.toInt := (fi_le rfl rfl).mp c9
          exact tk_vret hx hb hr hlocks trivial hG hS dX5_chooseFrom_62
        · have hc982 : ¬ (v981.toInt ≤ p4.toInt) := fun h9 => c9 ((fi_le rfl rfl).mpr h9)
          refine lv_aload_n hx hb dX5_chooseFrom_36 rfl (lv_at hl 0 rfl) ?_
          refine lv_iload_n hx hb dX5_chooseFrom_37 rfl (lv_at hl 3 rfl) ?_
          refine tk_put (ci := 5) (v := .int p3) (ty := .int) (C := RX5) (T := TX5) (N := 11) (sp := (0, (-2147483648), 2147483647, 0)) hx hb htl inX5 tyX5 tyX5_ok nmX5 hown hK hG hS ht_a0 (by decide) tk_no rfl 9 (by decide) (htl _ mw_1421) (fun _ h9 => h9) rfl (tyX5_ok 9 (by decide)) rfl rfl rfl (tk_V0 (tk_rng _).1 (tk_rng _).2) (fun _ h => h) (tk_w.of ht_a0 (by decide) (List.mem_of_getElem? (i := 1) rfl) (Nat.le_refl _) (Nat.le_refl _)) dX5_chooseFrom_38 (fun H locs hG hS hf983 hq9 hj9 => ?_)
          have hf2 := hf2.kept (hq9 _ (tk_ne ht_ld20 ht_a0 (Or.inl (by decide))))
          refine lv_aload_n hx hb dX5_chooseFrom_41 rfl (lv_at hl 0 rfl) ?_
          refine lv_iload hx hb dX5_chooseFrom_42 (lv_at hl 4 rfl) ?_
          refine tk_put (ci := 5) (v := .int p4) (ty := .int) (C := RX5) (T := TX5) (N := 11) (sp := (0, (-2147483648), 2147483647, 0)) hx hb htl inX5 tyX5 tyX5_ok nmX5 hown hK hG hS ht_a0 (by decide) tk_no rfl 10 (by decide) (htl _ mw_1422) (fun _ h9 => h9) rfl (tyX5_ok 10 (by decide)) rfl rfl rfl (tk_V0 (tk_rng _).1 (tk_rng _).2) (fun _ h => h) (tk_w.of ht_a0 (by decide) (List.mem_of_getElem? (i := 1) rfl) (Nat.le_refl _) (Nat.le_refl _)) dX5_chooseFrom_44 (fun H locs hG hS hf985 hq9 hj9 => ?_)
          have hf2 := hf2.kept (hq9 _ (tk_ne ht_ld20 ht_a0 (Or.inl (by decide))))
          refine lv_aload_n hx hb dX5_chooseFrom_47 rfl (lv_at hl 0 rfl) ?_
          refine tk_get (ci := 5) (C := RX5) (T := TX5) (N := 11) (sp := (6, 20, 8, 0)) hx hb htl inX5 hown hK hG ht_a0 (by decide) tk_no rfl 7 (by decide) (htl _ mw_153) (fun _ h9 => h9) rfl dX5_chooseFrom_48 (fun v9 hf987 hV9 => ?_)
          obtain ⟨b988, rfl, ht_b988⟩ := hV9
          have ht_b988 : t b988 = (20, 8, 0) := ht_b988
          refine lv_iconst (v := 0) hx hb dX5_chooseFrom_51 (by decide) ?_
          refine lv_aload_n hx hb dX5_chooseFrom_52 rfl (lv_at hl 0 rfl) ?_
          refine tk_get (ci := 5) (C := RX5) (T := TX5) (N := 11) (sp := (6, 20, 8, 0)) hx hb htl inX5 hown hK hG ht_a0 (by decide) tk_no rfl 8 (by decide) (htl _ mw_154) (fun _ h9 => h9) rfl dX5_chooseFrom_53 (fun v9 hf989 hV9 => ?_)
          obtain ⟨b990, rfl, ht_b990⟩ := hV9
          have ht_b990 : t b990 = (20, 8, 0) := ht_b990
          refine lv_iconst (v := 0) hx hb dX5_chooseFrom_56 (by decide) ?_
          refine lv_bipush (v := 8) hx hb dX5_chooseFrom_57 (by decide) ?_
          refine tk_copy (SP := 0) (DP := 0) (NC := 8) hx hb (by rw [hml]; exact hl.1.symm) hown (htl _ mw_1428) (htl _ mw_655) (htl _ mw_656) (htl _ mw_657) hK hG hS ht_b988 ht_b990 (by decide) (by decide) (fun _ h => h) (fun _ => Iff.rfl) tk_no tk_no (show (0 : Int32).toInt = 0 by decide) (show (0 : Int32).toInt = 0 by decide) (show (8 : Int32).toInt = 8 by decide) (by decide) (by decide) (by decide) (by decide) (by decide) (fun _ _ _ _ _ => trivial) (tk_w.of ht_b990 (by decide) (List.mem_of_getElem? (i := 0) rfl) (Nat.le_refl _) (Nat.le_refl _)) (Nat.le_of_ble_eq_true rfl) (Nat.le_of_ble_eq_true rfl) dX5_chooseFrom_59 (fun H locs hG hS hq9 => ?_)
          have hf2 := hf2.kept (hq9 _ (tk_ne ht_ld20 ht_b990 (Or.inl (by decide))))
          exact tk_vret hx hb hr hlocks trivial hG hS dX5_chooseFrom_62
set_option maxHeartbeats 4000000 in
set_option maxRecDepth 100000 in
theorem k_X5_chooseFrom_5 (l : Launch) (D : va_G) (cy : Nat → ClassId) (ld : Nat → Nat) (t : tk_T) (a0 : Nat) (p2 : Int32) (p3 : Int32) (p4 : Int32) (ht_a0 : t a0 = (6, 0, 0)) : Met l yX5_chooseFrom (wl yX5_chooseFrom cX5_chooseFrom 7 none) ({ frames := 7, cells := 0, slots := 0, locals := 420 }) (tp D cy ld t [] [.ref a0, .int 5, .int p2, .int p3, .int p4] (fun H => True)) (tv D cy ld t [] (fun H => True) (tk_w t [(20, 0, 0), (6, 0, 0)])) 0 0 (tk_w t [(20, 0, 0), (6, 0, 0)]) := by
  refine tk_met (y := yX5_chooseFrom) (cc := cX5_chooseFrom) (maxL := 7) (ret := none) (av := [.ref a0, .int 5, .int p2, .int p3, .int p4]) _ _ (by decide) (Nat.le_of_ble_eq_true rfl) ?_
  intro p e s m args below meth c hx hb hr hml hts htl hown hlocks hK H locs hH hG hS hB hZ ls hl
  have hown : s.vm.findClass RX5 = some m.cls := hown
  have hl : lv_has ls 7 [(0, .ref a0), (1, .int 5), (2, .int p2), (3, .int p3), (4, .int p4)] := hl
  have hr_p2 := tk_rng p2
  have hr_p3 := tk_rng p3
  have hr_p4 := tk_rng p4
  refine lv_iload_n hx hb dX5_chooseFrom_0 rfl (lv_at hl 1 rfl) ?_
  refine lv_aload_n hx hb dX5_chooseFrom_1 rfl (lv_at hl 0 rfl) ?_
  refine tk_get (ci := 5) (C := RX5) (T := TX5) (N := 11) (sp := (8, 20, 3, 0)) hx hb htl inX5 hown hK hG ht_a0 (by decide) tk_no rfl 0 (by decide) (htl _ mw_155) (fun _ h9 => h9) rfl dX5_chooseFrom_2 (fun v9 hf1 hV9 => ?_)
  obtain ⟨rfl, ht_ld20⟩ := hV9
  have ht_ld20 : t (ld 20) = (3, 0, 0) := ht_ld20
  refine fx_top (v := .ref (ld 20)) rfl ?_
  refine tk_get (ci := 2) (C := RX2) (T := TX2) (N := 20) (sp := (0, 0, 8, 0)) hx hb htl inX2 hown hK hG ht_ld20 (by decide) tk_no rfl 0 (by decide) (htl _ mw_1419) (fun _ h9 => h9) rfl dX5_chooseFrom_5 (fun v9 hf2 hV9 => ?_)
  obtain ⟨v3, rfl, (ha_v3 : 0 ≤ v3.toInt), (hb_v3 : v3.toInt ≤ 8)⟩ := hV9
  refine lv_icmp_lt (tgt := 63) hx hb dX5_chooseFrom_8 (by decide) (fun c9 => ?_) (fun c9 => ?_)
  · have hc4 : 5 < v3.toInt := (fi_lt (show (5 : Int32).toInt = 5 by decide) rfl).mp c9
    refine lv_aload_n hx hb dX5_chooseFrom_63 rfl (lv_at hl 0 rfl) ?_
    refine tk_get (ci := 5) (C := RX5) (T := TX5) (N := 11) (sp := (8, 20, 3, 0)) hx hb htl inX5 hown hK hG ht_a0 (by decide) tk_no rfl 0 (by decide) (htl _ mw_155) (fun _ h9 => h9) rfl dX5_chooseFrom_64 (fun v9 hf5 hV9 => ?_)
    obtain ⟨rfl, ht_ld20⟩ := hV9
    have ht_ld20 : t (ld 20) = (3, 0, 0) := ht_ld20
    refine fx_top (v := .ref (ld 20)) rfl ?_
    refine tk_get (ci := 2) (C := RX2) (T := TX2) (N := 20) (sp := (1, 21, 8, 0)) hx hb htl inX2 hown hK hG ht_ld20 (by decide) tk_no rfl 2 (by decide) (htl _ mw_1420) (fun _ h9 => h9) rfl dX5_chooseFrom_67 (fun v9 hf6 hV9 => ?_)
    obtain ⟨b7, rfl, ht_b7⟩ := hV9
    have ht_b7 : t b7 = (21, 8, 0) := ht_b7
    refine lv_iload_n hx hb dX5_chooseFrom_70 rfl (lv_at hl 1 rfl) ?_
    refine tk_iald hx hb hK hG ht_b7 (by decide) (fun _ h => h) tk_no (I := 5) (by decide) (by decide) (by decide) dX5_chooseFrom_71 (fun v8 hE9 _ => ?_)
    have he_v8 : 0 ≤ v8.toInt ∧ v8.toInt ≤ 1 := hE9
    have hj486 : ∀ (H : Heap) (locs : List Loc), tk_G D cy ld t [] H → va_S (tk_w t [(20, 0, 0), (6, 0, 0)]) s.heap H locs → tk_f D H (ld 20) 2 0 (.int v3) → ∀ ls : Array Slot, lv_has ls 7 [(0, .ref a0), (1, .int 5), (2, .int p2), (3, .int p3), (4, .int p4)] → W p l e ({ frames := 7, cells := 0, slots := 0, locals := 420 }) s m args below meth c H locs 0 0 (MQ below (tv D cy ld t [] (fun H => True) (tk_w t [(20, 0, 0), (6, 0, 0)])) args s 0 0 (tk_w t [(20, 0, 0), (6, 0, 0)])) (F0 m 176 ls []) := by
      intro H locs hG hS hf2 ls hl
      refine lv_aload_n hx hb dX5_chooseFrom_176 rfl (lv_at hl 0 rfl) ?_
      refine tk_get (ci := 5) (C := RX5) (T := TX5) (N := 11) (sp := (6, 20, 8, 0)) hx hb htl inX5 hown hK hG ht_a0 (by decide) tk_no rfl 7 (by decide) (htl _ mw_153) (fun _ h9 => h9) rfl dX5_chooseFrom_177 (fun v9 hf487 hV9 => ?_)
      obtain ⟨b488, rfl, ht_b488⟩ := hV9
      have ht_b488 : t b488 = (20, 8, 0) := ht_b488
      refine lv_iload_n hx hb dX5_chooseFrom_180 rfl (lv_at hl 1 rfl) ?_
      refine lv_bipush (v := 100) hx hb dX5_chooseFrom_181 (by decide) ?_
      refine tk_iast hx hb hK hG hS ht_b488 (by decide) (fun _ => Iff.rfl) tk_no (I := 5) (by decide) (by decide) (by decide) trivial (tk_w.of ht_b488 (by decide) (List.mem_of_getElem? (i := 0) rfl) (Nat.le_refl _) (Nat.le_refl _)) dX5_chooseFrom_183 (fun H locs hG hS hq9 => ?_)
      have hf2 := hf2.kept (hq9 _ (tk_ne ht_ld20 ht_b488 (Or.inl (by decide))))
      refine lv_aload_n hx hb dX5_chooseFrom_184 rfl (lv_at hl 0 rfl) ?_
      refine lv_iload_n hx hb dX5_chooseFrom_185 rfl (lv_at hl 1 rfl) ?_
      refine lv_iconst (v := 1) hx hb dX5_chooseFrom_186 (by decide) ?_
      refine lv_iadd hx hb dX5_chooseFrom_187 ?_
      refine fx_ti (v := 6) (by decide) ?_
      refine lv_iload_n hx hb dX5_chooseFrom_188 rfl (lv_at hl 2 rfl) ?_
      refine lv_iload_n hx hb dX5_chooseFrom_189 rfl (lv_at hl 3 rfl) ?_
      refine lv_iload hx hb dX5_chooseFrom_190 (lv_at hl 4 rfl) ?_
      have hk_6 : (6 : Int32).toInt = 6 := by decide
      refine tk_Vv (As := [.int 6, .int p2, .int p3, .int p4]) (rest := []) (ci := 5) ⟨hx, hb, hml, hown, hts⟩ hK hG hZ hS (k_X5_chooseFrom_6 l D cy ld t a0 p2 p3 p4 ht_a0) trivial ⟨callB_of 4 hts (wl_in mw_1427) rfl rfl rfl (htl _ mw_40) (htl _ mw_1424) hd_yX5_chooseFrom ⟨(Nat.le_of_ble_eq_true rfl), (Nat.le_of_ble_eq_true rfl)⟩, htl _ mw_1425, htl _ mw_1426⟩ ht_a0 (by decide) tk_no rfl (tk_w.pick [0, 1] rfl) rfl hl.1 rfl (Nat.le_of_ble_eq_true rfl) dX5_chooseFrom_192 ⟨(Nat.le_of_ble_eq_true rfl), (Nat.le_of_ble_eq_true rfl)⟩ (fun H locs hpo hG hS hq9 => ?_)
      have hf2 := hf2.call hq9 (tk_w.no ht_ld20 (by decide))
      exact tk_vret hx hb hr hlocks trivial hG hS dX5_chooseFrom_195
    refine lv_if_ne (tgt := 176) hx hb dX5_chooseFrom_72 (by decide) (fun c9 => ?_) (fun c9 => ?_)
    · have hc9 : ¬ (v8.toInt = 0) := fun h9 => c9 ((fi_eq rfl (show (0 : Int32).toInt = 0 by decide)).mpr h9)
      exact hj486 _ _ hG hS hf2 _ (lv_sub hl [0, 1, 2, 3, 4] rfl)
    · have hc9 : v8.toInt = 0 := (fi_eq rfl (show (0 : Int32).toInt = 0 by decide)).mp c9
      refine lv_iconst (v := 0) hx hb dX5_chooseFrom_75 (by decide) ?_
      refine lv_istore (lv' := [(5, .int 0), (0, .ref a0), (1, .int 5), (2, .int p2), (3, .int p3), (4, .int p4)]) hx hb dX5_chooseFrom_76 hl (by decide) rfl (fun ls hl => ?_)
      have hl905 : ∀ (N_l905 : Nat) (v491 : Int32) (H : Heap) (locs : List Loc), v491.toInt ≤ 8 → 0 ≤ v491.toInt → (-1) * v491.toInt + 8 < (N_l905 : Int) → tk_G D cy ld t [] H → va_S (tk_w t [(20, 0, 0), (6, 0, 0)]) s.heap H locs → tk_f D H (ld 20) 2 0 (.int v3) → ∀ ls : Array Slot, lv_has ls 7 [(5, .int v491), (0, .ref a0), (1, .int 5), (2, .int p2), (3, .int p3), (4, .int p4)] → W p l e ({ frames := 7, cells := 0, slots := 0, locals := 420 }) s m args below meth c H locs 0 0 (MQ below (tv D cy ld t [] (fun H => True) (tk_w t [(20, 0, 0), (6, 0, 0)])) args s 0 0 (tk_w t [(20, 0, 0), (6, 0, 0)])) (F0 m 78 ls []) := by
        intro N_l905
        induction N_l905 with
        | zero => intro v491 H locs hq0_l905 hq1_l905 hm_l905 hG hS hf2 ls hl; exfalso; omega
        | succ N_l905 ih_l905 =>
          intro v491 H locs hq0_l905 hq1_l905 hm_l905 hG hS hf2 ls hl
          refine lv_iload hx hb dX5_chooseFrom_78 (lv_at hl 0 rfl) ?_
          refine lv_aload_n hx hb dX5_chooseFrom_80 rfl (lv_at hl 1 rfl) ?_
          refine tk_get (ci := 5) (C := RX5) (T := TX5) (N := 11) (sp := (8, 20, 3, 0)) hx hb htl inX5 hown hK hG ht_a0 (by decide) tk_no rfl 0 (by decide) (htl _ mw_155) (fun _ h9 => h9) rfl dX5_chooseFrom_81 (fun v9 hf906 hV9 => ?_)
          obtain ⟨rfl, ht_ld20⟩ := hV9
          have ht_ld20 : t (ld 20) = (3, 0, 0) := ht_ld20
          refine fx_top (v := .ref (ld 20)) rfl ?_
          refine tk_getk (ci := 2) (C := RX2) (T := TX2) (N := 20) (sp := (0, 0, 8, 0)) hx hb htl inX2 hown hK hG ht_ld20 (by decide) tk_no rfl 0 (by decide) (htl _ mw_1419) (fun _ h9 => h9) rfl hf2 dX5_chooseFrom_84 ?_
          refine lv_icmp_ge (tgt := 176) hx hb dX5_chooseFrom_87 (by decide) (fun c9 => ?_) (fun c9 => ?_)
          · have hc907 : v3.toInt ≤ v491.toInt := (fi_le rfl rfl).mp c9
            exact hj486 _ _ hG hS hf2 _ (lv_sub hl [1, 2, 3, 4, 5] rfl)
          · have hc907 : ¬ (v3.toInt ≤ v491.toInt) := fun h9 => c9 ((fi_le rfl rfl).mpr h9)
            refine lv_aload_n hx hb dX5_chooseFrom_90 rfl (lv_at hl 1 rfl) ?_
            refine tk_get (ci := 5) (C := RX5) (T := TX5) (N := 11) (sp := (8, 20, 3, 0)) hx hb htl inX5 hown hK hG ht_a0 (by decide) tk_no rfl 0 (by decide) (htl _ mw_155) (fun _ h9 => h9) rfl dX5_chooseFrom_91 (fun v9 hf908 hV9 => ?_)
            obtain ⟨rfl, ht_ld20⟩ := hV9
            have ht_ld20 : t (ld 20) = (3, 0, 0) := ht_ld20
            refine fx_top (v := .ref (ld 20)) rfl ?_
            refine tk_get (ci := 2) (C := RX2) (T := TX2) (N := 20) (sp := (1, 21, 8, 0)) hx hb htl inX2 hown hK hG ht_ld20 (by decide) tk_no rfl 2 (by decide) (htl _ mw_1420) (fun _ h9 => h9) rfl dX5_chooseFrom_94 (fun v9 hf909 hV9 => ?_)
            obtain ⟨b910, rfl, ht_b910⟩ := hV9
            have ht_b910 : t b910 = (21, 8, 0) := ht_b910
            refine lv_iload hx hb dX5_chooseFrom_97 (lv_at hl 0 rfl) ?_
            refine tk_iald hx hb hK hG ht_b910 (by decide) (fun _ h => h) tk_no rfl (by omega) (by omega) dX5_chooseFrom_99 (fun v911 hE9 _ => ?_)
            have he_v911 : 0 ≤ v911.toInt ∧ v911.toInt ≤ 1 := hE9
            refine lv_iconst (v := 1) hx hb dX5_chooseFrom_100 (by decide) ?_
            have hj939 : ∀ (H : Heap) (locs : List Loc), tk_G D cy ld t [] H → va_S (tk_w t [(20, 0, 0), (6, 0, 0)]) s.heap H locs → tk_f D H (ld 20) 2 0 (.int v3) → ∀ ls : Array Slot, lv_has ls 7 [(5, .int v491), (0, .ref a0), (1, .int 5), (2, .int p2), (3, .int p3), (4, .int p4)] → W p l e ({ frames := 7, cells := 0, slots := 0, locals := 420 }) s m args below meth c H locs 0 0 (MQ below (tv D cy ld t [] (fun H => True) (tk_w t [(20, 0, 0), (6, 0, 0)])) args s 0 0 (tk_w t [(20, 0, 0), (6, 0, 0)])) (F0 m 170 ls []) := by
              intro H locs hG hS hf2 ls hl
              obtain ⟨v940, h_v940, e_v940⟩ := tk_inc v491 1 (by decide) (by omega) (by omega)
              refine lv_iinc (v := v940) (lv' := [(5, .int v940), (0, .ref a0), (1, .int 5), (2, .int p2), (3, .int p3), (4, .int p4)]) hx hb dX5_chooseFrom_170 hl (k := 0) rfl e_v940 (by decide) rfl (fun ls hl => ?_)
              refine lv_goto (tgt := 78) hx hb dX5_chooseFrom_173 (by decide) ?_
              exact ih_l905 v940 _ _ (by omega) (by omega) (by omega) hG hS hf2 _ (lv_sub hl [0, 1, 2, 3, 4, 5] rfl)
            refine lv_icmp_ne (tgt := 170) hx hb dX5_chooseFrom_101 (by decide) (fun c9 => ?_) (fun c9 => ?_)
            · have hc912 : ¬ (v911.toInt = 1) := fun h9 => c9 ((fi_eq rfl (show (1 : Int32).toInt = 1 by decide)).mpr h9)
              exact hj939 _ _ hG hS hf2 _ (lv_sub hl [0, 1, 2, 3, 4, 5] rfl)
            · have hc912 : v911.toInt = 1 := (fi_eq rfl (show (1 : Int32).toInt = 1 by decide)).mp c9
              refine lv_iload_n hx hb dX5_chooseFrom_104 rfl (lv_at hl 3 rfl) ?_
              refine lv_iload hx hb dX5_chooseFrom_105 (lv_at hl 0 rfl) ?_
              refine lv_ishr hx hb dX5_chooseFrom_107 ?_
              refine tk_any (fun v941 => ?_)
              refine lv_iconst (v := 1) hx hb dX5_chooseFrom_108 (by decide) ?_
              refine lv_iand hx hb dX5_chooseFrom_109 ?_
              refine tk_say (P := fun z => 0 ≤ z.toInt ∧ z.toInt ≤ 1) (tk_and v941 1 (by decide) (by decide)) (fun v942 h_v942 => ?_)
              refine lv_if_ne (tgt := 170) hx hb dX5_chooseFrom_110 (by decide) (fun c9 => ?_) (fun c9 => ?_)
              · have hc943 : ¬ (v942.toInt = 0) := fun h9 => c9 ((fi_eq rfl (show (0 : Int32).toInt = 0 by decide)).mpr h9)
                exact hj939 _ _ hG hS hf2 _ (lv_sub hl [0, 1, 2, 3, 4, 5] rfl)
              · have hc943 : v942.toInt = 0 := (fi_eq rfl (show (0 : Int32).toInt = 0 by decide)).mp c9
                refine lv_aload_n hx hb dX5_chooseFrom_113 rfl (lv_at hl 1 rfl) ?_
                refine tk_get (ci := 5) (C := RX5) (T := TX5) (N := 11) (sp := (6, 30, 8, 0)) hx hb htl inX5 hown hK hG ht_a0 (by decide) tk_no rfl 6 (by decide) (htl _ mw_152) (fun _ h9 => h9) rfl dX5_chooseFrom_114 (fun v9 hf944 hV9 => ?_)
                obtain ⟨b945, rfl, ht_b945⟩ := hV9
                have ht_b945 : t b945 = (30, 8, 0) := ht_b945
                refine lv_iload_n hx hb dX5_chooseFrom_117 rfl (lv_at hl 2 rfl) ?_
                refine tk_aald hx hb hK hG 6 rfl rfl ht_b945 (by decide) (fun _ h => h) tk_no (I := 5) (by decide) (by decide) (by decide) dX5_chooseFrom_118 (fun o946 ht_o946 => ?_)
                obtain ⟨b947, rfl, ht_b947⟩ := ht_o946
                have ht_b947 : t b947 = (20, 8, 0) := ht_b947
                refine fx_top (v := .ref b947) rfl ?_
                refine lv_iload hx hb dX5_chooseFrom_119 (lv_at hl 0 rfl) ?_
                refine tk_iald hx hb hK hG ht_b947 (by decide) (fun _ h => h) tk_no rfl (by omega) (by omega) dX5_chooseFrom_121 (fun v948 _ _ => ?_)
                have hr_v948 := tk_rng v948
                refine lv_istore (lv' := [(6, .int v948), (5, .int v491), (0, .ref a0), (1, .int 5), (2, .int p2), (3, .int p3), (4, .int p4)]) hx hb dX5_chooseFrom_122 hl (by decide) rfl (fun ls hl => ?_)
                refine lv_aload_n hx hb dX5_chooseFrom_124 rfl (lv_at hl 2 rfl) ?_
                refine tk_get (ci := 5) (C := RX5) (T := TX5) (N := 11) (sp := (6, 20, 8, 0)) hx hb htl inX5 hown hK hG ht_a0 (by decide) tk_no rfl 7 (by decide) (htl _ mw_153) (fun _ h9 => h9) rfl dX5_chooseFrom_125 (fun v9 hf949 hV9 => ?_)
                obtain ⟨b950, rfl, ht_b950⟩ := hV9
                have ht_b950 : t b950 = (20, 8, 0) := ht_b950
                refine lv_iload_n hx hb dX5_chooseFrom_128 rfl (lv_at hl 3 rfl) ?_
                refine lv_iload hx hb dX5_chooseFrom_129 (lv_at hl 1 rfl) ?_
                refine tk_iast hx hb hK hG hS ht_b950 (by decide) (fun _ => Iff.rfl) tk_no (I := 5) (by decide) (by decide) (by decide) trivial (tk_w.of ht_b950 (by decide) (List.mem_of_getElem? (i := 0) rfl) (Nat.le_refl _) (Nat.le_refl _)) dX5_chooseFrom_131 (fun H locs hG hS hq9 => ?_)
                have hf2 := hf2.kept (hq9 _ (tk_ne ht_ld20 ht_b950 (Or.inl (by decide))))
                refine lv_aload_n hx hb dX5_chooseFrom_132 rfl (lv_at hl 2 rfl) ?_
                refine lv_iload_n hx hb dX5_chooseFrom_133 rfl (lv_at hl 3 rfl) ?_
                refine lv_iconst (v := 1) hx hb dX5_chooseFrom_134 (by decide) ?_
                refine lv_iadd hx hb dX5_chooseFrom_135 ?_
                refine fx_ti (v := 6) (by decide) ?_
                refine lv_iload_n hx hb dX5_chooseFrom_136 rfl (lv_at hl 4 rfl) ?_
                refine lv_iconst (v := 1) hx hb dX5_chooseFrom_137 (by decide) ?_
                refine lv_iload hx hb dX5_chooseFrom_138 (lv_at hl 1 rfl) ?_
                refine lv_ishl hx hb dX5_chooseFrom_140 ?_
                refine tk_say (P := fun z => 1 ≤ z.toInt ∧ z.toInt ≤ 1024) (tk_shl1 v491 (by omega) (by omega)) (fun v952 h_v952 => ?_)
                refine lv_ior hx hb dX5_chooseFrom_141 ?_
                refine tk_any (fun v953 => ?_)
                refine lv_iload_n hx hb dX5_chooseFrom_142 rfl (lv_at hl 5 rfl) ?_
                refine lv_iload hx hb dX5_chooseFrom_143 (lv_at hl 0 rfl) ?_
                have hj957 : ∀ (v956 : Int32), 0 ≤ v956.toInt → v956.toInt ≤ 1 → ∀ ls : Array Slot, lv_has ls 7 [(6, .int v948), (5, .int v491), (0, .ref a0), (1, .int 5), (2, .int p2), (3, .int p3), (4, .int p4)] → W p l e ({ frames := 7, cells := 0, slots := 0, locals := 420 }) s m args below meth c H locs 0 0 (MQ below (tv D cy ld t [] (fun H => True) (tk_w t [(20, 0, 0), (6, 0, 0)])) args s 0 0 (tk_w t [(20, 0, 0), (6, 0, 0)])) (F0 m 153 ls [.int v956, .int p3, .int v953, .int 6, .ref a0]) := by
                  intro v956 hq0_j957 hq1_j957 ls hl
                  refine lv_iadd hx hb dX5_chooseFrom_153 ?_
                  obtain ⟨v958, hm_v958⟩ : ∃ z : Int32, p3 + v956 = z := ⟨_, rfl⟩
                  refine fx_ti hm_v958 ?_
                  refine lv_iload hx hb dX5_chooseFrom_154 (lv_at hl 6 rfl) ?_
                  refine lv_iload hx hb dX5_chooseFrom_156 (lv_at hl 0 rfl) ?_
                  have hj962 : ∀ (v961 : Int32), 0 ≤ v961.toInt → v961.toInt ≤ 1 → ∀ ls : Array Slot, lv_has ls 7 [(5, .int v491), (0, .ref a0), (1, .int 5), (2, .int p2), (3, .int p3), (4, .int p4)] → W p l e ({ frames := 7, cells := 0, slots := 0, locals := 420 }) s m args below meth c H locs 0 0 (MQ below (tv D cy ld t [] (fun H => True) (tk_w t [(20, 0, 0), (6, 0, 0)])) args s 0 0 (tk_w t [(20, 0, 0), (6, 0, 0)])) (F0 m 166 ls [.int v961, .int p4, .int v958, .int v953, .int 6, .ref a0]) := by
                    intro v961 hq0_j962 hq1_j962 ls hl
                    refine lv_iadd hx hb dX5_chooseFrom_166 ?_
                    obtain ⟨v963, hm_v963⟩ : ∃ z : Int32, p4 + v961 = z := ⟨_, rfl⟩
                    refine fx_ti hm_v963 ?_
                    have hk_6 : (6 : Int32).toInt = 6 := by decide
                    refine tk_Vv (As := [.int 6, .int v953, .int v958, .int v963]) (rest := []) (ci := 5) ⟨hx, hb, hml, hown, hts⟩ hK hG hZ hS (k_X5_chooseFrom_6 l D cy ld t a0 v953 v958 v963 ht_a0) trivial ⟨callB_of 4 hts (wl_in mw_1427) rfl rfl rfl (htl _ mw_40) (htl _ mw_1424) hd_yX5_chooseFrom ⟨(Nat.le_of_ble_eq_true rfl), (Nat.le_of_ble_eq_true rfl)⟩, htl _ mw_1425, htl _ mw_1426⟩ ht_a0 (by decide) tk_no rfl (tk_w.pick [0, 1] rfl) rfl hl.1 rfl (Nat.le_of_ble_eq_true rfl) dX5_chooseFrom_167 ⟨(Nat.le_of_ble_eq_true rfl), (Nat.le_of_ble_eq_true rfl)⟩ (fun H locs hpo hG hS hq9 => ?_)
                    have hf2 := hf2.call hq9 (tk_w.no ht_ld20 (by decide))
                    exact hj939 _ _ hG hS hf2 _ (lv_sub hl [0, 1, 2, 3, 4, 5] rfl)
                  refine lv_if_ge (tgt := 165) hx hb dX5_chooseFrom_158 (by decide) (fun c9 => ?_) (fun c9 => ?_)
                  · have hc959 : 0 ≤ v948.toInt := (fi_le (show (0 : Int32).toInt = 0 by decide) rfl).mp c9
                    refine lv_iconst (v := 0) hx hb dX5_chooseFrom_165 (by decide) ?_
                    have hk_0 : (0 : Int32).toInt = 0 := by decide
                    exact hj962 0 (by omega) (by omega) _ (lv_sub hl [1, 2, 3, 4, 5, 6] rfl)
                  · have hc959 : ¬ (0 ≤ v948.toInt) := fun h9 => c9 ((fi_le (show (0 : Int32).toInt = 0 by decide) rfl).mpr h9)
                    refine lv_iconst (v := 1) hx hb dX5_chooseFrom_161 (by decide) ?_
                    refine lv_goto (tgt := 166) hx hb dX5_chooseFrom_162 (by decide) ?_
                    have hk_1 : (1 : Int32).toInt = 1 := by decide
                    exact hj962 1 (by omega) (by omega) _ (lv_sub hl [1, 2, 3, 4, 5, 6] rfl)
                refine lv_if_le (tgt := 152) hx hb dX5_chooseFrom_145 (by decide) (fun c9 => ?_) (fun c9 => ?_)
                · have hc954 : v948.toInt ≤ 0 := (fi_le rfl (show (0 : Int32).toInt = 0 by decide)).mp c9
                  refine lv_iconst (v := 0) hx hb dX5_chooseFrom_152 (by decide) ?_
                  have hk_0 : (0 : Int32).toInt = 0 := by decide
                  exact hj957 0 (by omega) (by omega) _ (lv_sub hl [0, 1, 2, 3, 4, 5, 6] rfl)
                · have hc954 : ¬ (v948.toInt ≤ 0) := fun h9 => c9 ((fi_le rfl (show (0 : Int32).toInt = 0 by decide)).mpr h9)
                  refine lv_iconst (v := 1) hx hb dX5_chooseFrom_148 (by decide) ?_
                  refine lv_goto (tgt := 153) hx hb dX5_chooseFrom_149 (by decide) ?_
                  have hk_1 : (1 : Int32).toInt = 1 := by decide
                  exact hj957 1 (by omega) (by omega) _ (lv_sub hl [0, 1, 2, 3, 4, 5, 6] rfl)
      have hk_0 : (0 : Int32).toInt = 0 := by decide
      exact hl905 9 0 _ _ (by omega) (by omega) (by omega) hG hS hf2 _ (lv_sub hl [0, 1, 2, 3, 4, 5] rfl)
  · have hc4 : ¬ (5 < v3.toInt) := fun h9 => c9 ((fi_lt (show (5 : Int32).toInt = 5 by decide) rfl).mpr h9)
    refine lv_iload_n hx hb dX5_chooseFrom_11 rfl (lv_at hl 3 rfl) ?_
    refine lv_aload_n hx hb dX5_chooseFrom_12 rfl (lv_at hl 0 rfl) ?_
    refine tk_get (ci := 5) (C := RX5) (T := TX5) (N := 11) (sp := (0, (-2147483648), 2147483647, 0)) hx hb htl inX5 hown hK hG ht_a0 (by decide) tk_no rfl 9 (by decide) (htl _ mw_1421) (fun _ h9 => h9) rfl dX5_chooseFrom_13 (fun v9 hf965 hV9 => ?_)
    obtain ⟨v966, rfl, (ha_v966 : (-2147483648) ≤ v966.toInt), (hb_v966 : v966.toInt ≤ 2147483647)⟩ := hV9
    refine lv_icmp_gt (tgt := 36) hx hb dX5_chooseFrom_16 (by decide) (fun c9 => ?_) (fun c9 => ?_)
    · have hc967 : v966.toInt < p3.toInt := (fi_lt rfl rfl).mp c9
      refine lv_aload_n hx hb dX5_chooseFrom_36 rfl (lv_at hl 0 rfl) ?_
      refine lv_iload_n hx hb dX5_chooseFrom_37 rfl (lv_at hl 3 rfl) ?_
      refine tk_put (ci := 5) (v := .int p3) (ty := .int) (C := RX5) (T := TX5) (N := 11) (sp := (0, (-2147483648), 2147483647, 0)) hx hb htl inX5 tyX5 tyX5_ok nmX5 hown hK hG hS ht_a0 (by decide) tk_no rfl 9 (by decide) (htl _ mw_1421) (fun _ h9 => h9) rfl (tyX5_ok 9 (by decide)) rfl rfl rfl (tk_V0 (tk_rng _).1 (tk_rng _).2) (fun _ h => h) (tk_w.of ht_a0 (by decide) (List.mem_of_getElem? (i := 1) rfl) (Nat.le_refl _) (Nat.le_refl _)) dX5_chooseFrom_38 (fun H locs hG hS hf968 hq9 hj9 => ?_)
      have hf2 := hf2.kept (hq9 _ (tk_ne ht_ld20 ht_a0 (Or.inl (by decide))))
      refine lv_aload_n hx hb dX5_chooseFrom_41 rfl (lv_at hl 0 rfl) ?_
      refine lv_iload hx hb dX5_chooseFrom_42 (lv_at hl 4 rfl) ?_
      refine tk_put (ci := 5) (v := .int p4) (ty := .int) (C := RX5) (T := TX5) (N := 11) (sp := (0, (-2147483648), 2147483647, 0)) hx hb htl inX5 tyX5 tyX5_ok nmX5 hown hK hG hS ht_a0 (by decide) tk_no rfl 10 (by decide) (htl _ mw_1422) (fun _ h9 => h9) rfl (tyX5_ok 10 (by decide)) rfl rfl rfl (tk_V0 (tk_rng _).1 (tk_rng _).2) (fun _ h => h) (tk_w.of ht_a0 (by decide) (List.mem_of_getElem? (i := 1) rfl) (Nat.le_refl _) (Nat.le_refl _)) dX5_chooseFrom_44 (fun H locs hG hS hf970 hq9 hj9 => ?_)
      have hf2 := hf2.kept (hq9 _ (tk_ne ht_ld20 ht_a0 (Or.inl (by decide))))
      refine lv_aload_n hx hb dX5_chooseFrom_47 rfl (lv_at hl 0 rfl) ?_
      refine tk_get (ci := 5) (C := RX5) (T := TX5) (N := 11) (sp := (6, 20, 8, 0)) hx hb htl inX5 hown hK hG ht_a0 (by decide) tk_no rfl 7 (by decide) (htl _ mw_153) (fun _ h9 => h9) rfl dX5_chooseFrom_48 (fun v9 hf972 hV9 => ?_)
      obtain ⟨b973, rfl, ht_b973⟩ := hV9
      have ht_b973 : t b973 = (20, 8, 0) := ht_b973
      refine lv_iconst (v := 0) hx hb dX5_chooseFrom_51 (by decide) ?_
      refine lv_aload_n hx hb dX5_chooseFrom_52 rfl (lv_at hl 0 rfl) ?_
      refine tk_get (ci := 5) (C := RX5) (T := TX5) (N := 11) (sp := (6, 20, 8, 0)) hx hb htl inX5 hown hK hG ht_a0 (by decide) tk_no rfl 8 (by decide) (htl _ mw_154) (fun _ h9 => h9) rfl dX5_chooseFrom_53 (fun v9 hf974 hV9 => ?_)
      obtain ⟨b975, rfl, ht_b975⟩ := hV9
      have ht_b975 : t b975 = (20, 8, 0) := ht_b975
      refine lv_iconst (v := 0) hx hb dX5_chooseFrom_56 (by decide) ?_
      refine lv_bipush (v := 8) hx hb dX5_chooseFrom_57 (by decide) ?_
      refine tk_copy (SP := 0) (DP := 0) (NC := 8) hx hb (by rw [hml]; exact hl.1.symm) hown (htl _ mw_1428) (htl _ mw_655) (htl _ mw_656) (htl _ mw_657) hK hG hS ht_b973 ht_b975 (by decide) (by decide) (fun _ h => h) (fun _ => Iff.rfl) tk_no tk_no (show (0 : Int32).toInt = 0 by decide) (show (0 : Int32).toInt = 0 by decide) (show (8 : Int32).toInt = 8 by decide) (by decide) (by decide) (by decide) (by decide) (by decide) (fun _ _ _ _ _ => trivial) (tk_w.of ht_b975 (by decide) (List.mem_of_getElem? (i := 0) rfl) (Nat.le_refl _) (Nat.le_refl _)) (Nat.le_of_ble_eq_true rfl) (Nat.le_of_ble_eq_true rfl) dX5_chooseFrom_59 (fun H locs hG hS hq9 => ?_)
      have hf2 := hf2.kept (hq9 _ (tk_ne ht_ld20 ht_b975 (Or.inl (by decide))))
      exact tk_vret hx hb hr hlocks trivial hG hS dX5_chooseFrom_62
    · have hc967 : ¬ (v966.toInt < p3.toInt) := fun h9 => c9 ((fi_lt rfl rfl).mpr h9)
      refine lv_iload_n hx hb dX5_chooseFrom_19 rfl (lv_at hl 3 rfl) ?_
      refine lv_aload_n hx hb dX5_chooseFrom_20 rfl (lv_at hl 0 rfl) ?_
      refine tk_get (ci := 5) (C := RX5) (T := TX5) (N := 11) (sp := (0, (-2147483648), 2147483647, 0)) hx hb htl inX5 hown hK hG ht_a0 (by decide) tk_no rfl 9 (by decide) (htl _ mw_1421) (fun _ h9 => h9) rfl dX5_chooseFrom_21 (fun v9 hf977 hV9 => ?_)
      obtain ⟨v978, rfl, (ha_v978 : (-2147483648) ≤ v978.toInt), (hb_v978 : v978.toInt ≤ 2147483647)⟩ := hV9
      refine lv_icmp_ne (tgt := 62) hx hb dX5_chooseFrom_24 (by decide) (fun c9 => ?_) (fun c9 => ?_)
      · have hc979 : ¬ (p3.toInt = v978.toInt) := fun h9 => c9 ((fi_eq rfl rfl).mpr h9)
        exact tk_vret hx hb hr hlocks trivial hG hS dX5_chooseFrom_62
      · have hc979 : p3.toInt = v978.toInt := (fi_eq rfl rfl).mp c9
        refine lv_iload hx hb dX5_chooseFrom_27 (lv_at hl 4 rfl) ?_
        refine lv_aload_n hx hb dX5_chooseFrom_29 rfl (lv_at hl 0 rfl) ?_
        refine tk_get (ci := 5) (C := RX5) (T := TX5) (N := 11) (sp := (0, (-2147483648), 2147483647, 0)) hx hb htl inX5 hown hK hG ht_a0 (by decide) tk_no rfl 10 (by decide) (htl _ mw_1422) (fun _ h9 => h9) rfl dX5_chooseFrom_30 (fun v9 hf980 hV9 => ?_)
        obtain ⟨v981, rfl, (ha_v981 : (-2147483648) ≤ v981.toInt), (hb_v981 : v981.toInt ≤ 2147483647)⟩ := hV9
        refine lv_icmp_ge (tgt := 62) hx hb dX5_chooseFrom_33 (by decide) (fun c9 => ?_) (fun c9 => ?_)
        · have hc982 : v981.toInt ≤ p4.toInt := (fi_le rfl rfl).mp c9
          exact tk_vret hx hb hr hlocks trivial hG hS dX5_chooseFrom_62
        · have hc982 : ¬ (v981.toInt ≤ p4.toInt) := fun h9 => c9 ((fi_le rfl rfl).mpr h9)
          refine lv_aload_n hx hb dX5_chooseFrom_36 rfl (lv_at hl 0 rfl) ?_
          refine lv_iload_n hx hb dX5_chooseFrom_37 rfl (lv_at hl 3 rfl) ?_
          refine tk_put (ci := 5) (v := .int p3) (ty := .int) (C := RX5) (T := TX5) (N := 11) (sp := (0, (-2147483648), 2147483647, 0)) hx hb htl inX5 tyX5 tyX5_ok nmX5 hown hK hG hS ht_a0 (by decide) tk_no rfl 9 (by decide) (htl _ mw_1421) (fun _ h9 => h9) rfl (tyX5_ok 9 (by decide)) rfl rfl rfl (tk_V0 (tk_rng _).1 (tk_rng _).2) (fun _ h => h) (tk_w.of ht_a0 (by decide) (List.mem_of_getElem? (i := 1) rfl) (Nat.le_refl _) (Nat.le_refl _)) dX5_chooseFrom_38 (fun H locs hG hS hf983 hq9 hj9 => ?_)
          have hf2 := hf2.kept (hq9 _ (tk_ne ht_ld20 ht_a0 (Or.inl (by decide))))
          refine lv_aload_n hx hb dX5_chooseFrom_41 rfl (lv_at hl 0 rfl) ?_
          refine lv_iload hx hb dX5_chooseFrom_42 (lv_at hl 4 rfl) ?_
          refine tk_put (ci := 5) (v := .int p4) (ty := .int) (C := RX5) (T := TX5) (N := 11) (sp := (0, (-2147483648), 2147483647, 0)) hx hb htl inX5 tyX5 tyX5_ok nmX5 hown hK hG hS ht_a0 (by decide) tk_no rfl 10 (by decide) (htl _ mw_1422) (fun _ h9 => h9) rfl (tyX5_ok 10 (by decide)) rfl rfl rfl (tk_V0 (tk_rng _).1 (tk_rng _).2) (fun _ h => h) (tk_w.of ht_a0 (by decide) (List.mem_of_getElem? (i := 1) rfl) (Nat.le_refl _) (Nat.le_refl _)) dX5_chooseFrom_44 (fun H locs hG hS hf985 hq9 hj9 => ?_)
          have hf2 := hf2.kept (hq9 _ (tk_ne ht_ld20 ht_a0 (Or.inl (by decide))))
          refine lv_aload_n hx hb dX5_chooseFrom_47 rfl (lv_at hl 0 rfl) ?_
          refine tk_get (ci := 5) (C := RX5) (T := TX5) (N := 11) (sp := (6, 20, 8, 0)) hx hb htl inX5 hown hK hG ht_a0 (by decide) tk_no rfl 7 (by decide) (htl _ mw_153) (fun _ h9 => h9) rfl dX5_chooseFrom_48 (fun v9 hf987 hV9 => ?_)
          obtain ⟨b988, rfl, ht_b988⟩ := hV9
          have ht_b988 : t b988 = (20, 8, 0) := ht_b988
          refine lv_iconst (v := 0) hx hb dX5_chooseFrom_51 (by decide) ?_
          refine lv_aload_n hx hb dX5_chooseFrom_52 rfl (lv_at hl 0 rfl) ?_
          refine tk_get (ci := 5) (C := RX5) (T := TX5) (N := 11) (sp := (6, 20, 8, 0)) hx hb htl inX5 hown hK hG ht_a0 (by decide) tk_no rfl 8 (by decide) (htl _ mw_154) (fun _ h9 => h9) rfl dX5_chooseFrom_53 (fun v9 hf989 hV9 => ?_)
          obtain ⟨b990, rfl, ht_b990⟩ := hV9
          have ht_b990 : t b990 = (20, 8, 0) := ht_b990
          refine lv_iconst (v := 0) hx hb dX5_chooseFrom_56 (by decide) ?_
          refine lv_bipush (v := 8) hx hb dX5_chooseFrom_57 (by decide) ?_
          refine tk_copy (SP := 0) (DP := 0) (NC := 8) hx hb (by rw [hml]; exact hl.1.symm) hown (htl _ mw_1428) (htl _ mw_655) (htl _ mw_656) (htl _ mw_657) hK hG hS ht_b988 ht_b990 (by decide) (by decide) (fun _ h => h) (fun _ => Iff.rfl) tk_no tk_no (show (0 : Int32).toInt = 0 by decide) (show (0 : Int32).toInt = 0 by decide) (show (8 : Int32).toInt = 8 by decide) (by decide) (by decide) (by decide) (by decide) (by decide) (fun _ _ _ _ _ => trivial) (tk_w.of ht_b990 (by decide) (List.mem_of_getElem? (i := 0) rfl) (Nat.le_refl _) (Nat.le_refl _)) (Nat.le_of_ble_eq_true rfl) (Nat.le_of_ble_eq_true rfl) dX5_chooseFrom_59 (fun H locs hG hS hq9 => ?_)
          have hf2 := hf2.kept (hq9 _ (tk_ne ht_ld20 ht_b990 (Or.inl (by decide))))
          exact tk_vret hx hb hr hlocks trivial hG hS dX5_chooseFrom_62
set_option maxHeartbeats 4000000 in
set_option maxRecDepth 100000 in
theorem k_X5_chooseFrom_4 (l : Launch) (D : va_G) (cy : Nat → ClassId) (ld : Nat → Nat) (t : tk_T) (a0 : Nat) (p2 : Int32) (p3 : Int32) (p4 : Int32) (ht_a0 : t a0 = (6, 0, 0)) : Met l yX5_chooseFrom (wl yX5_chooseFrom cX5_chooseFrom 7 none) ({ frames := 8, cells := 0, slots := 0, locals := 490 }) (tp D cy ld t [] [.ref a0, .int 4, .int p2, .int p3, .int p4] (fun H => True)) (tv D cy ld t [] (fun H => True) (tk_w t [(20, 0, 0), (6, 0, 0)])) 0 0 (tk_w t [(20, 0, 0), (6, 0, 0)]) := by
  refine tk_met (y := yX5_chooseFrom) (cc := cX5_chooseFrom) (maxL := 7) (ret := none) (av := [.ref a0, .int 4, .int p2, .int p3, .int p4]) _ _ (by decide) (Nat.le_of_ble_eq_true rfl) ?_
  intro p e s m args below meth c hx hb hr hml hts htl hown hlocks hK H locs hH hG hS hB hZ ls hl
  have hown : s.vm.findClass RX5 = some m.cls := hown
  have hl : lv_has ls 7 [(0, .ref a0), (1, .int 4), (2, .int p2), (3, .int p3), (4, .int p4)] := hl
  have hr_p2 := tk_rng p2
  have hr_p3 := tk_rng p3
  have hr_p4 := tk_rng p4
  refine lv_iload_n hx hb dX5_chooseFrom_0 rfl (lv_at hl 1 rfl) ?_
  refine lv_aload_n hx hb dX5_chooseFrom_1 rfl (lv_at hl 0 rfl) ?_
  refine tk_get (ci := 5) (C := RX5) (T := TX5) (N := 11) (sp := (8, 20, 3, 0)) hx hb htl inX5 hown hK hG ht_a0 (by decide) tk_no rfl 0 (by decide) (htl _ mw_155) (fun _ h9 => h9) rfl dX5_chooseFrom_2 (fun v9 hf1 hV9 => ?_)
  obtain ⟨rfl, ht_ld20⟩ := hV9
  have ht_ld20 : t (ld 20) = (3, 0, 0) := ht_ld20
  refine fx_top (v := .ref (ld 20)) rfl ?_
  refine tk_get (ci := 2) (C := RX2) (T := TX2) (N := 20) (sp := (0, 0, 8, 0)) hx hb htl inX2 hown hK hG ht_ld20 (by decide) tk_no rfl 0 (by decide) (htl _ mw_1419) (fun _ h9 => h9) rfl dX5_chooseFrom_5 (fun v9 hf2 hV9 => ?_)
  obtain ⟨v3, rfl, (ha_v3 : 0 ≤ v3.toInt), (hb_v3 : v3.toInt ≤ 8)⟩ := hV9
  refine lv_icmp_lt (tgt := 63) hx hb dX5_chooseFrom_8 (by decide) (fun c9 => ?_) (fun c9 => ?_)
  · have hc4 : 4 < v3.toInt := (fi_lt (show (4 : Int32).toInt = 4 by decide) rfl).mp c9
    refine lv_aload_n hx hb dX5_chooseFrom_63 rfl (lv_at hl 0 rfl) ?_
    refine tk_get (ci := 5) (C := RX5) (T := TX5) (N := 11) (sp := (8, 20, 3, 0)) hx hb htl inX5 hown hK hG ht_a0 (by decide) tk_no rfl 0 (by decide) (htl _ mw_155) (fun _ h9 => h9) rfl dX5_chooseFrom_64 (fun v9 hf5 hV9 => ?_)
    obtain ⟨rfl, ht_ld20⟩ := hV9
    have ht_ld20 : t (ld 20) = (3, 0, 0) := ht_ld20
    refine fx_top (v := .ref (ld 20)) rfl ?_
    refine tk_get (ci := 2) (C := RX2) (T := TX2) (N := 20) (sp := (1, 21, 8, 0)) hx hb htl inX2 hown hK hG ht_ld20 (by decide) tk_no rfl 2 (by decide) (htl _ mw_1420) (fun _ h9 => h9) rfl dX5_chooseFrom_67 (fun v9 hf6 hV9 => ?_)
    obtain ⟨b7, rfl, ht_b7⟩ := hV9
    have ht_b7 : t b7 = (21, 8, 0) := ht_b7
    refine lv_iload_n hx hb dX5_chooseFrom_70 rfl (lv_at hl 1 rfl) ?_
    refine tk_iald hx hb hK hG ht_b7 (by decide) (fun _ h => h) tk_no (I := 4) (by decide) (by decide) (by decide) dX5_chooseFrom_71 (fun v8 hE9 _ => ?_)
    have he_v8 : 0 ≤ v8.toInt ∧ v8.toInt ≤ 1 := hE9
    have hj486 : ∀ (H : Heap) (locs : List Loc), tk_G D cy ld t [] H → va_S (tk_w t [(20, 0, 0), (6, 0, 0)]) s.heap H locs → tk_f D H (ld 20) 2 0 (.int v3) → ∀ ls : Array Slot, lv_has ls 7 [(0, .ref a0), (1, .int 4), (2, .int p2), (3, .int p3), (4, .int p4)] → W p l e ({ frames := 8, cells := 0, slots := 0, locals := 490 }) s m args below meth c H locs 0 0 (MQ below (tv D cy ld t [] (fun H => True) (tk_w t [(20, 0, 0), (6, 0, 0)])) args s 0 0 (tk_w t [(20, 0, 0), (6, 0, 0)])) (F0 m 176 ls []) := by
      intro H locs hG hS hf2 ls hl
      refine lv_aload_n hx hb dX5_chooseFrom_176 rfl (lv_at hl 0 rfl) ?_
      refine tk_get (ci := 5) (C := RX5) (T := TX5) (N := 11) (sp := (6, 20, 8, 0)) hx hb htl inX5 hown hK hG ht_a0 (by decide) tk_no rfl 7 (by decide) (htl _ mw_153) (fun _ h9 => h9) rfl dX5_chooseFrom_177 (fun v9 hf487 hV9 => ?_)
      obtain ⟨b488, rfl, ht_b488⟩ := hV9
      have ht_b488 : t b488 = (20, 8, 0) := ht_b488
      refine lv_iload_n hx hb dX5_chooseFrom_180 rfl (lv_at hl 1 rfl) ?_
      refine lv_bipush (v := 100) hx hb dX5_chooseFrom_181 (by decide) ?_
      refine tk_iast hx hb hK hG hS ht_b488 (by decide) (fun _ => Iff.rfl) tk_no (I := 4) (by decide) (by decide) (by decide) trivial (tk_w.of ht_b488 (by decide) (List.mem_of_getElem? (i := 0) rfl) (Nat.le_refl _) (Nat.le_refl _)) dX5_chooseFrom_183 (fun H locs hG hS hq9 => ?_)
      have hf2 := hf2.kept (hq9 _ (tk_ne ht_ld20 ht_b488 (Or.inl (by decide))))
      refine lv_aload_n hx hb dX5_chooseFrom_184 rfl (lv_at hl 0 rfl) ?_
      refine lv_iload_n hx hb dX5_chooseFrom_185 rfl (lv_at hl 1 rfl) ?_
      refine lv_iconst (v := 1) hx hb dX5_chooseFrom_186 (by decide) ?_
      refine lv_iadd hx hb dX5_chooseFrom_187 ?_
      refine fx_ti (v := 5) (by decide) ?_
      refine lv_iload_n hx hb dX5_chooseFrom_188 rfl (lv_at hl 2 rfl) ?_
      refine lv_iload_n hx hb dX5_chooseFrom_189 rfl (lv_at hl 3 rfl) ?_
      refine lv_iload hx hb dX5_chooseFrom_190 (lv_at hl 4 rfl) ?_
      have hk_5 : (5 : Int32).toInt = 5 := by decide
      refine tk_Vv (As := [.int 5, .int p2, .int p3, .int p4]) (rest := []) (ci := 5) ⟨hx, hb, hml, hown, hts⟩ hK hG hZ hS (k_X5_chooseFrom_5 l D cy ld t a0 p2 p3 p4 ht_a0) trivial ⟨callB_of 4 hts (wl_in mw_1427) rfl rfl rfl (htl _ mw_40) (htl _ mw_1424) hd_yX5_chooseFrom ⟨(Nat.le_of_ble_eq_true rfl), (Nat.le_of_ble_eq_true rfl)⟩, htl _ mw_1425, htl _ mw_1426⟩ ht_a0 (by decide) tk_no rfl (tk_w.pick [0, 1] rfl) rfl hl.1 rfl (Nat.le_of_ble_eq_true rfl) dX5_chooseFrom_192 ⟨(Nat.le_of_ble_eq_true rfl), (Nat.le_of_ble_eq_true rfl)⟩ (fun H locs hpo hG hS hq9 => ?_)
      have hf2 := hf2.call hq9 (tk_w.no ht_ld20 (by decide))
      exact tk_vret hx hb hr hlocks trivial hG hS dX5_chooseFrom_195
    refine lv_if_ne (tgt := 176) hx hb dX5_chooseFrom_72 (by decide) (fun c9 => ?_) (fun c9 => ?_)
    · have hc9 : ¬ (v8.toInt = 0) := fun h9 => c9 ((fi_eq rfl (show (0 : Int32).toInt = 0 by decide)).mpr h9)
      exact hj486 _ _ hG hS hf2 _ (lv_sub hl [0, 1, 2, 3, 4] rfl)
    · have hc9 : v8.toInt = 0 := (fi_eq rfl (show (0 : Int32).toInt = 0 by decide)).mp c9
      refine lv_iconst (v := 0) hx hb dX5_chooseFrom_75 (by decide) ?_
      refine lv_istore (lv' := [(5, .int 0), (0, .ref a0), (1, .int 4), (2, .int p2), (3, .int p3), (4, .int p4)]) hx hb dX5_chooseFrom_76 hl (by decide) rfl (fun ls hl => ?_)
      have hl905 : ∀ (N_l905 : Nat) (v491 : Int32) (H : Heap) (locs : List Loc), v491.toInt ≤ 8 → 0 ≤ v491.toInt → (-1) * v491.toInt + 8 < (N_l905 : Int) → tk_G D cy ld t [] H → va_S (tk_w t [(20, 0, 0), (6, 0, 0)]) s.heap H locs → tk_f D H (ld 20) 2 0 (.int v3) → ∀ ls : Array Slot, lv_has ls 7 [(5, .int v491), (0, .ref a0), (1, .int 4), (2, .int p2), (3, .int p3), (4, .int p4)] → W p l e ({ frames := 8, cells := 0, slots := 0, locals := 490 }) s m args below meth c H locs 0 0 (MQ below (tv D cy ld t [] (fun H => True) (tk_w t [(20, 0, 0), (6, 0, 0)])) args s 0 0 (tk_w t [(20, 0, 0), (6, 0, 0)])) (F0 m 78 ls []) := by
        intro N_l905
        induction N_l905 with
        | zero => intro v491 H locs hq0_l905 hq1_l905 hm_l905 hG hS hf2 ls hl; exfalso; omega
        | succ N_l905 ih_l905 =>
          intro v491 H locs hq0_l905 hq1_l905 hm_l905 hG hS hf2 ls hl
          refine lv_iload hx hb dX5_chooseFrom_78 (lv_at hl 0 rfl) ?_
          refine lv_aload_n hx hb dX5_chooseFrom_80 rfl (lv_at hl 1 rfl) ?_
          refine tk_get (ci := 5) (C := RX5) (T := TX5) (N := 11) (sp := (8, 20, 3, 0)) hx hb htl inX5 hown hK hG ht_a0 (by decide) tk_no rfl 0 (by decide) (htl _ mw_155) (fun _ h9 => h9) rfl dX5_chooseFrom_81 (fun v9 hf906 hV9 => ?_)
          obtain ⟨rfl, ht_ld20⟩ := hV9
          have ht_ld20 : t (ld 20) = (3, 0, 0) := ht_ld20
          refine fx_top (v := .ref (ld 20)) rfl ?_
          refine tk_getk (ci := 2) (C := RX2) (T := TX2) (N := 20) (sp := (0, 0, 8, 0)) hx hb htl inX2 hown hK hG ht_ld20 (by decide) tk_no rfl 0 (by decide) (htl _ mw_1419) (fun _ h9 => h9) rfl hf2 dX5_chooseFrom_84 ?_
          refine lv_icmp_ge (tgt := 176) hx hb dX5_chooseFrom_87 (by decide) (fun c9 => ?_) (fun c9 => ?_)
          · have hc907 : v3.toInt ≤ v491.toInt := (fi_le rfl rfl).mp c9
            exact hj486 _ _ hG hS hf2 _ (lv_sub hl [1, 2, 3, 4, 5] rfl)
          · have hc907 : ¬ (v3.toInt ≤ v491.toInt) := fun h9 => c9 ((fi_le rfl rfl).mpr h9)
            refine lv_aload_n hx hb dX5_chooseFrom_90 rfl (lv_at hl 1 rfl) ?_
            refine tk_get (ci := 5) (C := RX5) (T := TX5) (N := 11) (sp := (8, 20, 3, 0)) hx hb htl inX5 hown hK hG ht_a0 (by decide) tk_no rfl 0 (by decide) (htl _ mw_155) (fun _ h9 => h9) rfl dX5_chooseFrom_91 (fun v9 hf908 hV9 => ?_)
            obtain ⟨rfl, ht_ld20⟩ := hV9
            have ht_ld20 : t (ld 20) = (3, 0, 0) := ht_ld20
            refine fx_top (v := .ref (ld 20)) rfl ?_
            refine tk_get (ci := 2) (C := RX2) (T := TX2) (N := 20) (sp := (1, 21, 8, 0)) hx hb htl inX2 hown hK hG ht_ld20 (by decide) tk_no rfl 2 (by decide) (htl _ mw_1420) (fun _ h9 => h9) rfl dX5_chooseFrom_94 (fun v9 hf909 hV9 => ?_)
            obtain ⟨b910, rfl, ht_b910⟩ := hV9
            have ht_b910 : t b910 = (21, 8, 0) := ht_b910
            refine lv_iload hx hb dX5_chooseFrom_97 (lv_at hl 0 rfl) ?_
            refine tk_iald hx hb hK hG ht_b910 (by decide) (fun _ h => h) tk_no rfl (by omega) (by omega) dX5_chooseFrom_99 (fun v911 hE9 _ => ?_)
            have he_v911 : 0 ≤ v911.toInt ∧ v911.toInt ≤ 1 := hE9
            refine lv_iconst (v := 1) hx hb dX5_chooseFrom_100 (by decide) ?_
            have hj939 : ∀ (H : Heap) (locs : List Loc), tk_G D cy ld t [] H → va_S (tk_w t [(20, 0, 0), (6, 0, 0)]) s.heap H locs → tk_f D H (ld 20) 2 0 (.int v3) → ∀ ls : Array Slot, lv_has ls 7 [(5, .int v491), (0, .ref a0), (1, .int 4), (2, .int p2), (3, .int p3), (4, .int p4)] → W p l e ({ frames := 8, cells := 0, slots := 0, locals := 490 }) s m args below meth c H locs 0 0 (MQ below (tv D cy ld t [] (fun H => True) (tk_w t [(20, 0, 0), (6, 0, 0)])) args s 0 0 (tk_w t [(20, 0, 0), (6, 0, 0)])) (F0 m 170 ls []) := by
              intro H locs hG hS hf2 ls hl
              obtain ⟨v940, h_v940, e_v940⟩ := tk_inc v491 1 (by decide) (by omega) (by omega)
              refine lv_iinc (v := v940) (lv' := [(5, .int v940), (0, .ref a0), (1, .int 4), (2, .int p2), (3, .int p3), (4, .int p4)]) hx hb dX5_chooseFrom_170 hl (k := 0) rfl e_v940 (by decide) rfl (fun ls hl => ?_)
              refine lv_goto (tgt := 78) hx hb dX5_chooseFrom_173 (by decide) ?_
              exact ih_l905 v940 _ _ (by omega) (by omega) (by omega) hG hS hf2 _ (lv_sub hl [0, 1, 2, 3, 4, 5] rfl)
            refine lv_icmp_ne (tgt := 170) hx hb dX5_chooseFrom_101 (by decide) (fun c9 => ?_) (fun c9 => ?_)
            · have hc912 : ¬ (v911.toInt = 1) := fun h9 => c9 ((fi_eq rfl (show (1 : Int32).toInt = 1 by decide)).mpr h9)
              exact hj939 _ _ hG hS hf2 _ (lv_sub hl [0, 1, 2, 3, 4, 5] rfl)
            · have hc912 : v911.toInt = 1 := (fi_eq rfl (show (1 : Int32).toInt = 1 by decide)).mp c9
              refine lv_iload_n hx hb dX5_chooseFrom_104 rfl (lv_at hl 3 rfl) ?_
              refine lv_iload hx hb dX5_chooseFrom_105 (lv_at hl 0 rfl) ?_
              refine lv_ishr hx hb dX5_chooseFrom_107 ?_
              refine tk_any (fun v941 => ?_)
              refine lv_iconst (v := 1) hx hb dX5_chooseFrom_108 (by decide) ?_
              refine lv_iand hx hb dX5_chooseFrom_109 ?_
              refine tk_say (P := fun z => 0 ≤ z.toInt ∧ z.toInt ≤ 1) (tk_and v941 1 (by decide) (by decide)) (fun v942 h_v942 => ?_)
              refine lv_if_ne (tgt := 170) hx hb dX5_chooseFrom_110 (by decide) (fun c9 => ?_) (fun c9 => ?_)
              · have hc943 : ¬ (v942.toInt = 0) := fun h9 => c9 ((fi_eq rfl (show (0 : Int32).toInt = 0 by decide)).mpr h9)
                exact hj939 _ _ hG hS hf2 _ (lv_sub hl [0, 1, 2, 3, 4, 5] rfl)
              · have hc943 : v942.toInt = 0 := (fi_eq rfl (show (0 : Int32).toInt = 0 by decide)).mp c9
                refine lv_aload_n hx hb dX5_chooseFrom_113 rfl (lv_at hl 1 rfl) ?_
                refine tk_get (ci := 5) (C := RX5) (T := TX5) (N := 11) (sp := (6, 30, 8, 0)) hx hb htl inX5 hown hK hG ht_a0 (by decide) tk_no rfl 6 (by decide) (htl _ mw_152) (fun _ h9 => h9) rfl dX5_chooseFrom_114 (fun v9 hf944 hV9 => ?_)
                obtain ⟨b945, rfl, ht_b945⟩ := hV9
                have ht_b945 : t b945 = (30, 8, 0) := ht_b945
                refine lv_iload_n hx hb dX5_chooseFrom_117 rfl (lv_at hl 2 rfl) ?_
                refine tk_aald hx hb hK hG 6 rfl rfl ht_b945 (by decide) (fun _ h => h) tk_no (I := 4) (by decide) (by decide) (by decide) dX5_chooseFrom_118 (fun o946 ht_o946 => ?_)
                obtain ⟨b947, rfl, ht_b947⟩ := ht_o946
                have ht_b947 : t b947 = (20, 8, 0) := ht_b947
                refine fx_top (v := .ref b947) rfl ?_
                refine lv_iload hx hb dX5_chooseFrom_119 (lv_at hl 0 rfl) ?_
                refine tk_iald hx hb hK hG ht_b947 (by decide) (fun _ h => h) tk_no rfl (by omega) (by omega) dX5_chooseFrom_121 (fun v948 _ _ => ?_)
                have hr_v948 := tk_rng v948
                refine lv_istore (lv' := [(6, .int v948), (5, .int v491), (0, .ref a0), (1, .int 4), (2, .int p2), (3, .int p3), (4, .int p4)]) hx hb dX5_chooseFrom_122 hl (by decide) rfl (fun ls hl => ?_)
                refine lv_aload_n hx hb dX5_chooseFrom_124 rfl (lv_at hl 2 rfl) ?_
                refine tk_get (ci := 5) (C := RX5) (T := TX5) (N := 11) (sp := (6, 20, 8, 0)) hx hb htl inX5 hown hK hG ht_a0 (by decide) tk_no rfl 7 (by decide) (htl _ mw_153) (fun _ h9 => h9) rfl dX5_chooseFrom_125 (fun v9 hf949 hV9 => ?_)
                obtain ⟨b950, rfl, ht_b950⟩ := hV9
                have ht_b950 : t b950 = (20, 8, 0) := ht_b950
                refine lv_iload_n hx hb dX5_chooseFrom_128 rfl (lv_at hl 3 rfl) ?_
                refine lv_iload hx hb dX5_chooseFrom_129 (lv_at hl 1 rfl) ?_
                refine tk_iast hx hb hK hG hS ht_b950 (by decide) (fun _ => Iff.rfl) tk_no (I := 4) (by decide) (by decide) (by decide) trivial (tk_w.of ht_b950 (by decide) (List.mem_of_getElem? (i := 0) rfl) (Nat.le_refl _) (Nat.le_refl _)) dX5_chooseFrom_131 (fun H locs hG hS hq9 => ?_)
                have hf2 := hf2.kept (hq9 _ (tk_ne ht_ld20 ht_b950 (Or.inl (by decide))))
                refine lv_aload_n hx hb dX5_chooseFrom_132 rfl (lv_at hl 2 rfl) ?_
                refine lv_iload_n hx hb dX5_chooseFrom_133 rfl (lv_at hl 3 rfl) ?_
                refine lv_iconst (v := 1) hx hb dX5_chooseFrom_134 (by decide) ?_
                refine lv_iadd hx hb dX5_chooseFrom_135 ?_
                refine fx_ti (v := 5) (by decide) ?_
                refine lv_iload_n hx hb dX5_chooseFrom_136 rfl (lv_at hl 4 rfl) ?_
                refine lv_iconst (v := 1) hx hb dX5_chooseFrom_137 (by decide) ?_
                refine lv_iload hx hb dX5_chooseFrom_138 (lv_at hl 1 rfl) ?_
                refine lv_ishl hx hb dX5_chooseFrom_140 ?_
                refine tk_say (P := fun z => 1 ≤ z.toInt ∧ z.toInt ≤ 1024) (tk_shl1 v491 (by omega) (by omega)) (fun v952 h_v952 => ?_)
                refine lv_ior hx hb dX5_chooseFrom_141 ?_
                refine tk_any (fun v953 => ?_)
                refine lv_iload_n hx hb dX5_chooseFrom_142 rfl (lv_at hl 5 rfl) ?_
                refine lv_iload hx hb dX5_chooseFrom_143 (lv_at hl 0 rfl) ?_
                have hj957 : ∀ (v956 : Int32), 0 ≤ v956.toInt → v956.toInt ≤ 1 → ∀ ls : Array Slot, lv_has ls 7 [(6, .int v948), (5, .int v491), (0, .ref a0), (1, .int 4), (2, .int p2), (3, .int p3), (4, .int p4)] → W p l e ({ frames := 8, cells := 0, slots := 0, locals := 490 }) s m args below meth c H locs 0 0 (MQ below (tv D cy ld t [] (fun H => True) (tk_w t [(20, 0, 0), (6, 0, 0)])) args s 0 0 (tk_w t [(20, 0, 0), (6, 0, 0)])) (F0 m 153 ls [.int v956, .int p3, .int v953, .int 5, .ref a0]) := by
                  intro v956 hq0_j957 hq1_j957 ls hl
                  refine lv_iadd hx hb dX5_chooseFrom_153 ?_
                  obtain ⟨v958, hm_v958⟩ : ∃ z : Int32, p3 + v956 = z := ⟨_, rfl⟩
                  refine fx_ti hm_v958 ?_
                  refine lv_iload hx hb dX5_chooseFrom_154 (lv_at hl 6 rfl) ?_
                  refine lv_iload hx hb dX5_chooseFrom_156 (lv_at hl 0 rfl) ?_
                  have hj962 : ∀ (v961 : Int32), 0 ≤ v961.toInt → v961.toInt ≤ 1 → ∀ ls : Array Slot, lv_has ls 7 [(5, .int v491), (0, .ref a0), (1, .int 4), (2, .int p2), (3, .int p3), (4, .int p4)] → W p l e ({ frames := 8, cells := 0, slots := 0, locals := 490 }) s m args below meth c H locs 0 0 (MQ below (tv D cy ld t [] (fun H => True) (tk_w t [(20, 0, 0), (6, 0, 0)])) args s 0 0 (tk_w t [(20, 0, 0), (6, 0, 0)])) (F0 m 166 ls [.int v961, .int p4, .int v958, .int v953, .int 5, .ref a0]) := by
                    intro v961 hq0_j962 hq1_j962 ls hl
                    refine lv_iadd hx hb dX5_chooseFrom_166 ?_
                    obtain ⟨v963, hm_v963⟩ : ∃ z : Int32, p4 + v961 = z := ⟨_, rfl⟩
                    refine fx_ti hm_v963 ?_
                    have hk_5 : (5 : Int32).toInt = 5 := by decide
                    refine tk_Vv (As := [.int 5, .int v953, .int v958, .int v963]) (rest := []) (ci := 5) ⟨hx, hb, hml, hown, hts⟩ hK hG hZ hS (k_X5_chooseFrom_5 l D cy ld t a0 v953 v958 v963 ht_a0) trivial ⟨callB_of 4 hts (wl_in mw_1427) rfl rfl rfl (htl _ mw_40) (htl _ mw_1424) hd_yX5_chooseFrom ⟨(Nat.le_of_ble_eq_true rfl), (Nat.le_of_ble_eq_true rfl)⟩, htl _ mw_1425, htl _ mw_1426⟩ ht_a0 (by decide) tk_no rfl (tk_w.pick [0, 1] rfl) rfl hl.1 rfl (Nat.le_of_ble_eq_true rfl) dX5_chooseFrom_167 ⟨(Nat.le_of_ble_eq_true rfl), (Nat.le_of_ble_eq_true rfl)⟩ (fun H locs hpo hG hS hq9 => ?_)
                    have hf2 := hf2.call hq9 (tk_w.no ht_ld20 (by decide))
                    exact hj939 _ _ hG hS hf2 _ (lv_sub hl [0, 1, 2, 3, 4, 5] rfl)
                  refine lv_if_ge (tgt := 165) hx hb dX5_chooseFrom_158 (by decide) (fun c9 => ?_) (fun c9 => ?_)
                  · have hc959 : 0 ≤ v948.toInt := (fi_le (show (0 : Int32).toInt = 0 by decide) rfl).mp c9
                    refine lv_iconst (v := 0) hx hb dX5_chooseFrom_165 (by decide) ?_
                    have hk_0 : (0 : Int32).toInt = 0 := by decide
                    exact hj962 0 (by omega) (by omega) _ (lv_sub hl [1, 2, 3, 4, 5, 6] rfl)
                  · have hc959 : ¬ (0 ≤ v948.toInt) := fun h9 => c9 ((fi_le (show (0 : Int32).toInt = 0 by decide) rfl).mpr h9)
                    refine lv_iconst (v := 1) hx hb dX5_chooseFrom_161 (by decide) ?_
                    refine lv_goto (tgt := 166) hx hb dX5_chooseFrom_162 (by decide) ?_
                    have hk_1 : (1 : Int32).toInt = 1 := by decide
                    exact hj962 1 (by omega) (by omega) _ (lv_sub hl [1, 2, 3, 4, 5, 6] rfl)
                refine lv_if_le (tgt := 152) hx hb dX5_chooseFrom_145 (by decide) (fun c9 => ?_) (fun c9 => ?_)
                · have hc954 : v948.toInt ≤ 0 := (fi_le rfl (show (0 : Int32).toInt = 0 by decide)).mp c9
                  refine lv_iconst (v := 0) hx hb dX5_chooseFrom_152 (by decide) ?_
                  have hk_0 : (0 : Int32).toInt = 0 := by decide
                  exact hj957 0 (by omega) (by omega) _ (lv_sub hl [0, 1, 2, 3, 4, 5, 6] rfl)
                · have hc954 : ¬ (v948.toInt ≤ 0) := fun h9 => c9 ((fi_le rfl (show (0 : Int32).toInt = 0 by decide)).mpr h9)
                  refine lv_iconst (v := 1) hx hb dX5_chooseFrom_148 (by decide) ?_
                  refine lv_goto (tgt := 153) hx hb dX5_chooseFrom_149 (by decide) ?_
                  have hk_1 : (1 : Int32).toInt = 1 := by decide
                  exact hj957 1 (by omega) (by omega) _ (lv_sub hl [0, 1, 2, 3, 4, 5, 6] rfl)
      have hk_0 : (0 : Int32).toInt = 0 := by decide
      exact hl905 9 0 _ _ (by omega) (by omega) (by omega) hG hS hf2 _ (lv_sub hl [0, 1, 2, 3, 4, 5] rfl)
  · have hc4 : ¬ (4 < v3.toInt) := fun h9 => c9 ((fi_lt (show (4 : Int32).toInt = 4 by decide) rfl).mpr h9)
    refine lv_iload_n hx hb dX5_chooseFrom_11 rfl (lv_at hl 3 rfl) ?_
    refine lv_aload_n hx hb dX5_chooseFrom_12 rfl (lv_at hl 0 rfl) ?_
    refine tk_get (ci := 5) (C := RX5) (T := TX5) (N := 11) (sp := (0, (-2147483648), 2147483647, 0)) hx hb htl inX5 hown hK hG ht_a0 (by decide) tk_no rfl 9 (by decide) (htl _ mw_1421) (fun _ h9 => h9) rfl dX5_chooseFrom_13 (fun v9 hf965 hV9 => ?_)
    obtain ⟨v966, rfl, (ha_v966 : (-2147483648) ≤ v966.toInt), (hb_v966 : v966.toInt ≤ 2147483647)⟩ := hV9
    refine lv_icmp_gt (tgt := 36) hx hb dX5_chooseFrom_16 (by decide) (fun c9 => ?_) (fun c9 => ?_)
    · have hc967 : v966.toInt < p3.toInt := (fi_lt rfl rfl).mp c9
      refine lv_aload_n hx hb dX5_chooseFrom_36 rfl (lv_at hl 0 rfl) ?_
      refine lv_iload_n hx hb dX5_chooseFrom_37 rfl (lv_at hl 3 rfl) ?_
      refine tk_put (ci := 5) (v := .int p3) (ty := .int) (C := RX5) (T := TX5) (N := 11) (sp := (0, (-2147483648), 2147483647, 0)) hx hb htl inX5 tyX5 tyX5_ok nmX5 hown hK hG hS ht_a0 (by decide) tk_no rfl 9 (by decide) (htl _ mw_1421) (fun _ h9 => h9) rfl (tyX5_ok 9 (by decide)) rfl rfl rfl (tk_V0 (tk_rng _).1 (tk_rng _).2) (fun _ h => h) (tk_w.of ht_a0 (by decide) (List.mem_of_getElem? (i := 1) rfl) (Nat.le_refl _) (Nat.le_refl _)) dX5_chooseFrom_38 (fun H locs hG hS hf968 hq9 hj9 => ?_)
      have hf2 := hf2.kept (hq9 _ (tk_ne ht_ld20 ht_a0 (Or.inl (by decide))))
      refine lv_aload_n hx hb dX5_chooseFrom_41 rfl (lv_at hl 0 rfl) ?_
      refine lv_iload hx hb dX5_chooseFrom_42 (lv_at hl 4 rfl) ?_
      refine tk_put (ci := 5) (v := .int p4) (ty := .int) (C := RX5) (T := TX5) (N := 11) (sp := (0, (-2147483648), 2147483647, 0)) hx hb htl inX5 tyX5 tyX5_ok nmX5 hown hK hG hS ht_a0 (by decide) tk_no rfl 10 (by decide) (htl _ mw_1422) (fun _ h9 => h9) rfl (tyX5_ok 10 (by decide)) rfl rfl rfl (tk_V0 (tk_rng _).1 (tk_rng _).2) (fun _ h => h) (tk_w.of ht_a0 (by decide) (List.mem_of_getElem? (i := 1) rfl) (Nat.le_refl _) (Nat.le_refl _)) dX5_chooseFrom_44 (fun H locs hG hS hf970 hq9 hj9 => ?_)
      have hf2 := hf2.kept (hq9 _ (tk_ne ht_ld20 ht_a0 (Or.inl (by decide))))
      refine lv_aload_n hx hb dX5_chooseFrom_47 rfl (lv_at hl 0 rfl) ?_
      refine tk_get (ci := 5) (C := RX5) (T := TX5) (N := 11) (sp := (6, 20, 8, 0)) hx hb htl inX5 hown hK hG ht_a0 (by decide) tk_no rfl 7 (by decide) (htl _ mw_153) (fun _ h9 => h9) rfl dX5_chooseFrom_48 (fun v9 hf972 hV9 => ?_)
      obtain ⟨b973, rfl, ht_b973⟩ := hV9
      have ht_b973 : t b973 = (20, 8, 0) := ht_b973
      refine lv_iconst (v := 0) hx hb dX5_chooseFrom_51 (by decide) ?_
      refine lv_aload_n hx hb dX5_chooseFrom_52 rfl (lv_at hl 0 rfl) ?_
      refine tk_get (ci := 5) (C := RX5) (T := TX5) (N := 11) (sp := (6, 20, 8, 0)) hx hb htl inX5 hown hK hG ht_a0 (by decide) tk_no rfl 8 (by decide) (htl _ mw_154) (fun _ h9 => h9) rfl dX5_chooseFrom_53 (fun v9 hf974 hV9 => ?_)
      obtain ⟨b975, rfl, ht_b975⟩ := hV9
      have ht_b975 : t b975 = (20, 8, 0) := ht_b975
      refine lv_iconst (v := 0) hx hb dX5_chooseFrom_56 (by decide) ?_
      refine lv_bipush (v := 8) hx hb dX5_chooseFrom_57 (by decide) ?_
      refine tk_copy (SP := 0) (DP := 0) (NC := 8) hx hb (by rw [hml]; exact hl.1.symm) hown (htl _ mw_1428) (htl _ mw_655) (htl _ mw_656) (htl _ mw_657) hK hG hS ht_b973 ht_b975 (by decide) (by decide) (fun _ h => h) (fun _ => Iff.rfl) tk_no tk_no (show (0 : Int32).toInt = 0 by decide) (show (0 : Int32).toInt = 0 by decide) (show (8 : Int32).toInt = 8 by decide) (by decide) (by decide) (by decide) (by decide) (by decide) (fun _ _ _ _ _ => trivial) (tk_w.of ht_b975 (by decide) (List.mem_of_getElem? (i := 0) rfl) (Nat.le_refl _) (Nat.le_refl _)) (Nat.le_of_ble_eq_true rfl) (Nat.le_of_ble_eq_true rfl) dX5_chooseFrom_59 (fun H locs hG hS hq9 => ?_)
      have hf2 := hf2.kept (hq9 _ (tk_ne ht_ld20 ht_b975 (Or.inl (by decide))))
      exact tk_vret hx hb hr hlocks trivial hG hS dX5_chooseFrom_62
    · have hc967 : ¬ (v966.toInt < p3.toInt) := fun h9 => c9 ((fi_lt rfl rfl).mpr h9)
      refine lv_iload_n hx hb dX5_chooseFrom_19 rfl (lv_at hl 3 rfl) ?_
      refine lv_aload_n hx hb dX5_chooseFrom_20 rfl (lv_at hl 0 rfl) ?_
      refine tk_get (ci := 5) (C := RX5) (T := TX5) (N := 11) (sp := (0, (-2147483648), 2147483647, 0)) hx hb htl inX5 hown hK hG ht_a0 (by decide) tk_no rfl 9 (by decide) (htl _ mw_1421) (fun _ h9 => h9) rfl dX5_chooseFrom_21 (fun v9 hf977 hV9 => ?_)
      obtain ⟨v978, rfl, (ha_v978 : (-2147483648) ≤ v978.toInt), (hb_v978 : v978.toInt ≤ 2147483647)⟩ := hV9
      refine lv_icmp_ne (tgt := 62) hx hb dX5_chooseFrom_24 (by decide) (fun c9 => ?_) (fun c9 => ?_)
      · have hc979 : ¬ (p3.toInt = v978.toInt) := fun h9 => c9 ((fi_eq rfl rfl).mpr h9)
        exact tk_vret hx hb hr hlocks trivial hG hS dX5_chooseFrom_62
      · have hc979 : p3.toInt = v978.toInt := (fi_eq rfl rfl).mp c9
        refine lv_iload hx hb dX5_chooseFrom_27 (lv_at hl 4 rfl) ?_
        refine lv_aload_n hx hb dX5_chooseFrom_29 rfl (lv_at hl 0 rfl) ?_
        refine tk_get (ci := 5) (C := RX5) (T := TX5) (N := 11) (sp := (0, (-2147483648), 2147483647, 0)) hx hb htl inX5 hown hK hG ht_a0 (by decide) tk_no rfl 10 (by decide) (htl _ mw_1422) (fun _ h9 => h9) rfl dX5_chooseFrom_30 (fun v9 hf980 hV9 => ?_)
        obtain ⟨v981, rfl, (ha_v981 : (-2147483648) ≤ v981.toInt), (hb_v981 : v981.toInt ≤ 2147483647)⟩ := hV9
        refine lv_icmp_ge (tgt := 62) hx hb dX5_chooseFrom_33 (by decide) (fun c9 => ?_) (fun c9 => ?_)
        · have hc982 : v981.toInt ≤ p4.toInt := (fi_le rfl rfl).mp c9
          exact tk_vret hx hb hr hlocks trivial hG hS dX5_chooseFrom_62
        · have hc982 : ¬ (v981.toInt ≤ p4.toInt) := fun h9 => c9 ((fi_le rfl rfl).mpr h9)
          refine lv_aload_n hx hb dX5_chooseFrom_36 rfl (lv_at hl 0 rfl) ?_
          refine lv_iload_n hx hb dX5_chooseFrom_37 rfl (lv_at hl 3 rfl) ?_
          refine tk_put (ci := 5) (v := .int p3) (ty := .int) (C := RX5) (T := TX5) (N := 11) (sp := (0, (-2147483648), 2147483647, 0)) hx hb htl inX5 tyX5 tyX5_ok nmX5 hown hK hG hS ht_a0 (by decide) tk_no rfl 9 (by decide) (htl _ mw_1421) (fun _ h9 => h9) rfl (tyX5_ok 9 (by decide)) rfl rfl rfl (tk_V0 (tk_rng _).1 (tk_rng _).2) (fun _ h => h) (tk_w.of ht_a0 (by decide) (List.mem_of_getElem? (i := 1) rfl) (Nat.le_refl _) (Nat.le_refl _)) dX5_chooseFrom_38 (fun H locs hG hS hf983 hq9 hj9 => ?_)
          have hf2 := hf2.kept (hq9 _ (tk_ne ht_ld20 ht_a0 (Or.inl (by decide))))
          refine lv_aload_n hx hb dX5_chooseFrom_41 rfl (lv_at hl 0 rfl) ?_
          refine lv_iload hx hb dX5_chooseFrom_42 (lv_at hl 4 rfl) ?_
          refine tk_put (ci := 5) (v := .int p4) (ty := .int) (C := RX5) (T := TX5) (N := 11) (sp := (0, (-2147483648), 2147483647, 0)) hx hb htl inX5 tyX5 tyX5_ok nmX5 hown hK hG hS ht_a0 (by decide) tk_no rfl 10 (by decide) (htl _ mw_1422) (fun _ h9 => h9) rfl (tyX5_ok 10 (by decide)) rfl rfl rfl (tk_V0 (tk_rng _).1 (tk_rng _).2) (fun _ h => h) (tk_w.of ht_a0 (by decide) (List.mem_of_getElem? (i := 1) rfl) (Nat.le_refl _) (Nat.le_refl _)) dX5_chooseFrom_44 (fun H locs hG hS hf985 hq9 hj9 => ?_)
          have hf2 := hf2.kept (hq9 _ (tk_ne ht_ld20 ht_a0 (Or.inl (by decide))))
          refine lv_aload_n hx hb dX5_chooseFrom_47 rfl (lv_at hl 0 rfl) ?_
          refine tk_get (ci := 5) (C := RX5) (T := TX5) (N := 11) (sp := (6, 20, 8, 0)) hx hb htl inX5 hown hK hG ht_a0 (by decide) tk_no rfl 7 (by decide) (htl _ mw_153) (fun _ h9 => h9) rfl dX5_chooseFrom_48 (fun v9 hf987 hV9 => ?_)
          obtain ⟨b988, rfl, ht_b988⟩ := hV9
          have ht_b988 : t b988 = (20, 8, 0) := ht_b988
          refine lv_iconst (v := 0) hx hb dX5_chooseFrom_51 (by decide) ?_
          refine lv_aload_n hx hb dX5_chooseFrom_52 rfl (lv_at hl 0 rfl) ?_
          refine tk_get (ci := 5) (C := RX5) (T := TX5) (N := 11) (sp := (6, 20, 8, 0)) hx hb htl inX5 hown hK hG ht_a0 (by decide) tk_no rfl 8 (by decide) (htl _ mw_154) (fun _ h9 => h9) rfl dX5_chooseFrom_53 (fun v9 hf989 hV9 => ?_)
          obtain ⟨b990, rfl, ht_b990⟩ := hV9
          have ht_b990 : t b990 = (20, 8, 0) := ht_b990
          refine lv_iconst (v := 0) hx hb dX5_chooseFrom_56 (by decide) ?_
          refine lv_bipush (v := 8) hx hb dX5_chooseFrom_57 (by decide) ?_
          refine tk_copy (SP := 0) (DP := 0) (NC := 8) hx hb (by rw [hml]; exact hl.1.symm) hown (htl _ mw_1428) (htl _ mw_655) (htl _ mw_656) (htl _ mw_657) hK hG hS ht_b988 ht_b990 (by decide) (by decide) (fun _ h => h) (fun _ => Iff.rfl) tk_no tk_no (show (0 : Int32).toInt = 0 by decide) (show (0 : Int32).toInt = 0 by decide) (show (8 : Int32).toInt = 8 by decide) (by decide) (by decide) (by decide) (by decide) (by decide) (fun _ _ _ _ _ => trivial) (tk_w.of ht_b990 (by decide) (List.mem_of_getElem? (i := 0) rfl) (Nat.le_refl _) (Nat.le_refl _)) (Nat.le_of_ble_eq_true rfl) (Nat.le_of_ble_eq_true rfl) dX5_chooseFrom_59 (fun H locs hG hS hq9 => ?_)
          have hf2 := hf2.kept (hq9 _ (tk_ne ht_ld20 ht_b990 (Or.inl (by decide))))
          exact tk_vret hx hb hr hlocks trivial hG hS dX5_chooseFrom_62
set_option maxHeartbeats 4000000 in
set_option maxRecDepth 100000 in
theorem k_X5_chooseFrom_3 (l : Launch) (D : va_G) (cy : Nat → ClassId) (ld : Nat → Nat) (t : tk_T) (a0 : Nat) (p2 : Int32) (p3 : Int32) (p4 : Int32) (ht_a0 : t a0 = (6, 0, 0)) : Met l yX5_chooseFrom (wl yX5_chooseFrom cX5_chooseFrom 7 none) ({ frames := 9, cells := 0, slots := 0, locals := 560 }) (tp D cy ld t [] [.ref a0, .int 3, .int p2, .int p3, .int p4] (fun H => True)) (tv D cy ld t [] (fun H => True) (tk_w t [(20, 0, 0), (6, 0, 0)])) 0 0 (tk_w t [(20, 0, 0), (6, 0, 0)]) := by
  refine tk_met (y := yX5_chooseFrom) (cc := cX5_chooseFrom) (maxL := 7) (ret := none) (av := [.ref a0, .int 3, .int p2, .int p3, .int p4]) _ _ (by decide) (Nat.le_of_ble_eq_true rfl) ?_
  intro p e s m args below meth c hx hb hr hml hts htl hown hlocks hK H locs hH hG hS hB hZ ls hl
  have hown : s.vm.findClass RX5 = some m.cls := hown
  have hl : lv_has ls 7 [(0, .ref a0), (1, .int 3), (2, .int p2), (3, .int p3), (4, .int p4)] := hl
  have hr_p2 := tk_rng p2
  have hr_p3 := tk_rng p3
  have hr_p4 := tk_rng p4
  refine lv_iload_n hx hb dX5_chooseFrom_0 rfl (lv_at hl 1 rfl) ?_
  refine lv_aload_n hx hb dX5_chooseFrom_1 rfl (lv_at hl 0 rfl) ?_
  refine tk_get (ci := 5) (C := RX5) (T := TX5) (N := 11) (sp := (8, 20, 3, 0)) hx hb htl inX5 hown hK hG ht_a0 (by decide) tk_no rfl 0 (by decide) (htl _ mw_155) (fun _ h9 => h9) rfl dX5_chooseFrom_2 (fun v9 hf1 hV9 => ?_)
  obtain ⟨rfl, ht_ld20⟩ := hV9
  have ht_ld20 : t (ld 20) = (3, 0, 0) := ht_ld20
  refine fx_top (v := .ref (ld 20)) rfl ?_
  refine tk_get (ci := 2) (C := RX2) (T := TX2) (N := 20) (sp := (0, 0, 8, 0)) hx hb htl inX2 hown hK hG ht_ld20 (by decide) tk_no rfl 0 (by decide) (htl _ mw_1419) (fun _ h9 => h9) rfl dX5_chooseFrom_5 (fun v9 hf2 hV9 => ?_)
  obtain ⟨v3, rfl, (ha_v3 : 0 ≤ v3.toInt), (hb_v3 : v3.toInt ≤ 8)⟩ := hV9
  refine lv_icmp_lt (tgt := 63) hx hb dX5_chooseFrom_8 (by decide) (fun c9 => ?_) (fun c9 => ?_)
  · have hc4 : 3 < v3.toInt := (fi_lt (show (3 : Int32).toInt = 3 by decide) rfl).mp c9
    refine lv_aload_n hx hb dX5_chooseFrom_63 rfl (lv_at hl 0 rfl) ?_
    refine tk_get (ci := 5) (C := RX5) (T := TX5) (N := 11) (sp := (8, 20, 3, 0)) hx hb htl inX5 hown hK hG ht_a0 (by decide) tk_no rfl 0 (by decide) (htl _ mw_155) (fun _ h9 => h9) rfl dX5_chooseFrom_64 (fun v9 hf5 hV9 => ?_)
    obtain ⟨rfl, ht_ld20⟩ := hV9
    have ht_ld20 : t (ld 20) = (3, 0, 0) := ht_ld20
    refine fx_top (v := .ref (ld 20)) rfl ?_
    refine tk_get (ci := 2) (C := RX2) (T := TX2) (N := 20) (sp := (1, 21, 8, 0)) hx hb htl inX2 hown hK hG ht_ld20 (by decide) tk_no rfl 2 (by decide) (htl _ mw_1420) (fun _ h9 => h9) rfl dX5_chooseFrom_67 (fun v9 hf6 hV9 => ?_)
    obtain ⟨b7, rfl, ht_b7⟩ := hV9
    have ht_b7 : t b7 = (21, 8, 0) := ht_b7
    refine lv_iload_n hx hb dX5_chooseFrom_70 rfl (lv_at hl 1 rfl) ?_
    refine tk_iald hx hb hK hG ht_b7 (by decide) (fun _ h => h) tk_no (I := 3) (by decide) (by decide) (by decide) dX5_chooseFrom_71 (fun v8 hE9 _ => ?_)
    have he_v8 : 0 ≤ v8.toInt ∧ v8.toInt ≤ 1 := hE9
    have hj486 : ∀ (H : Heap) (locs : List Loc), tk_G D cy ld t [] H → va_S (tk_w t [(20, 0, 0), (6, 0, 0)]) s.heap H locs → tk_f D H (ld 20) 2 0 (.int v3) → ∀ ls : Array Slot, lv_has ls 7 [(0, .ref a0), (1, .int 3), (2, .int p2), (3, .int p3), (4, .int p4)] → W p l e ({ frames := 9, cells := 0, slots := 0, locals := 560 }) s m args below meth c H locs 0 0 (MQ below (tv D cy ld t [] (fun H => True) (tk_w t [(20, 0, 0), (6, 0, 0)])) args s 0 0 (tk_w t [(20, 0, 0), (6, 0, 0)])) (F0 m 176 ls []) := by
      intro H locs hG hS hf2 ls hl
      refine lv_aload_n hx hb dX5_chooseFrom_176 rfl (lv_at hl 0 rfl) ?_
      refine tk_get (ci := 5) (C := RX5) (T := TX5) (N := 11) (sp := (6, 20, 8, 0)) hx hb htl inX5 hown hK hG ht_a0 (by decide) tk_no rfl 7 (by decide) (htl _ mw_153) (fun _ h9 => h9) rfl dX5_chooseFrom_177 (fun v9 hf487 hV9 => ?_)
      obtain ⟨b488, rfl, ht_b488⟩ := hV9
      have ht_b488 : t b488 = (20, 8, 0) := ht_b488
      refine lv_iload_n hx hb dX5_chooseFrom_180 rfl (lv_at hl 1 rfl) ?_
      refine lv_bipush (v := 100) hx hb dX5_chooseFrom_181 (by decide) ?_
      refine tk_iast hx hb hK hG hS ht_b488 (by decide) (fun _ => Iff.rfl) tk_no (I := 3) (by decide) (by decide) (by decide) trivial (tk_w.of ht_b488 (by decide) (List.mem_of_getElem? (i := 0) rfl) (Nat.le_refl _) (Nat.le_refl _)) dX5_chooseFrom_183 (fun H locs hG hS hq9 => ?_)
      have hf2 := hf2.kept (hq9 _ (tk_ne ht_ld20 ht_b488 (Or.inl (by decide))))
      refine lv_aload_n hx hb dX5_chooseFrom_184 rfl (lv_at hl 0 rfl) ?_
      refine lv_iload_n hx hb dX5_chooseFrom_185 rfl (lv_at hl 1 rfl) ?_
      refine lv_iconst (v := 1) hx hb dX5_chooseFrom_186 (by decide) ?_
      refine lv_iadd hx hb dX5_chooseFrom_187 ?_
      refine fx_ti (v := 4) (by decide) ?_
      refine lv_iload_n hx hb dX5_chooseFrom_188 rfl (lv_at hl 2 rfl) ?_
      refine lv_iload_n hx hb dX5_chooseFrom_189 rfl (lv_at hl 3 rfl) ?_
      refine lv_iload hx hb dX5_chooseFrom_190 (lv_at hl 4 rfl) ?_
      have hk_4 : (4 : Int32).toInt = 4 := by decide
      refine tk_Vv (As := [.int 4, .int p2, .int p3, .int p4]) (rest := []) (ci := 5) ⟨hx, hb, hml, hown, hts⟩ hK hG hZ hS (k_X5_chooseFrom_4 l D cy ld t a0 p2 p3 p4 ht_a0) trivial ⟨callB_of 4 hts (wl_in mw_1427) rfl rfl rfl (htl _ mw_40) (htl _ mw_1424) hd_yX5_chooseFrom ⟨(Nat.le_of_ble_eq_true rfl), (Nat.le_of_ble_eq_true rfl)⟩, htl _ mw_1425, htl _ mw_1426⟩ ht_a0 (by decide) tk_no rfl (tk_w.pick [0, 1] rfl) rfl hl.1 rfl (Nat.le_of_ble_eq_true rfl) dX5_chooseFrom_192 ⟨(Nat.le_of_ble_eq_true rfl), (Nat.le_of_ble_eq_true rfl)⟩ (fun H locs hpo hG hS hq9 => ?_)
      have hf2 := hf2.call hq9 (tk_w.no ht_ld20 (by decide))
      exact tk_vret hx hb hr hlocks trivial hG hS dX5_chooseFrom_195
    refine lv_if_ne (tgt := 176) hx hb dX5_chooseFrom_72 (by decide) (fun c9 => ?_) (fun c9 => ?_)
    · have hc9 : ¬ (v8.toInt = 0) := fun h9 => c9 ((fi_eq rfl (show (0 : Int32).toInt = 0 by decide)).mpr h9)
      exact hj486 _ _ hG hS hf2 _ (lv_sub hl [0, 1, 2, 3, 4] rfl)
    · have hc9 : v8.toInt = 0 := (fi_eq rfl (show (0 : Int32).toInt = 0 by decide)).mp c9
      refine lv_iconst (v := 0) hx hb dX5_chooseFrom_75 (by decide) ?_
      refine lv_istore (lv' := [(5, .int 0), (0, .ref a0), (1, .int 3), (2, .int p2), (3, .int p3), (4, .int p4)]) hx hb dX5_chooseFrom_76 hl (by decide) rfl (fun ls hl => ?_)
      have hl905 : ∀ (N_l905 : Nat) (v491 : Int32) (H : Heap) (locs : List Loc), v491.toInt ≤ 8 → 0 ≤ v491.toInt → (-1) * v491.toInt + 8 < (N_l905 : Int) → tk_G D cy ld t [] H → va_S (tk_w t [(20, 0, 0), (6, 0, 0)]) s.heap H locs → tk_f D H (ld 20) 2 0 (.int v3) → ∀ ls : Array Slot, lv_has ls 7 [(5, .int v491), (0, .ref a0), (1, .int 3), (2, .int p2), (3, .int p3), (4, .int p4)] → W p l e ({ frames := 9, cells := 0, slots := 0, locals := 560 }) s m args below meth c H locs 0 0 (MQ below (tv D cy ld t [] (fun H => True) (tk_w t [(20, 0, 0), (6, 0, 0)])) args s 0 0 (tk_w t [(20, 0, 0), (6, 0, 0)])) (F0 m 78 ls []) := by
        intro N_l905
        induction N_l905 with
        | zero => intro v491 H locs hq0_l905 hq1_l905 hm_l905 hG hS hf2 ls hl; exfalso; omega
        | succ N_l905 ih_l905 =>
          intro v491 H locs hq0_l905 hq1_l905 hm_l905 hG hS hf2 ls hl
          refine lv_iload hx hb dX5_chooseFrom_78 (lv_at hl 0 rfl) ?_
          refine lv_aload_n hx hb dX5_chooseFrom_80 rfl (lv_at hl 1 rfl) ?_
          refine tk_get (ci := 5) (C := RX5) (T := TX5) (N := 11) (sp := (8, 20, 3, 0)) hx hb htl inX5 hown hK hG ht_a0 (by decide) tk_no rfl 0 (by decide) (htl _ mw_155) (fun _ h9 => h9) rfl dX5_chooseFrom_81 (fun v9 hf906 hV9 => ?_)
          obtain ⟨rfl, ht_ld20⟩ := hV9
          have ht_ld20 : t (ld 20) = (3, 0, 0) := ht_ld20
          refine fx_top (v := .ref (ld 20)) rfl ?_
          refine tk_getk (ci := 2) (C := RX2) (T := TX2) (N := 20) (sp := (0, 0, 8, 0)) hx hb htl inX2 hown hK hG ht_ld20 (by decide) tk_no rfl 0 (by decide) (htl _ mw_1419) (fun _ h9 => h9) rfl hf2 dX5_chooseFrom_84 ?_
          refine lv_icmp_ge (tgt := 176) hx hb dX5_chooseFrom_87 (by decide) (fun c9 => ?_) (fun c9 => ?_)
          · have hc907 : v3.toInt ≤ v491.toInt := (fi_le rfl rfl).mp c9
            exact hj486 _ _ hG hS hf2 _ (lv_sub hl [1, 2, 3, 4, 5] rfl)
          · have hc907 : ¬ (v3.toInt ≤ v491.toInt) := fun h9 => c9 ((fi_le rfl rfl).mpr h9)
            refine lv_aload_n hx hb dX5_chooseFrom_90 rfl (lv_at hl 1 rfl) ?_
            refine tk_get (ci := 5) (C := RX5) (T := TX5) (N := 11) (sp := (8, 20, 3, 0)) hx hb htl inX5 hown hK hG ht_a0 (by decide) tk_no rfl 0 (by decide) (htl _ mw_155) (fun _ h9 => h9) rfl dX5_chooseFrom_91 (fun v9 hf908 hV9 => ?_)
            obtain ⟨rfl, ht_ld20⟩ := hV9
            have ht_ld20 : t (ld 20) = (3, 0, 0) := ht_ld20
            refine fx_top (v := .ref (ld 20)) rfl ?_
            refine tk_get (ci := 2) (C := RX2) (T := TX2) (N := 20) (sp := (1, 21, 8, 0)) hx hb htl inX2 hown hK hG ht_ld20 (by decide) tk_no rfl 2 (by decide) (htl _ mw_1420) (fun _ h9 => h9) rfl dX5_chooseFrom_94 (fun v9 hf909 hV9 => ?_)
            obtain ⟨b910, rfl, ht_b910⟩ := hV9
            have ht_b910 : t b910 = (21, 8, 0) := ht_b910
            refine lv_iload hx hb dX5_chooseFrom_97 (lv_at hl 0 rfl) ?_
            refine tk_iald hx hb hK hG ht_b910 (by decide) (fun _ h => h) tk_no rfl (by omega) (by omega) dX5_chooseFrom_99 (fun v911 hE9 _ => ?_)
            have he_v911 : 0 ≤ v911.toInt ∧ v911.toInt ≤ 1 := hE9
            refine lv_iconst (v := 1) hx hb dX5_chooseFrom_100 (by decide) ?_
            have hj939 : ∀ (H : Heap) (locs : List Loc), tk_G D cy ld t [] H → va_S (tk_w t [(20, 0, 0), (6, 0, 0)]) s.heap H locs → tk_f D H (ld 20) 2 0 (.int v3) → ∀ ls : Array Slot, lv_has ls 7 [(5, .int v491), (0, .ref a0), (1, .int 3), (2, .int p2), (3, .int p3), (4, .int p4)] → W p l e ({ frames := 9, cells := 0, slots := 0, locals := 560 }) s m args below meth c H locs 0 0 (MQ below (tv D cy ld t [] (fun H => True) (tk_w t [(20, 0, 0), (6, 0, 0)])) args s 0 0 (tk_w t [(20, 0, 0), (6, 0, 0)])) (F0 m 170 ls []) := by
              intro H locs hG hS hf2 ls hl
              obtain ⟨v940, h_v940, e_v940⟩ := tk_inc v491 1 (by decide) (by omega) (by omega)
              refine lv_iinc (v := v940) (lv' := [(5, .int v940), (0, .ref a0), (1, .int 3), (2, .int p2), (3, .int p3), (4, .int p4)]) hx hb dX5_chooseFrom_170 hl (k := 0) rfl e_v940 (by decide) rfl (fun ls hl => ?_)
              refine lv_goto (tgt := 78) hx hb dX5_chooseFrom_173 (by decide) ?_
              exact ih_l905 v940 _ _ (by omega) (by omega) (by omega) hG hS hf2 _ (lv_sub hl [0, 1, 2, 3, 4, 5] rfl)
            refine lv_icmp_ne (tgt := 170) hx hb dX5_chooseFrom_101 (by decide) (fun c9 => ?_) (fun c9 => ?_)
            · have hc912 : ¬ (v911.toInt = 1) := fun h9 => c9 ((fi_eq rfl (show (1 : Int32).toInt = 1 by decide)).mpr h9)
              exact hj939 _ _ hG hS hf2 _ (lv_sub hl [0, 1, 2, 3, 4, 5] rfl)
            · have hc912 : v911.toInt = 1 := (fi_eq rfl (show (1 : Int32).toInt = 1 by decide)).mp c9
              refine lv_iload_n hx hb dX5_chooseFrom_104 rfl (lv_at hl 3 rfl) ?_
              refine lv_iload hx hb dX5_chooseFrom_105 (lv_at hl 0 rfl) ?_
              refine lv_ishr hx hb dX5_chooseFrom_107 ?_
              refine tk_any (fun v941 => ?_)
              refine lv_iconst (v := 1) hx hb dX5_chooseFrom_108 (by decide) ?_
              refine lv_iand hx hb dX5_chooseFrom_109 ?_
              refine tk_say (P := fun z => 0 ≤ z.toInt ∧ z.toInt ≤ 1) (tk_and v941 1 (by decide) (by decide)) (fun v942 h_v942 => ?_)
              refine lv_if_ne (tgt := 170) hx hb dX5_chooseFrom_110 (by decide) (fun c9 => ?_) (fun c9 => ?_)
              · have hc943 : ¬ (v942.toInt = 0) := fun h9 => c9 ((fi_eq rfl (show (0 : Int32).toInt = 0 by decide)).mpr h9)
                exact hj939 _ _ hG hS hf2 _ (lv_sub hl [0, 1, 2, 3, 4, 5] rfl)
              · have hc943 : v942.toInt = 0 := (fi_eq rfl (show (0 : Int32).toInt = 0 by decide)).mp c9
                refine lv_aload_n hx hb dX5_chooseFrom_113 rfl (lv_at hl 1 rfl) ?_
                refine tk_get (ci := 5) (C := RX5) (T := TX5) (N := 11) (sp := (6, 30, 8, 0)) hx hb htl inX5 hown hK hG ht_a0 (by decide) tk_no rfl 6 (by decide) (htl _ mw_152) (fun _ h9 => h9) rfl dX5_chooseFrom_114 (fun v9 hf944 hV9 => ?_)
                obtain ⟨b945, rfl, ht_b945⟩ := hV9
                have ht_b945 : t b945 = (30, 8, 0) := ht_b945
                refine lv_iload_n hx hb dX5_chooseFrom_117 rfl (lv_at hl 2 rfl) ?_
                refine tk_aald hx hb hK hG 6 rfl rfl ht_b945 (by decide) (fun _ h => h) tk_no (I := 3) (by decide) (by decide) (by decide) dX5_chooseFrom_118 (fun o946 ht_o946 => ?_)
                obtain ⟨b947, rfl, ht_b947⟩ := ht_o946
                have ht_b947 : t b947 = (20, 8, 0) := ht_b947
                refine fx_top (v := .ref b947) rfl ?_
                refine lv_iload hx hb dX5_chooseFrom_119 (lv_at hl 0 rfl) ?_
                refine tk_iald hx hb hK hG ht_b947 (by decide) (fun _ h => h) tk_no rfl (by omega) (by omega) dX5_chooseFrom_121 (fun v948 _ _ => ?_)
                have hr_v948 := tk_rng v948
                refine lv_istore (lv' := [(6, .int v948), (5, .int v491), (0, .ref a0), (1, .int 3), (2, .int p2), (3, .int p3), (4, .int p4)]) hx hb dX5_chooseFrom_122 hl (by decide) rfl (fun ls hl => ?_)
                refine lv_aload_n hx hb dX5_chooseFrom_124 rfl (lv_at hl 2 rfl) ?_
                refine tk_get (ci := 5) (C := RX5) (T := TX5) (N := 11) (sp := (6, 20, 8, 0)) hx hb htl inX5 hown hK hG ht_a0 (by decide) tk_no rfl 7 (by decide) (htl _ mw_153) (fun _ h9 => h9) rfl dX5_chooseFrom_125 (fun v9 hf949 hV9 => ?_)
                obtain ⟨b950, rfl, ht_b950⟩ := hV9
                have ht_b950 : t b950 = (20, 8, 0) := ht_b950
                refine lv_iload_n hx hb dX5_chooseFrom_128 rfl (lv_at hl 3 rfl) ?_
                refine lv_iload hx hb dX5_chooseFrom_129 (lv_at hl 1 rfl) ?_
                refine tk_iast hx hb hK hG hS ht_b950 (by decide) (fun _ => Iff.rfl) tk_no (I := 3) (by decide) (by decide) (by decide) trivial (tk_w.of ht_b950 (by decide) (List.mem_of_getElem? (i := 0) rfl) (Nat.le_refl _) (Nat.le_refl _)) dX5_chooseFrom_131 (fun H locs hG hS hq9 => ?_)
                have hf2 := hf2.kept (hq9 _ (tk_ne ht_ld20 ht_b950 (Or.inl (by decide))))
                refine lv_aload_n hx hb dX5_chooseFrom_132 rfl (lv_at hl 2 rfl) ?_
                refine lv_iload_n hx hb dX5_chooseFrom_133 rfl (lv_at hl 3 rfl) ?_
                refine lv_iconst (v := 1) hx hb dX5_chooseFrom_134 (by decide) ?_
                refine lv_iadd hx hb dX5_chooseFrom_135 ?_
                refine fx_ti (v := 4) (by decide) ?_
                refine lv_iload_n hx hb dX5_chooseFrom_136 rfl (lv_at hl 4 rfl) ?_
                refine lv_iconst (v := 1) hx hb dX5_chooseFrom_137 (by decide) ?_
                refine lv_iload hx hb dX5_chooseFrom_138 (lv_at hl 1 rfl) ?_
                refine lv_ishl hx hb dX5_chooseFrom_140 ?_
                refine tk_say (P := fun z => 1 ≤ z.toInt ∧ z.toInt ≤ 1024) (tk_shl1 v491 (by omega) (by omega)) (fun v952 h_v952 => ?_)
                refine lv_ior hx hb dX5_chooseFrom_141 ?_
                refine tk_any (fun v953 => ?_)
                refine lv_iload_n hx hb dX5_chooseFrom_142 rfl (lv_at hl 5 rfl) ?_
                refine lv_iload hx hb dX5_chooseFrom_143 (lv_at hl 0 rfl) ?_
                have hj957 : ∀ (v956 : Int32), 0 ≤ v956.toInt → v956.toInt ≤ 1 → ∀ ls : Array Slot, lv_has ls 7 [(6, .int v948), (5, .int v491), (0, .ref a0), (1, .int 3), (2, .int p2), (3, .int p3), (4, .int p4)] → W p l e ({ frames := 9, cells := 0, slots := 0, locals := 560 }) s m args below meth c H locs 0 0 (MQ below (tv D cy ld t [] (fun H => True) (tk_w t [(20, 0, 0), (6, 0, 0)])) args s 0 0 (tk_w t [(20, 0, 0), (6, 0, 0)])) (F0 m 153 ls [.int v956, .int p3, .int v953, .int 4, .ref a0]) := by
                  intro v956 hq0_j957 hq1_j957 ls hl
                  refine lv_iadd hx hb dX5_chooseFrom_153 ?_
                  obtain ⟨v958, hm_v958⟩ : ∃ z : Int32, p3 + v956 = z := ⟨_, rfl⟩
                  refine fx_ti hm_v958 ?_
                  refine lv_iload hx hb dX5_chooseFrom_154 (lv_at hl 6 rfl) ?_
                  refine lv_iload hx hb dX5_chooseFrom_156 (lv_at hl 0 rfl) ?_
                  have hj962 : ∀ (v961 : Int32), 0 ≤ v961.toInt → v961.toInt ≤ 1 → ∀ ls : Array Slot, lv_has ls 7 [(5, .int v491), (0, .ref a0), (1, .int 3), (2, .int p2), (3, .int p3), (4, .int p4)] → W p l e ({ frames := 9, cells := 0, slots := 0, locals := 560 }) s m args below meth c H locs 0 0 (MQ below (tv D cy ld t [] (fun H => True) (tk_w t [(20, 0, 0), (6, 0, 0)])) args s 0 0 (tk_w t [(20, 0, 0), (6, 0, 0)])) (F0 m 166 ls [.int v961, .int p4, .int v958, .int v953, .int 4, .ref a0]) := by
                    intro v961 hq0_j962 hq1_j962 ls hl
                    refine lv_iadd hx hb dX5_chooseFrom_166 ?_
                    obtain ⟨v963, hm_v963⟩ : ∃ z : Int32, p4 + v961 = z := ⟨_, rfl⟩
                    refine fx_ti hm_v963 ?_
                    have hk_4 : (4 : Int32).toInt = 4 := by decide
                    refine tk_Vv (As := [.int 4, .int v953, .int v958, .int v963]) (rest := []) (ci := 5) ⟨hx, hb, hml, hown, hts⟩ hK hG hZ hS (k_X5_chooseFrom_4 l D cy ld t a0 v953 v958 v963 ht_a0) trivial ⟨callB_of 4 hts (wl_in mw_1427) rfl rfl rfl (htl _ mw_40) (htl _ mw_1424) hd_yX5_chooseFrom ⟨(Nat.le_of_ble_eq_true rfl), (Nat.le_of_ble_eq_true rfl)⟩, htl _ mw_1425, htl _ mw_1426⟩ ht_a0 (by decide) tk_no rfl (tk_w.pick [0, 1] rfl) rfl hl.1 rfl (Nat.le_of_ble_eq_true rfl) dX5_chooseFrom_167 ⟨(Nat.le_of_ble_eq_true rfl), (Nat.le_of_ble_eq_true rfl)⟩ (fun H locs hpo hG hS hq9 => ?_)
                    have hf2 := hf2.call hq9 (tk_w.no ht_ld20 (by decide))
                    exact hj939 _ _ hG hS hf2 _ (lv_sub hl [0, 1, 2, 3, 4, 5] rfl)
                  refine lv_if_ge (tgt := 165) hx hb dX5_chooseFrom_158 (by decide) (fun c9 => ?_) (fun c9 => ?_)
                  · have hc959 : 0 ≤ v948.toInt := (fi_le (show (0 : Int32).toInt = 0 by decide) rfl).mp c9
                    refine lv_iconst (v := 0) hx hb dX5_chooseFrom_165 (by decide) ?_
                    have hk_0 : (0 : Int32).toInt = 0 := by decide
                    exact hj962 0 (by omega) (by omega) _ (lv_sub hl [1, 2, 3, 4, 5, 6] rfl)
                  · have hc959 : ¬ (0 ≤ v948.toInt) := fun h9 => c9 ((fi_le (show (0 : Int32).toInt = 0 by decide) rfl).mpr h9)
                    refine lv_iconst (v := 1) hx hb dX5_chooseFrom_161 (by decide) ?_
                    refine lv_goto (tgt := 166) hx hb dX5_chooseFrom_162 (by decide) ?_
                    have hk_1 : (1 : Int32).toInt = 1 := by decide
                    exact hj962 1 (by omega) (by omega) _ (lv_sub hl [1, 2, 3, 4, 5, 6] rfl)
                refine lv_if_le (tgt := 152) hx hb dX5_chooseFrom_145 (by decide) (fun c9 => ?_) (fun c9 => ?_)
                · have hc954 : v948.toInt ≤ 0 := (fi_le rfl (show (0 : Int32).toInt = 0 by decide)).mp c9
                  refine lv_iconst (v := 0) hx hb dX5_chooseFrom_152 (by decide) ?_
                  have hk_0 : (0 : Int32).toInt = 0 := by decide
                  exact hj957 0 (by omega) (by omega) _ (lv_sub hl [0, 1, 2, 3, 4, 5, 6] rfl)
                · have hc954 : ¬ (v948.toInt ≤ 0) := fun h9 => c9 ((fi_le rfl (show (0 : Int32).toInt = 0 by decide)).mpr h9)
                  refine lv_iconst (v := 1) hx hb dX5_chooseFrom_148 (by decide) ?_
                  refine lv_goto (tgt := 153) hx hb dX5_chooseFrom_149 (by decide) ?_
                  have hk_1 : (1 : Int32).toInt = 1 := by decide
                  exact hj957 1 (by omega) (by omega) _ (lv_sub hl [0, 1, 2, 3, 4, 5, 6] rfl)
      have hk_0 : (0 : Int32).toInt = 0 := by decide
      exact hl905 9 0 _ _ (by omega) (by omega) (by omega) hG hS hf2 _ (lv_sub hl [0, 1, 2, 3, 4, 5] rfl)
  · have hc4 : ¬ (3 < v3.toInt) := fun h9 => c9 ((fi_lt (show (3 : Int32).toInt = 3 by decide) rfl).mpr h9)
    refine lv_iload_n hx hb dX5_chooseFrom_11 rfl (lv_at hl 3 rfl) ?_
    refine lv_aload_n hx hb dX5_chooseFrom_12 rfl (lv_at hl 0 rfl) ?_
    refine tk_get (ci := 5) (C := RX5) (T := TX5) (N := 11) (sp := (0, (-2147483648), 2147483647, 0)) hx hb htl inX5 hown hK hG ht_a0 (by decide) tk_no rfl 9 (by decide) (htl _ mw_1421) (fun _ h9 => h9) rfl dX5_chooseFrom_13 (fun v9 hf965 hV9 => ?_)
    obtain ⟨v966, rfl, (ha_v966 : (-2147483648) ≤ v966.toInt), (hb_v966 : v966.toInt ≤ 2147483647)⟩ := hV9
    refine lv_icmp_gt (tgt := 36) hx hb dX5_chooseFrom_16 (by decide) (fun c9 => ?_) (fun c9 => ?_)
    · have hc967 : v966.toInt < p3.toInt := (fi_lt rfl rfl).mp c9
      refine lv_aload_n hx hb dX5_chooseFrom_36 rfl (lv_at hl 0 rfl) ?_
      refine lv_iload_n hx hb dX5_chooseFrom_37 rfl (lv_at hl 3 rfl) ?_
      refine tk_put (ci := 5) (v := .int p3) (ty := .int) (C := RX5) (T := TX5) (N := 11) (sp := (0, (-2147483648), 2147483647, 0)) hx hb htl inX5 tyX5 tyX5_ok nmX5 hown hK hG hS ht_a0 (by decide) tk_no rfl 9 (by decide) (htl _ mw_1421) (fun _ h9 => h9) rfl (tyX5_ok 9 (by decide)) rfl rfl rfl (tk_V0 (tk_rng _).1 (tk_rng _).2) (fun _ h => h) (tk_w.of ht_a0 (by decide) (List.mem_of_getElem? (i := 1) rfl) (Nat.le_refl _) (Nat.le_refl _)) dX5_chooseFrom_38 (fun H locs hG hS hf968 hq9 hj9 => ?_)
      have hf2 := hf2.kept (hq9 _ (tk_ne ht_ld20 ht_a0 (Or.inl (by decide))))
      refine lv_aload_n hx hb dX5_chooseFrom_41 rfl (lv_at hl 0 rfl) ?_
      refine lv_iload hx hb dX5_chooseFrom_42 (lv_at hl 4 rfl) ?_
      refine tk_put (ci := 5) (v := .int p4) (ty := .int) (C := RX5) (T := TX5) (N := 11) (sp := (0, (-2147483648), 2147483647, 0)) hx hb htl inX5 tyX5 tyX5_ok nmX5 hown hK hG hS ht_a0 (by decide) tk_no rfl 10 (by decide) (htl _ mw_1422) (fun _ h9 => h9) rfl (tyX5_ok 10 (by decide)) rfl rfl rfl (tk_V0 (tk_rng _).1 (tk_rng _).2) (fun _ h => h) (tk_w.of ht_a0 (by decide) (List.mem_of_getElem? (i := 1) rfl) (Nat.le_refl _) (Nat.le_refl _)) dX5_chooseFrom_44 (fun H locs hG hS hf970 hq9 hj9 => ?_)
      have hf2 := hf2.kept (hq9 _ (tk_ne ht_ld20 ht_a0 (Or.inl (by decide))))
      refine lv_aload_n hx hb dX5_chooseFrom_47 rfl (lv_at hl 0 rfl) ?_
      refine tk_get (ci := 5) (C := RX5) (T := TX5) (N := 11) (sp := (6, 20, 8, 0)) hx hb htl inX5 hown hK hG ht_a0 (by decide) tk_no rfl 7 (by decide) (htl _ mw_153) (fun _ h9 => h9) rfl dX5_chooseFrom_48 (fun v9 hf972 hV9 => ?_)
      obtain ⟨b973, rfl, ht_b973⟩ := hV9
      have ht_b973 : t b973 = (20, 8, 0) := ht_b973
      refine lv_iconst (v := 0) hx hb dX5_chooseFrom_51 (by decide) ?_
      refine lv_aload_n hx hb dX5_chooseFrom_52 rfl (lv_at hl 0 rfl) ?_
      refine tk_get (ci := 5) (C := RX5) (T := TX5) (N := 11) (sp := (6, 20, 8, 0)) hx hb htl inX5 hown hK hG ht_a0 (by decide) tk_no rfl 8 (by decide) (htl _ mw_154) (fun _ h9 => h9) rfl dX5_chooseFrom_53 (fun v9 hf974 hV9 => ?_)
      obtain ⟨b975, rfl, ht_b975⟩ := hV9
      have ht_b975 : t b975 = (20, 8, 0) := ht_b975
      refine lv_iconst (v := 0) hx hb dX5_chooseFrom_56 (by decide) ?_
      refine lv_bipush (v := 8) hx hb dX5_chooseFrom_57 (by decide) ?_
      refine tk_copy (SP := 0) (DP := 0) (NC := 8) hx hb (by rw [hml]; exact hl.1.symm) hown (htl _ mw_1428) (htl _ mw_655) (htl _ mw_656) (htl _ mw_657) hK hG hS ht_b973 ht_b975 (by decide) (by decide) (fun _ h => h) (fun _ => Iff.rfl) tk_no tk_no (show (0 : Int32).toInt = 0 by decide) (show (0 : Int32).toInt = 0 by decide) (show (8 : Int32).toInt = 8 by decide) (by decide) (by decide) (by decide) (by decide) (by decide) (fun _ _ _ _ _ => trivial) (tk_w.of ht_b975 (by decide) (List.mem_of_getElem? (i := 0) rfl) (Nat.le_refl _) (Nat.le_refl _)) (Nat.le_of_ble_eq_true rfl) (Nat.le_of_ble_eq_true rfl) dX5_chooseFrom_59 (fun H locs hG hS hq9 => ?_)
      have hf2 := hf2.kept (hq9 _ (tk_ne ht_ld20 ht_b975 (Or.inl (by decide))))
      exact tk_vret hx hb hr hlocks trivial hG hS dX5_chooseFrom_62
    · have hc967 : ¬ (v966.toInt < p3.toInt) := fun h9 => c9 ((fi_lt rfl rfl).mpr h9)
      refine lv_iload_n hx hb dX5_chooseFrom_19 rfl (lv_at hl 3 rfl) ?_
      refine lv_aload_n hx hb dX5_chooseFrom_20 rfl (lv_at hl 0 rfl) ?_
      refine tk_get (ci := 5) (C := RX5) (T := TX5) (N := 11) (sp := (0, (-2147483648), 2147483647, 0)) hx hb htl inX5 hown hK hG ht_a0 (by decide) tk_no rfl 9 (by decide) (htl _ mw_1421) (fun _ h9 => h9) rfl dX5_chooseFrom_21 (fun v9 hf977 hV9 => ?_)
      obtain ⟨v978, rfl, (ha_v978 : (-2147483648) ≤ v978.toInt), (hb_v978 : v978.toInt ≤ 2147483647)⟩ := hV9
      refine lv_icmp_ne (tgt := 62) hx hb dX5_chooseFrom_24 (by decide) (fun c9 => ?_) (fun c9 => ?_)
      · have hc979 : ¬ (p3.toInt = v978.toInt) := fun h9 => c9 ((fi_eq rfl rfl).mpr h9)
        exact tk_vret hx hb hr hlocks trivial hG hS dX5_chooseFrom_62
      · have hc979 : p3.toInt = v978.toInt := (fi_eq rfl rfl).mp c9
        refine lv_iload hx hb dX5_chooseFrom_27 (lv_at hl 4 rfl) ?_
        refine lv_aload_n hx hb dX5_chooseFrom_29 rfl (lv_at hl 0 rfl) ?_
        refine tk_get (ci := 5) (C := RX5) (T := TX5) (N := 11) (sp := (0, (-2147483648), 2147483647, 0)) hx hb htl inX5 hown hK hG ht_a0 (by decide) tk_no rfl 10 (by decide) (htl _ mw_1422) (fun _ h9 => h9) rfl dX5_chooseFrom_30 (fun v9 hf980 hV9 => ?_)
        obtain ⟨v981, rfl, (ha_v981 : (-2147483648) ≤ v981.toInt), (hb_v981 : v981.toInt ≤ 2147483647)⟩ := hV9
        refine lv_icmp_ge (tgt := 62) hx hb dX5_chooseFrom_33 (by decide) (fun c9 => ?_) (fun c9 => ?_)
        · have hc982 : v981.toInt ≤ p4.toInt := (fi_le rfl rfl).mp c9
          exact tk_vret hx hb hr hlocks trivial hG hS dX5_chooseFrom_62
        · have hc982 : ¬ (v981.toInt ≤ p4.toInt) := fun h9 => c9 ((fi_le rfl rfl).mpr h9)
          refine lv_aload_n hx hb dX5_chooseFrom_36 rfl (lv_at hl 0 rfl) ?_
          refine lv_iload_n hx hb dX5_chooseFrom_37 rfl (lv_at hl 3 rfl) ?_
          refine tk_put (ci := 5) (v := .int p3) (ty := .int) (C := RX5) (T := TX5) (N := 11) (sp := (0, (-2147483648), 2147483647, 0)) hx hb htl inX5 tyX5 tyX5_ok nmX5 hown hK hG hS ht_a0 (by decide) tk_no rfl 9 (by decide) (htl _ mw_1421) (fun _ h9 => h9) rfl (tyX5_ok 9 (by decide)) rfl rfl rfl (tk_V0 (tk_rng _).1 (tk_rng _).2) (fun _ h => h) (tk_w.of ht_a0 (by decide) (List.mem_of_getElem? (i := 1) rfl) (Nat.le_refl _) (Nat.le_refl _)) dX5_chooseFrom_38 (fun H locs hG hS hf983 hq9 hj9 => ?_)
          have hf2 := hf2.kept (hq9 _ (tk_ne ht_ld20 ht_a0 (Or.inl (by decide))))
          refine lv_aload_n hx hb dX5_chooseFrom_41 rfl (lv_at hl 0 rfl) ?_
          refine lv_iload hx hb dX5_chooseFrom_42 (lv_at hl 4 rfl) ?_
          refine tk_put (ci := 5) (v := .int p4) (ty := .int) (C := RX5) (T := TX5) (N := 11) (sp := (0, (-2147483648), 2147483647, 0)) hx hb htl inX5 tyX5 tyX5_ok nmX5 hown hK hG hS ht_a0 (by decide) tk_no rfl 10 (by decide) (htl _ mw_1422) (fun _ h9 => h9) rfl (tyX5_ok 10 (by decide)) rfl rfl rfl (tk_V0 (tk_rng _).1 (tk_rng _).2) (fun _ h => h) (tk_w.of ht_a0 (by decide) (List.mem_of_getElem? (i := 1) rfl) (Nat.le_refl _) (Nat.le_refl _)) dX5_chooseFrom_44 (fun H locs hG hS hf985 hq9 hj9 => ?_)
          have hf2 := hf2.kept (hq9 _ (tk_ne ht_ld20 ht_a0 (Or.inl (by decide))))
          refine lv_aload_n hx hb dX5_chooseFrom_47 rfl (lv_at hl 0 rfl) ?_
          refine tk_get (ci := 5) (C := RX5) (T := TX5) (N := 11) (sp := (6, 20, 8, 0)) hx hb htl inX5 hown hK hG ht_a0 (by decide) tk_no rfl 7 (by decide) (htl _ mw_153) (fun _ h9 => h9) rfl dX5_chooseFrom_48 (fun v9 hf987 hV9 => ?_)
          obtain ⟨b988, rfl, ht_b988⟩ := hV9
          have ht_b988 : t b988 = (20, 8, 0) := ht_b988
          refine lv_iconst (v := 0) hx hb dX5_chooseFrom_51 (by decide) ?_
          refine lv_aload_n hx hb dX5_chooseFrom_52 rfl (lv_at hl 0 rfl) ?_
          refine tk_get (ci := 5) (C := RX5) (T := TX5) (N := 11) (sp := (6, 20, 8, 0)) hx hb htl inX5 hown hK hG ht_a0 (by decide) tk_no rfl 8 (by decide) (htl _ mw_154) (fun _ h9 => h9) rfl dX5_chooseFrom_53 (fun v9 hf989 hV9 => ?_)
          obtain ⟨b990, rfl, ht_b990⟩ := hV9
          have ht_b990 : t b990 = (20, 8, 0) := ht_b990
          refine lv_iconst (v := 0) hx hb dX5_chooseFrom_56 (by decide) ?_
          refine lv_bipush (v := 8) hx hb dX5_chooseFrom_57 (by decide) ?_
          refine tk_copy (SP := 0) (DP := 0) (NC := 8) hx hb (by rw [hml]; exact hl.1.symm) hown (htl _ mw_1428) (htl _ mw_655) (htl _ mw_656) (htl _ mw_657) hK hG hS ht_b988 ht_b990 (by decide) (by decide) (fun _ h => h) (fun _ => Iff.rfl) tk_no tk_no (show (0 : Int32).toInt = 0 by decide) (show (0 : Int32).toInt = 0 by decide) (show (8 : Int32).toInt = 8 by decide) (by decide) (by decide) (by decide) (by decide) (by decide) (fun _ _ _ _ _ => trivial) (tk_w.of ht_b990 (by decide) (List.mem_of_getElem? (i := 0) rfl) (Nat.le_refl _) (Nat.le_refl _)) (Nat.le_of_ble_eq_true rfl) (Nat.le_of_ble_eq_true rfl) dX5_chooseFrom_59 (fun H locs hG hS hq9 => ?_)
          have hf2 := hf2.kept (hq9 _ (tk_ne ht_ld20 ht_b990 (Or.inl (by decide))))
          exact tk_vret hx hb hr hlocks trivial hG hS dX5_chooseFrom_62
