set_option maxHeartbeats 4000000 in
set_option maxRecDepth 100000 in
theorem k_X12_back_lo_x (l : Launch) (D : va_G) (cy : Nat → ClassId) (ld : Nat → Nat) (t : tk_T) (a0 : Nat) (p1 : Int32) (g0 : Int32) (g15 : Int32) (ht_a0 : t a0 = (13, 0, 0)) (hp_0 : p1.toInt ≤ (-1)) (hp_1 : 0 ≤ g0.toInt) (hp_2 : g0.toInt ≤ 400) (hp_3 : (-2147483648) ≤ g15.toInt) (hp_4 : g15.toInt ≤ 2147483647) : Met l yX12_back (wl yX12_back cX12_back 2 (some .int)) ({ frames := 5, cells := 0, slots := 0, locals := 280 }) (tp D cy ld t [] [.ref a0, .int p1] (fun H => tk_f D H a0 12 13 (.int g0) ∧ tk_f D H a0 12 15 (.int g15))) (ti D cy ld t [] (fun r H => r.toInt + 1 = 0 ∧ tk_f D H a0 12 13 (.int g0) ∧ tk_f D H a0 12 15 (.int g15)) (tk_w t [(13, 0, 0), (20, 0, 0)])) 0 0 (tk_w t [(13, 0, 0), (20, 0, 0)]) := by
  refine tk_met (y := yX12_back) (cc := cX12_back) (maxL := 2) (ret := (some .int)) (av := [.ref a0, .int p1]) _ _ (by decide) (Nat.le_of_ble_eq_true rfl) ?_
  intro p e s m args below meth c hx hb hr hml hts htl hown hlocks hK H locs hH hG hS hB hZ ls hl
  have hown : s.vm.findClass RX12 = some m.cls := hown
  have hl : lv_has ls 2 [(0, .ref a0), (1, .int p1)] := hl
  obtain ⟨hg_0, hg_1⟩ := hB
  have hr_p1 := tk_rng p1
  refine lv_iload_n hx hb dX12_back_0 rfl (lv_at hl 1 rfl) ?_
  refine lv_iconst (v := 0) hx hb dX12_back_1 (by decide) ?_
  refine lv_iconst (v := 1) hx hb dX12_back_2 (by decide) ?_
  have hk_0 : (0 : Int32).toInt = 0 := by decide
  have hk_1 : (1 : Int32).toInt = 1 := by decide
  refine tk_Si (As := [.int p1, .int 0, .int 1]) (rest := []) ⟨hx, hb, hml, hown, hts⟩ hK hG hZ hS (k_X12_within_x l D cy ld t _ p1 0 1) trivial ⟨callB_of 3 hts (wl_in mw_262) rfl rfl rfl (htl _ mw_2) (htl _ mw_277) hd_yX12_within ⟨(Nat.le_of_ble_eq_true rfl), (Nat.le_of_ble_eq_true rfl)⟩, htl _ mw_261⟩ (tk_w.pick [] rfl) rfl hl.1 rfl (Nat.le_of_ble_eq_true rfl) dX12_back_3 ⟨(Nat.le_of_ble_eq_true rfl), (Nat.le_of_ble_eq_true rfl)⟩ (fun v1 H locs hpo hG hS hq9 => ?_)
  have hg_0 := hg_0.call hq9 tk_w.nil
  have hg_1 := hg_1.call hq9 tk_w.nil
  obtain ⟨hpo3, hpo4, hpo5, hpo6, hpo7, hpo8⟩ := hpo
  refine lv_if_ne (tgt := 15) hx hb dX12_back_6 (by decide) (fun c9 => ?_) (fun c9 => ?_)
  · have hc9 : ¬ (v1.toInt = 0) := fun h9 => c9 ((fi_eq rfl (show (0 : Int32).toInt = 0 by decide)).mpr h9)
    exfalso
    omega
  · have hc9 : v1.toInt = 0 := (fi_eq rfl (show (0 : Int32).toInt = 0 by decide)).mp c9
    refine lv_aload_n hx hb dX12_back_9 rfl (lv_at hl 0 rfl) ?_
    refine lv_iconst (v := (-1)) hx hb dX12_back_10 (by decide) ?_
    have hk_m1 : ((-1) : Int32).toInt = (-1) := by decide
    refine tk_Vi (As := [.int (-1)]) (rest := []) (ci := 12) ⟨hx, hb, hml, hown, hts⟩ hK hG hZ hS (k_X12_refuse_x l D cy ld t a0 (-1) g0 g15 ht_a0 (by omega) (by omega) (by omega) (by omega)) ⟨hg_0, hg_1⟩ ⟨callB_of 1 hts (wl_in mw_275) rfl rfl rfl (htl _ mw_2) (htl _ mw_272) hd_yX12_refuse ⟨(Nat.le_of_ble_eq_true rfl), (Nat.le_of_ble_eq_true rfl)⟩, htl _ mw_273, htl _ mw_274⟩ ht_a0 (by decide) tk_no rfl (tk_w.pick [0, 1] rfl) rfl hl.1 rfl (Nat.le_of_ble_eq_true rfl) dX12_back_11 ⟨(Nat.le_of_ble_eq_true rfl), (Nat.le_of_ble_eq_true rfl)⟩ (fun v10 H locs hpo hG hS hq9 => ?_)
    obtain ⟨hpo12, hf13, hf14⟩ := hpo
    exact tk_iret (v := v10) hx hb hr rfl hlocks (show v10.toInt + 1 = 0 ∧ tk_f D H a0 12 13 (.int g0) ∧ tk_f D H a0 12 15 (.int g15) from ⟨(by omega), hf13, hf14⟩) hG hS dX12_back_14
set_option maxHeartbeats 4000000 in
set_option maxRecDepth 100000 in
theorem k_X12_back_hi_x (l : Launch) (D : va_G) (cy : Nat → ClassId) (ld : Nat → Nat) (t : tk_T) (a0 : Nat) (p1 : Int32) (g0 : Int32) (g15 : Int32) (ht_a0 : t a0 = (13, 0, 0)) (hp_0 : 2 ≤ p1.toInt) (hp_1 : 0 ≤ g0.toInt) (hp_2 : g0.toInt ≤ 400) (hp_3 : (-2147483648) ≤ g15.toInt) (hp_4 : g15.toInt ≤ 2147483647) : Met l yX12_back (wl yX12_back cX12_back 2 (some .int)) ({ frames := 5, cells := 0, slots := 0, locals := 280 }) (tp D cy ld t [] [.ref a0, .int p1] (fun H => tk_f D H a0 12 13 (.int g0) ∧ tk_f D H a0 12 15 (.int g15))) (ti D cy ld t [] (fun r H => r.toInt + 1 = 0 ∧ tk_f D H a0 12 13 (.int g0) ∧ tk_f D H a0 12 15 (.int g15)) (tk_w t [(13, 0, 0), (20, 0, 0)])) 0 0 (tk_w t [(13, 0, 0), (20, 0, 0)]) := by
  refine tk_met (y := yX12_back) (cc := cX12_back) (maxL := 2) (ret := (some .int)) (av := [.ref a0, .int p1]) _ _ (by decide) (Nat.le_of_ble_eq_true rfl) ?_
  intro p e s m args below meth c hx hb hr hml hts htl hown hlocks hK H locs hH hG hS hB hZ ls hl
  have hown : s.vm.findClass RX12 = some m.cls := hown
  have hl : lv_has ls 2 [(0, .ref a0), (1, .int p1)] := hl
  obtain ⟨hg_0, hg_1⟩ := hB
  have hr_p1 := tk_rng p1
  refine lv_iload_n hx hb dX12_back_0 rfl (lv_at hl 1 rfl) ?_
  refine lv_iconst (v := 0) hx hb dX12_back_1 (by decide) ?_
  refine lv_iconst (v := 1) hx hb dX12_back_2 (by decide) ?_
  have hk_0 : (0 : Int32).toInt = 0 := by decide
  have hk_1 : (1 : Int32).toInt = 1 := by decide
  refine tk_Si (As := [.int p1, .int 0, .int 1]) (rest := []) ⟨hx, hb, hml, hown, hts⟩ hK hG hZ hS (k_X12_within_x l D cy ld t _ p1 0 1) trivial ⟨callB_of 3 hts (wl_in mw_262) rfl rfl rfl (htl _ mw_2) (htl _ mw_277) hd_yX12_within ⟨(Nat.le_of_ble_eq_true rfl), (Nat.le_of_ble_eq_true rfl)⟩, htl _ mw_261⟩ (tk_w.pick [] rfl) rfl hl.1 rfl (Nat.le_of_ble_eq_true rfl) dX12_back_3 ⟨(Nat.le_of_ble_eq_true rfl), (Nat.le_of_ble_eq_true rfl)⟩ (fun v1 H locs hpo hG hS hq9 => ?_)
  have hg_0 := hg_0.call hq9 tk_w.nil
  have hg_1 := hg_1.call hq9 tk_w.nil
  obtain ⟨hpo3, hpo4, hpo5, hpo6, hpo7, hpo8⟩ := hpo
  refine lv_if_ne (tgt := 15) hx hb dX12_back_6 (by decide) (fun c9 => ?_) (fun c9 => ?_)
  · have hc9 : ¬ (v1.toInt = 0) := fun h9 => c9 ((fi_eq rfl (show (0 : Int32).toInt = 0 by decide)).mpr h9)
    exfalso
    omega
  · have hc9 : v1.toInt = 0 := (fi_eq rfl (show (0 : Int32).toInt = 0 by decide)).mp c9
    refine lv_aload_n hx hb dX12_back_9 rfl (lv_at hl 0 rfl) ?_
    refine lv_iconst (v := (-1)) hx hb dX12_back_10 (by decide) ?_
    have hk_m1 : ((-1) : Int32).toInt = (-1) := by decide
    refine tk_Vi (As := [.int (-1)]) (rest := []) (ci := 12) ⟨hx, hb, hml, hown, hts⟩ hK hG hZ hS (k_X12_refuse_x l D cy ld t a0 (-1) g0 g15 ht_a0 (by omega) (by omega) (by omega) (by omega)) ⟨hg_0, hg_1⟩ ⟨callB_of 1 hts (wl_in mw_275) rfl rfl rfl (htl _ mw_2) (htl _ mw_272) hd_yX12_refuse ⟨(Nat.le_of_ble_eq_true rfl), (Nat.le_of_ble_eq_true rfl)⟩, htl _ mw_273, htl _ mw_274⟩ ht_a0 (by decide) tk_no rfl (tk_w.pick [0, 1] rfl) rfl hl.1 rfl (Nat.le_of_ble_eq_true rfl) dX12_back_11 ⟨(Nat.le_of_ble_eq_true rfl), (Nat.le_of_ble_eq_true rfl)⟩ (fun v10 H locs hpo hG hS hq9 => ?_)
    obtain ⟨hpo12, hf13, hf14⟩ := hpo
    exact tk_iret (v := v10) hx hb hr rfl hlocks (show v10.toInt + 1 = 0 ∧ tk_f D H a0 12 13 (.int g0) ∧ tk_f D H a0 12 15 (.int g15) from ⟨(by omega), hf13, hf14⟩) hG hS dX12_back_14
set_option maxHeartbeats 4000000 in
set_option maxRecDepth 100000 in
theorem k_X2_addLaw_x (l : Launch) (D : va_G) (cy : Nat → ClassId) (ld : Nat → Nat) (t : tk_T) (sn1 : Nat) (sr1 : Nat) (a0 : Nat) (a1 : Nat) (n0 n1 n2 n3 : Int32) (fh fs fk q1 q2 q3 : Nat → Int32) (ht_a0 : t a0 = (3, 0, 0)) (ht_a1 : t a1 = (8, sn1, sr1)) (ht_ld70 : t (ld 70) = (32, 8, 0)) (ht_ld80 : t (ld 80) = (33, 10, 0)) (ht_ld90 : t (ld 90) = (34, 10, 0)) (ht_ld100 : t (ld 100) = (35, 10, 0)) (ht_ld110 : t (ld 110) = (36, 10, 0)) (ht_ld120 : t (ld 120) = (37, 10, 0)) (hp_0 : 0 ≤ n0.toInt) (hp_1 : n0.toInt ≤ 8) (hp_2 : 0 ≤ n1.toInt) (hp_3 : n1.toInt ≤ 10) (hp_4 : 0 ≤ n2.toInt) (hp_5 : n2.toInt ≤ 10) (hp_6 : 0 ≤ n3.toInt) (hp_7 : n3.toInt ≤ 8) : Met l yX2_addLaw (wl yX2_addLaw cX2_addLaw 2 (some .int)) ({ frames := 3, cells := 0, slots := 0, locals := 140 }) (tp D cy ld t [] [.ref a0, .ref a1] (fun H => jC D ld a0 0 n0 n1 n2 n3 fh fs fk q1 q2 q3 H)) (ti D cy ld t [] (fun r H => (-5) ≤ r.toInt ∧ r.toInt ≤ 5 ∧ jC D ld a0 0 n0 n1 n2 n3 fh fs fk q1 q2 q3 H) (tk_w t [(28, 0, 0), (3, 0, 0)])) 0 0 (tk_w t [(28, 0, 0), (3, 0, 0)]) := by
  refine tk_met (y := yX2_addLaw) (cc := cX2_addLaw) (maxL := 2) (ret := (some .int)) (av := [.ref a0, .ref a1]) _ _ (by decide) (Nat.le_of_ble_eq_true rfl) ?_
  intro p e s m args below meth c hx hb hr hml hts htl hown hlocks hK H locs hH hG hS hB hZ ls hl
  have hown : s.vm.findClass RX2 = some m.cls := hown
  have hl : lv_has ls 2 [(0, .ref a0), (1, .ref a1)] := hl
  have ⟨hj0_0, hj0_1, hj0_2, hj0_3, hj0_4, hj0_5, hj0_6, hj0_7, hj0_8, hj0_9⟩ := hB
  have hb_a1 := tk_X8 hG ht_a1 tk_no
  refine lv_aload_n hx hb dX2_addLaw_0 rfl (lv_at hl 0 rfl) ?_
  refine tk_get (ci := 2) (C := RX2) (T := TX2) (N := 20) (sp := (0, 0, 6, 0)) hx hb htl inX2 hown hK hG ht_a0 (by decide) tk_no rfl 13 (by decide) (htl _ mw_663) (fun _ h9 => h9) rfl dX2_addLaw_1 (fun v9 hf1 hV9 => ?_)
  obtain ⟨v2, rfl, (ha_v2 : 0 ≤ v2.toInt), (hb_v2 : v2.toInt ≤ 6)⟩ := hV9
  refine lv_bipush (v := 6) hx hb dX2_addLaw_4 (by decide) ?_
  refine lv_icmp_lt (tgt := 12) hx hb dX2_addLaw_6 (by decide) (fun c9 => ?_) (fun c9 => ?_)
  · have hc3 : v2.toInt < 6 := (fi_lt rfl (show (6 : Int32).toInt = 6 by decide)).mp c9
    refine lv_aload_n hx hb dX2_addLaw_12 rfl (lv_at hl 0 rfl) ?_
    refine tk_get (ci := 2) (C := RX2) (T := TX2) (N := 20) (sp := (1, 28, 6, 0)) hx hb htl inX2 hown hK hG ht_a0 (by decide) tk_no rfl 14 (by decide) (htl _ mw_70) (fun _ h9 => h9) rfl dX2_addLaw_13 (fun v9 hf4 hV9 => ?_)
    obtain ⟨b5, rfl, ht_b5⟩ := hV9
    have ht_b5 : t b5 = (28, 6, 0) := ht_b5
    refine lv_aload_n hx hb dX2_addLaw_16 rfl (lv_at hl 0 rfl) ?_
    refine tk_getk (ci := 2) (C := RX2) (T := TX2) (N := 20) (sp := (0, 0, 6, 0)) hx hb htl inX2 hown hK hG ht_a0 (by decide) tk_no rfl 13 (by decide) (htl _ mw_663) (fun _ h9 => h9) rfl hf1 dX2_addLaw_17 ?_
    refine lv_aload_n hx hb dX2_addLaw_20 rfl (lv_at hl 1 rfl) ?_
    refine tk_aast (ci := 7) hx hb hK hG hS 5 rfl ht_b5 (by decide) (fun _ => Iff.rfl) tk_no ht_a1 (by decide) tk_no rfl rfl (by omega) (by omega) (fun _ h => by cases h; exact ⟨_, _, ht_a1⟩) (tk_w.of ht_b5 (by decide) (List.mem_of_getElem? (i := 0) rfl) (Nat.le_refl _) (Nat.le_refl _)) dX2_addLaw_21 (fun H locs hG hS hq9 => ?_)
    have hj0_0 := hj0_0.kept (hq9 _ (tk_ne ht_a0 ht_b5 (Or.inl (by decide))))
    have hj0_1 := hj0_1.kept (hq9 _ (tk_ne ht_a0 ht_b5 (Or.inl (by decide))))
    have hj0_2 := hj0_2.kept (hq9 _ (tk_ne ht_a0 ht_b5 (Or.inl (by decide))))
    have hj0_3 := hj0_3.kept (hq9 _ (tk_ne ht_a0 ht_b5 (Or.inl (by decide))))
    have hj0_4 := hj0_4.kept (hq9 _ (tk_ne ht_ld70 ht_b5 (Or.inl (by decide))))
    have hj0_5 := hj0_5.kept (hq9 _ (tk_ne ht_ld80 ht_b5 (Or.inl (by decide))))
    have hj0_6 := hj0_6.kept (hq9 _ (tk_ne ht_ld90 ht_b5 (Or.inl (by decide))))
    have hj0_7 := hj0_7.kept (hq9 _ (tk_ne ht_ld100 ht_b5 (Or.inl (by decide))))
    have hj0_8 := hj0_8.kept (hq9 _ (tk_ne ht_ld110 ht_b5 (Or.inl (by decide))))
    have hj0_9 := hj0_9.kept (hq9 _ (tk_ne ht_ld120 ht_b5 (Or.inl (by decide))))
    have hf1 := hf1.kept (hq9 _ (tk_ne ht_a0 ht_b5 (Or.inl (by decide))))
    refine lv_aload_n hx hb dX2_addLaw_22 rfl (lv_at hl 0 rfl) ?_
    refine lv_dup hx hb dX2_addLaw_23 rfl ?_
    refine tk_getk (ci := 2) (C := RX2) (T := TX2) (N := 20) (sp := (0, 0, 6, 0)) hx hb htl inX2 hown hK hG ht_a0 (by decide) tk_no rfl 13 (by decide) (htl _ mw_663) (fun _ h9 => h9) rfl hf1 dX2_addLaw_24 ?_
    refine lv_iconst (v := 1) hx hb dX2_addLaw_27 (by decide) ?_
    refine lv_iadd hx hb dX2_addLaw_28 ?_
    refine tk_add rfl (show (1 : Int32).toInt = 1 by decide) (by omega) (by omega) (fun v7 h_v7 => ?_)
    refine tk_put (ci := 2) (v := .int v7) (ty := .int) (C := RX2) (T := TX2) (N := 20) (sp := (0, 0, 6, 0)) hx hb htl inX2 tyX2 tyX2_ok nmX2 hown hK hG hS ht_a0 (by decide) tk_no rfl 13 (by decide) (htl _ mw_663) (fun _ h9 => h9) rfl (tyX2_ok 13 (by decide)) rfl rfl rfl (tk_V0 (by omega) (by omega)) (fun _ h => h) (tk_w.of ht_a0 (by decide) (List.mem_of_getElem? (i := 1) rfl) (Nat.le_refl _) (Nat.le_refl _)) dX2_addLaw_29 (fun H locs hG hS hf8 hq9 hj9 => ?_)
    have hj0_0 := hj9 0 _ (by decide) (by decide) hj0_0
    have hj0_1 := hj9 4 _ (by decide) (by decide) hj0_1
    have hj0_2 := hj9 7 _ (by decide) (by decide) hj0_2
    have hj0_3 := hj9 11 _ (by decide) (by decide) hj0_3
    have hj0_4 := hj0_4.kept (hq9 _ (tk_ne ht_ld70 ht_a0 (Or.inl (by decide))))
    have hj0_5 := hj0_5.kept (hq9 _ (tk_ne ht_ld80 ht_a0 (Or.inl (by decide))))
    have hj0_6 := hj0_6.kept (hq9 _ (tk_ne ht_ld90 ht_a0 (Or.inl (by decide))))
    have hj0_7 := hj0_7.kept (hq9 _ (tk_ne ht_ld100 ht_a0 (Or.inl (by decide))))
    have hj0_8 := hj0_8.kept (hq9 _ (tk_ne ht_ld110 ht_a0 (Or.inl (by decide))))
    have hj0_9 := hj0_9.kept (hq9 _ (tk_ne ht_ld120 ht_a0 (Or.inl (by decide))))
    refine lv_aload_n hx hb dX2_addLaw_32 rfl (lv_at hl 0 rfl) ?_
    refine tk_getk (ci := 2) (C := RX2) (T := TX2) (N := 20) (sp := (0, 0, 6, 0)) hx hb htl inX2 hown hK hG ht_a0 (by decide) tk_no rfl 13 (by decide) (htl _ mw_663) (fun _ h9 => h9) rfl hf8 dX2_addLaw_33 ?_
    refine lv_iconst (v := 1) hx hb dX2_addLaw_36 (by decide) ?_
    refine lv_isub hx hb dX2_addLaw_37 ?_
    refine tk_sub rfl (show (1 : Int32).toInt = 1 by decide) (by omega) (by omega) (fun v10 h_v10 => ?_)
    exact tk_iret (v := v10) hx hb hr rfl hlocks (show (-5) ≤ v10.toInt ∧ v10.toInt ≤ 5 ∧ jC D ld a0 0 n0 n1 n2 n3 fh fs fk q1 q2 q3 H from ⟨(by omega), (by omega), ⟨hj0_0, hj0_1, hj0_2, hj0_3, hj0_4, hj0_5, hj0_6, hj0_7, hj0_8, hj0_9⟩⟩) hG hS dX2_addLaw_38
  · have hc3 : ¬ (v2.toInt < 6) := fun h9 => c9 ((fi_lt rfl (show (6 : Int32).toInt = 6 by decide)).mpr h9)
    refine lv_bipush (v := (-5)) hx hb dX2_addLaw_9 (by decide) ?_
    have hk_m5 : ((-5) : Int32).toInt = (-5) := by decide
    exact tk_iret (v := (-5)) hx hb hr rfl hlocks (show (-5) ≤ ((-5) : Int32).toInt ∧ ((-5) : Int32).toInt ≤ 5 ∧ jC D ld a0 0 n0 n1 n2 n3 fh fs fk q1 q2 q3 H from ⟨(by omega), (by omega), ⟨hj0_0, hj0_1, hj0_2, hj0_3, hj0_4, hj0_5, hj0_6, hj0_7, hj0_8, hj0_9⟩⟩) hG hS dX2_addLaw_11
set_option maxHeartbeats 4000000 in
set_option maxRecDepth 100000 in
theorem k_X12_law_x (l : Launch) (D : va_G) (cy : Nat → ClassId) (ld : Nat → Nat) (t : tk_T) (hF : tk_okF) (sz : Nat) (a0 : Nat) (g0 : Int32) (g15 : Int32) (n0 n1 n2 n3 : Int32) (fh fs fk q1 q2 q3 : Nat → Int32) (ht_a0 : t a0 = (13, 0, 0)) (ht_ld20 : t (ld 20) = (3, 0, 0)) (ht_ld70 : t (ld 70) = (32, 8, 0)) (ht_ld80 : t (ld 80) = (33, 10, 0)) (ht_ld90 : t (ld 90) = (34, 10, 0)) (ht_ld100 : t (ld 100) = (35, 10, 0)) (ht_ld110 : t (ld 110) = (36, 10, 0)) (ht_ld120 : t (ld 120) = (37, 10, 0)) (hp_0 : 0 ≤ n0.toInt) (hp_1 : n0.toInt ≤ 8) (hp_2 : 0 ≤ n1.toInt) (hp_3 : n1.toInt ≤ 10) (hp_4 : 0 ≤ n2.toInt) (hp_5 : n2.toInt ≤ 10) (hp_6 : 0 ≤ n3.toInt) (hp_7 : n3.toInt ≤ 8) (hp_8 : 0 ≤ g0.toInt) (hp_9 : g0.toInt ≤ 400) (hp_10 : (-2147483648) ≤ g15.toInt) (hp_11 : g15.toInt ≤ 2147483647) : Met l yX12_law (wl yX12_law cX12_law 2 (some .int)) ({ frames := 42, cells := 7, slots := 1106, locals := 2870 }) (tpsB D cy ld t [.ref a0] sz (fun H => tk_f D H a0 12 13 (.int g0) ∧ tk_f D H a0 12 15 (.int g15) ∧ jC D ld (ld 20) 0 n0 n1 n2 n3 fh fs fk q1 q2 q3 H)) (tqlP D cy ld t (fun q => tk_w t [(13, 0, 0), (8, 12, 12), (7, 0, 0), (20, 0, 0), (23, 0, 0), (28, 0, 0), (3, 0, 0)] q ∨ sz ≤ q) sz (fun H => tk_f D H a0 12 13 (.int 0) ∧ tk_f D H a0 12 15 (.int g15) ∧ jC D ld (ld 20) 0 n0 n1 n2 n3 fh fs fk q1 q2 q3 H)) 7 1106 (fun q => tk_w t [(13, 0, 0), (8, 12, 12), (7, 0, 0), (20, 0, 0), (23, 0, 0), (28, 0, 0), (3, 0, 0)] q ∨ sz ≤ q) := by
  refine tk_metlP (y := yX12_law) (cc := cX12_law) (maxL := 2) (ret := (some .int)) (av := [.ref a0]) (by decide) (Nat.le_of_ble_eq_true rfl) ?_
  intro p e s m args below meth c hx hb hr hml hts htl hown hlocks hK H locs hsz hG hB hS hZ ls hl
  have hown : s.vm.findClass RX12 = some m.cls := hown
  have hl : lv_has ls 2 [(0, .ref a0)] := hl
  obtain ⟨hg_0, hg_1, ⟨hj0_0, hj0_1, hj0_2, hj0_3, hj0_4, hj0_5, hj0_6, hj0_7, hj0_8, hj0_9⟩⟩ := hB
  have hAZ : ∀ q : Nat, q < s.heap.size → (tk_w t [(13, 0, 0), (8, 12, 12), (7, 0, 0), (20, 0, 0), (23, 0, 0), (28, 0, 0), (3, 0, 0)] q ∨ s.heap.size ≤ q) → (t q).1 ≠ 0 := fun q h1 h2 => h2.elim (fun h => h.1) (fun h => absurd h (Nat.not_le.mpr h1))
  refine lv_aload_n hx hb dX12_law_0 rfl (lv_at hl 0 rfl) ?_
  refine tk_getk (ci := 12) (C := RX12) (T := TX12) (N := 17) (sp := (0, 0, 400, 0)) hx hb htl inX12 hown hK hG ht_a0 (by decide) tk_no rfl 13 (by decide) (htl _ mw_422) (fun _ h9 => h9) rfl hg_0 dX12_law_1 ?_
  refine lv_istore_n (lv' := [(1, .int g0), (0, .ref a0)]) hx hb dX12_law_4 rfl hl (by decide) rfl (fun ls hl => ?_)
  refine lv_aload_n hx hb dX12_law_5 rfl (lv_at hl 1 rfl) ?_
  refine lv_iconst (v := 0) hx hb dX12_law_6 (by decide) ?_
  refine tk_put (ci := 12) (v := .int 0) (ty := .int) (C := RX12) (T := TX12) (N := 17) (sp := (0, 0, 400, 0)) hx hb htl inX12 tyX12 tyX12_ok nmX12 hown hK hG hS ht_a0 (by decide) tk_no rfl 13 (by decide) (htl _ mw_422) (fun _ h9 => h9) rfl (tyX12_ok 13 (by decide)) rfl rfl rfl (tk_V0 (by decide) (by decide)) (fun _ h => h) (Or.inl (tk_w.of ht_a0 (by decide) (List.mem_of_getElem? (i := 0) rfl) (Nat.le_refl _) (Nat.le_refl _))) dX12_law_7 (fun H locs hG hS hf1 hq9 hj9 => ?_)
  have hg_1 := hj9 15 _ (by decide) (by decide) hg_1
  have hj0_0 := hj0_0.kept (hq9 _ (tk_ne ht_ld20 ht_a0 (Or.inl (by decide))))
  have hj0_1 := hj0_1.kept (hq9 _ (tk_ne ht_ld20 ht_a0 (Or.inl (by decide))))
  have hj0_2 := hj0_2.kept (hq9 _ (tk_ne ht_ld20 ht_a0 (Or.inl (by decide))))
  have hj0_3 := hj0_3.kept (hq9 _ (tk_ne ht_ld20 ht_a0 (Or.inl (by decide))))
  have hj0_4 := hj0_4.kept (hq9 _ (tk_ne ht_ld70 ht_a0 (Or.inl (by decide))))
  have hj0_5 := hj0_5.kept (hq9 _ (tk_ne ht_ld80 ht_a0 (Or.inl (by decide))))
  have hj0_6 := hj0_6.kept (hq9 _ (tk_ne ht_ld90 ht_a0 (Or.inl (by decide))))
  have hj0_7 := hj0_7.kept (hq9 _ (tk_ne ht_ld100 ht_a0 (Or.inl (by decide))))
  have hj0_8 := hj0_8.kept (hq9 _ (tk_ne ht_ld110 ht_a0 (Or.inl (by decide))))
  have hj0_9 := hj0_9.kept (hq9 _ (tk_ne ht_ld120 ht_a0 (Or.inl (by decide))))
  refine lv_aload_n hx hb dX12_law_10 rfl (lv_at hl 1 rfl) ?_
  refine tk_get (ci := 12) (C := RX12) (T := TX12) (N := 17) (sp := (8, 20, 3, 0)) hx hb htl inX12 hown hK hG ht_a0 (by decide) tk_no rfl 0 (by decide) (htl _ mw_15) (fun _ h9 => h9) rfl dX12_law_11 (fun v9 hf3 hV9 => ?_)
  obtain ⟨rfl, ht_ld20⟩ := hV9
  have ht_ld20 : t (ld 20) = (3, 0, 0) := ht_ld20
  refine fx_top (v := .ref (ld 20)) rfl ?_
  refine tk_get (ci := 2) (C := RX2) (T := TX2) (N := 20) (sp := (0, 0, 6, 0)) hx hb htl inX2 hown hK hG ht_ld20 (by decide) tk_no rfl 13 (by decide) (htl _ mw_466) (fun _ h9 => h9) rfl dX12_law_14 (fun v9 hf4 hV9 => ?_)
  obtain ⟨v5, rfl, (ha_v5 : 0 ≤ v5.toInt), (hb_v5 : v5.toInt ≤ 6)⟩ := hV9
  refine lv_bipush (v := 6) hx hb dX12_law_17 (by decide) ?_
  refine lv_icmp_lt (tgt := 29) hx hb dX12_law_19 (by decide) (fun c9 => ?_) (fun c9 => ?_)
  · have hc6 : v5.toInt < 6 := (fi_lt rfl (show (6 : Int32).toInt = 6 by decide)).mp c9
    refine lv_aload_n hx hb dX12_law_29 rfl (lv_at hl 1 rfl) ?_
    refine lv_aload_n hx hb dX12_law_30 rfl (lv_at hl 1 rfl) ?_
    refine tk_get (ci := 12) (C := RX12) (T := TX12) (N := 17) (sp := (6, 7, 0, 0)) hx hb htl inX12 hown hK hG ht_a0 (by decide) tk_no rfl 6 (by decide) (htl _ mw_37) (fun _ h9 => h9) rfl dX12_law_31 (fun v9 hf7 hV9 => ?_)
    obtain ⟨b8, rfl, ht_b8⟩ := hV9
    have ht_b8 : t b8 = (7, 0, 0) := ht_b8
    refine lv_iload_n hx hb dX12_law_34 rfl (lv_at hl 0 rfl) ?_
    refine lv_iconst (v := 1) hx hb dX12_law_35 (by decide) ?_
    have hk_1 : (1 : Int32).toInt = 1 := by decide
    refine tk_ViA (As := [.int g0, .int 1]) (rest := [.ref a0]) (ci := 6) ⟨hx, hb, hml, hown, hts⟩ hK hG hZ hAZ hS (k_X6_read l D cy ld t b8 g0 1 ht_b8 (by omega) (by omega) (by omega) (by omega)) trivial ⟨callB_of 2 hts (wl_in mw_471) rfl rfl rfl (htl _ mw_36) (htl _ mw_468) hd_yX6_read ⟨(Nat.le_of_ble_eq_true rfl), (Nat.le_of_ble_eq_true rfl)⟩, htl _ mw_469, htl _ mw_470⟩ ht_b8 (by decide) tk_no rfl (fun q h => Or.inl (tk_w.pick [1, 2, 3, 4] rfl q h)) rfl hl.1 rfl (Nat.le_of_ble_eq_true rfl) dX12_law_36 ⟨(Nat.le_of_ble_eq_true rfl), (Nat.le_of_ble_eq_true rfl)⟩ (fun v9 H locs hpo hG hS hz9 hq9 => ?_)
    have hg_1 := hg_1.call hq9 (tk_w.no ht_a0 (by decide))
    have hj0_0 := hj0_0.call hq9 (tk_w.no ht_ld20 (by decide))
    have hj0_1 := hj0_1.call hq9 (tk_w.no ht_ld20 (by decide))
    have hj0_2 := hj0_2.call hq9 (tk_w.no ht_ld20 (by decide))
    have hj0_3 := hj0_3.call hq9 (tk_w.no ht_ld20 (by decide))
    have hj0_4 := hj0_4.call hq9 (tk_w.no ht_ld70 (by decide))
    have hj0_5 := hj0_5.call hq9 (tk_w.no ht_ld80 (by decide))
    have hj0_6 := hj0_6.call hq9 (tk_w.no ht_ld90 (by decide))
    have hj0_7 := hj0_7.call hq9 (tk_w.no ht_ld100 (by decide))
    have hj0_8 := hj0_8.call hq9 (tk_w.no ht_ld110 (by decide))
    have hj0_9 := hj0_9.call hq9 (tk_w.no ht_ld120 (by decide))
    have hf1 := hf1.call hq9 (tk_w.no ht_a0 (by decide))
    have hf4 := hf4.call hq9 (tk_w.no ht_ld20 (by decide))
    refine tk_put (ci := 12) (v := .int v9) (ty := .int) (C := RX12) (T := TX12) (N := 17) (sp := (0, (-2147483648), 2147483647, 0)) hx hb htl inX12 tyX12 tyX12_ok nmX12 hown hK hG hS ht_a0 (by decide) tk_no rfl 14 (by decide) (htl _ mw_55) (fun _ h9 => h9) rfl (tyX12_ok 14 (by decide)) rfl rfl rfl (tk_V0 (tk_rng _).1 (tk_rng _).2) (fun _ h => h) (Or.inl (tk_w.of ht_a0 (by decide) (List.mem_of_getElem? (i := 0) rfl) (Nat.le_refl _) (Nat.le_refl _))) dX12_law_39 (fun H locs hG hS hf11 hq9 hj9 => ?_)
    have hg_1 := hj9 15 _ (by decide) (by decide) hg_1
    have hj0_0 := hj0_0.kept (hq9 _ (tk_ne ht_ld20 ht_a0 (Or.inl (by decide))))
    have hj0_1 := hj0_1.kept (hq9 _ (tk_ne ht_ld20 ht_a0 (Or.inl (by decide))))
    have hj0_2 := hj0_2.kept (hq9 _ (tk_ne ht_ld20 ht_a0 (Or.inl (by decide))))
    have hj0_3 := hj0_3.kept (hq9 _ (tk_ne ht_ld20 ht_a0 (Or.inl (by decide))))
    have hj0_4 := hj0_4.kept (hq9 _ (tk_ne ht_ld70 ht_a0 (Or.inl (by decide))))
    have hj0_5 := hj0_5.kept (hq9 _ (tk_ne ht_ld80 ht_a0 (Or.inl (by decide))))
    have hj0_6 := hj0_6.kept (hq9 _ (tk_ne ht_ld90 ht_a0 (Or.inl (by decide))))
    have hj0_7 := hj0_7.kept (hq9 _ (tk_ne ht_ld100 ht_a0 (Or.inl (by decide))))
    have hj0_8 := hj0_8.kept (hq9 _ (tk_ne ht_ld110 ht_a0 (Or.inl (by decide))))
    have hj0_9 := hj0_9.kept (hq9 _ (tk_ne ht_ld120 ht_a0 (Or.inl (by decide))))
    have hf1 := hj9 13 _ (by decide) (by decide) hf1
    have hf4 := hf4.kept (hq9 _ (tk_ne ht_ld20 ht_a0 (Or.inl (by decide))))
    refine lv_aload_n hx hb dX12_law_42 rfl (lv_at hl 1 rfl) ?_
    refine tk_get (ci := 12) (C := RX12) (T := TX12) (N := 17) (sp := (0, (-2147483648), 2147483647, 0)) hx hb htl inX12 hown hK hG ht_a0 (by decide) tk_no rfl 14 (by decide) (htl _ mw_55) (fun _ h9 => h9) rfl dX12_law_43 (fun v9 hf13 hV9 => ?_)
    obtain ⟨v14, rfl, (ha_v14 : (-2147483648) ≤ v14.toInt), (hb_v14 : v14.toInt ≤ 2147483647)⟩ := hV9
    refine lv_iconst (v := (-1)) hx hb dX12_law_46 (by decide) ?_
    refine lv_icmp_eq (tgt := 57) hx hb dX12_law_47 (by decide) (fun c9 => ?_) (fun c9 => ?_)
    · have hc15 : v14.toInt = (-1) := (fi_eq rfl (show ((-1) : Int32).toInt = (-1) by decide)).mp c9
      refine lv_aload_n hx hb dX12_law_57 rfl (lv_at hl 1 rfl) ?_
      refine lv_aload_n hx hb dX12_law_58 rfl (lv_at hl 1 rfl) ?_
      refine tk_get (ci := 12) (C := RX12) (T := TX12) (N := 17) (sp := (8, 20, 3, 0)) hx hb htl inX12 hown hK hG ht_a0 (by decide) tk_no rfl 0 (by decide) (htl _ mw_15) (fun _ h9 => h9) rfl dX12_law_59 (fun v9 hf16 hV9 => ?_)
      obtain ⟨rfl, ht_ld20⟩ := hV9
      have ht_ld20 : t (ld 20) = (3, 0, 0) := ht_ld20
      refine fx_top (v := .ref (ld 20)) rfl ?_
      refine lv_aload_n hx hb dX12_law_62 rfl (lv_at hl 1 rfl) ?_
      refine tk_get (ci := 12) (C := RX12) (T := TX12) (N := 17) (sp := (6, 7, 0, 0)) hx hb htl inX12 hown hK hG ht_a0 (by decide) tk_no rfl 6 (by decide) (htl _ mw_37) (fun _ h9 => h9) rfl dX12_law_63 (fun v9 hf17 hV9 => ?_)
      obtain ⟨b18, rfl, ht_b18⟩ := hV9
      have ht_b18 : t b18 = (7, 0, 0) := ht_b18
      refine tk_get (ci := 6) (C := RX6) (T := TX6) (N := 11) (sp := (6, 8, 512, 12)) hx hb htl inX6 hown hK hG ht_b18 (by decide) tk_no rfl 0 (by decide) (htl _ mw_467) (fun _ h9 => h9) rfl dX12_law_66 (fun v9 hf19 hV9 => ?_)
      obtain ⟨b20, rfl, ht_b20⟩ := hV9
      have ht_b20 : t b20 = (8, 512, 12) := ht_b20
      have hn0 := hS.1
      refine tk_Vgk (rest := [.ref (ld 20), .ref a0]) (ci := 7) ⟨hx, hb, hml, hown, hts⟩ hK hG hZ hAZ hS (k_X7_cut l D cy ld t hF _ b20 ht_b20) ⟨callB_of 0 hts (wl_in mw_652) rfl rfl rfl (htl _ mw_131) (htl _ mw_649) hd7_cut ⟨(Nat.le_of_ble_eq_true rfl), (Nat.le_of_ble_eq_true rfl)⟩, htl _ mw_650, htl _ mw_651⟩ ht_b20 (by decide) rfl (fun q h => Or.inr (Nat.le_trans hn0 h)) hl.1 rfl (Nat.le_of_ble_eq_true rfl) dX12_law_69 ⟨(Nat.le_of_ble_eq_true rfl), (Nat.le_of_ble_eq_true rfl)⟩ (fun q9 t9 H locs g1 hG g3 g4 hS hq9 => ?_)
      have ht_a0 : t9 a0 = (13, 0, 0) := (g1 _ (by rw [ht_a0]; exact Nat.succ_ne_zero _)).trans ht_a0
      have ht_ld20 : t9 (ld 20) = (3, 0, 0) := (g1 _ (by rw [ht_ld20]; exact Nat.succ_ne_zero _)).trans ht_ld20
      have ht_ld70 : t9 (ld 70) = (32, 8, 0) := (g1 _ (by rw [ht_ld70]; exact Nat.succ_ne_zero _)).trans ht_ld70
      have ht_ld80 : t9 (ld 80) = (33, 10, 0) := (g1 _ (by rw [ht_ld80]; exact Nat.succ_ne_zero _)).trans ht_ld80
      have ht_ld90 : t9 (ld 90) = (34, 10, 0) := (g1 _ (by rw [ht_ld90]; exact Nat.succ_ne_zero _)).trans ht_ld90
      have ht_ld100 : t9 (ld 100) = (35, 10, 0) := (g1 _ (by rw [ht_ld100]; exact Nat.succ_ne_zero _)).trans ht_ld100
      have ht_ld110 : t9 (ld 110) = (36, 10, 0) := (g1 _ (by rw [ht_ld110]; exact Nat.succ_ne_zero _)).trans ht_ld110
      have ht_ld120 : t9 (ld 120) = (37, 10, 0) := (g1 _ (by rw [ht_ld120]; exact Nat.succ_ne_zero _)).trans ht_ld120
      have ht_b8 : t9 b8 = (7, 0, 0) := (g1 _ (by rw [ht_b8]; exact Nat.succ_ne_zero _)).trans ht_b8
      have ht_b18 : t9 b18 = (7, 0, 0) := (g1 _ (by rw [ht_b18]; exact Nat.succ_ne_zero _)).trans ht_b18
      have ht_b20 : t9 b20 = (8, 512, 12) := (g1 _ (by rw [ht_b20]; exact Nat.succ_ne_zero _)).trans ht_b20
      obtain ⟨n_q9, r_q9, ht_q9⟩ := g3
      have hb_q9 := tk_X8 hG ht_q9 tk_no
      have hZ : tk_Z ld t9 s := hZ.grow (fun a h1 h2 => (g4 a h2).elim id (fun h => absurd (Nat.le_trans hn0 h) (Nat.not_le.mpr h1)))
      have hAZ : ∀ q : Nat, q < s.heap.size → (tk_w t [(13, 0, 0), (8, 12, 12), (7, 0, 0), (20, 0, 0), (23, 0, 0), (28, 0, 0), (3, 0, 0)] q ∨ s.heap.size ≤ q) → (t9 q).1 ≠ 0 := fun q h1 h2 => by rw [g1 q (hAZ q h1 h2)]; exact hAZ q h1 h2
      have g4 : ∀ a : Nat, (t9 a).1 ≠ 0 → (t a).1 ≠ 0 ∨ s.heap.size ≤ a := fun a h => (g4 a h).imp id (fun h => Nat.le_trans hn0 h)
      have hn0 : s.heap.size ≤ s.heap.size := Nat.le_refl _
      have hg_1 := hg_1.kept (hq9 _ hg_1.lt)
      have hj0_0 := hj0_0.kept (hq9 _ hj0_0.lt)
      have hj0_1 := hj0_1.kept (hq9 _ hj0_1.lt)
      have hj0_2 := hj0_2.kept (hq9 _ hj0_2.lt)
      have hj0_3 := hj0_3.kept (hq9 _ hj0_3.lt)
      have hj0_4 := hj0_4.kept (hq9 _ hj0_4.lt)
      have hj0_5 := hj0_5.kept (hq9 _ hj0_5.lt)
      have hj0_6 := hj0_6.kept (hq9 _ hj0_6.lt)
      have hj0_7 := hj0_7.kept (hq9 _ hj0_7.lt)
      have hj0_8 := hj0_8.kept (hq9 _ hj0_8.lt)
      have hj0_9 := hj0_9.kept (hq9 _ hj0_9.lt)
      have hf1 := hf1.kept (hq9 _ hf1.lt)
      have hf4 := hf4.kept (hq9 _ hf4.lt)
      refine tk_ViA (As := [.ref q9]) (rest := [.ref a0]) (ci := 2) ⟨hx, hb, hml, hown, hts⟩ hK hG hZ hAZ hS (k_X2_addLaw_x l D cy ld t9 n_q9 r_q9 (ld 20) q9 n0 n1 n2 n3 fh fs fk q1 q2 q3 ht_ld20 ht_q9 ht_ld70 ht_ld80 ht_ld90 ht_ld100 ht_ld110 ht_ld120 (by omega) (by omega) (by omega) (by omega) (by omega) (by omega) (by omega) (by omega)) ⟨hj0_0, hj0_1, hj0_2, hj0_3, hj0_4, hj0_5, hj0_6, hj0_7, hj0_8, hj0_9⟩ ⟨callB_of 1 hts (wl_in mw_662) rfl rfl rfl (htl _ mw_14) (htl _ mw_659) hd_yX2_addLaw ⟨(Nat.le_of_ble_eq_true rfl), (Nat.le_of_ble_eq_true rfl)⟩, htl _ mw_660, htl _ mw_661⟩ ht_ld20 (by decide) tk_no rfl (fun q h => tk_w.grow g1 g4 hn0 (tk_w.pick [5, 6] rfl q h)) rfl hl.1 rfl (Nat.le_of_ble_eq_true rfl) dX12_law_72 ⟨(Nat.le_of_ble_eq_true rfl), (Nat.le_of_ble_eq_true rfl)⟩ (fun v22 H locs hpo hG hS hz9 hq9 => ?_)
      have hg_1 := hg_1.call hq9 (tk_w.no ht_a0 (by decide))
      have hj0_4 := hj0_4.call hq9 (tk_w.no ht_ld70 (by decide))
      have hj0_5 := hj0_5.call hq9 (tk_w.no ht_ld80 (by decide))
      have hj0_6 := hj0_6.call hq9 (tk_w.no ht_ld90 (by decide))
      have hj0_7 := hj0_7.call hq9 (tk_w.no ht_ld100 (by decide))
      have hj0_8 := hj0_8.call hq9 (tk_w.no ht_ld110 (by decide))
      have hj0_9 := hj0_9.call hq9 (tk_w.no ht_ld120 (by decide))
      have hf1 := hf1.call hq9 (tk_w.no ht_a0 (by decide))
      obtain ⟨hpo24, hpo25, ⟨hj26, hj27, hj28, hj29, hj30, hj31, hj32, hj33, hj34, hj35⟩⟩ := hpo
      have hk_0 : (0 : Int32).toInt = 0 := by decide
      refine tk_ViA (As := [.int v22]) (rest := []) (ci := 12) ⟨hx, hb, hml, hown, hts⟩ hK hG hZ hAZ hS (k_X12_accept_x l D cy ld t9 a0 v22 0 g15 ht_a0 (by omega) (by omega) (by omega) (by omega)) ⟨hf1, hg_1⟩ ⟨callB_of 1 hts (wl_in mw_281) rfl rfl rfl (htl _ mw_2) (htl _ mw_278) hd_yX12_accept ⟨(Nat.le_of_ble_eq_true rfl), (Nat.le_of_ble_eq_true rfl)⟩, htl _ mw_279, htl _ mw_280⟩ ht_a0 (by decide) tk_no rfl (fun q h => tk_w.grow g1 g4 hn0 (tk_w.pick [0] rfl q h)) rfl hl.1 rfl (Nat.le_of_ble_eq_true rfl) dX12_law_75 ⟨(Nat.le_of_ble_eq_true rfl), (Nat.le_of_ble_eq_true rfl)⟩ (fun v36 H locs hpo hG hS hz9 hq9 => ?_)
      have hj30 := hj30.call hq9 (tk_w.no ht_ld70 (by decide))
      have hj31 := hj31.call hq9 (tk_w.no ht_ld80 (by decide))
      have hj32 := hj32.call hq9 (tk_w.no ht_ld90 (by decide))
      have hj33 := hj33.call hq9 (tk_w.no ht_ld100 (by decide))
      have hj34 := hj34.call hq9 (tk_w.no ht_ld110 (by decide))
      have hj35 := hj35.call hq9 (tk_w.no ht_ld120 (by decide))
      have hj26 := hj26.call hq9 (tk_w.no ht_ld20 (by decide))
      have hj27 := hj27.call hq9 (tk_w.no ht_ld20 (by decide))
      have hj28 := hj28.call hq9 (tk_w.no ht_ld20 (by decide))
      have hj29 := hj29.call hq9 (tk_w.no ht_ld20 (by decide))
      obtain ⟨hpo38, hf39, hf40⟩ := hpo
      refine W.widen (k := 7) (n := 1106) (Nat.le_of_ble_eq_true rfl) (Nat.le_of_ble_eq_true rfl) ?_
      exact tk_iretLP (v := v36) hx hb hr hlocks g1 hG g4 (show tk_f D H a0 12 13 (.int 0) ∧ tk_f D H a0 12 15 (.int g15) ∧ jC D ld (ld 20) 0 n0 n1 n2 n3 fh fs fk q1 q2 q3 H from ⟨hf39, hf40, ⟨hj26, hj27, hj28, hj29, hj30, hj31, hj32, hj33, hj34, hj35⟩⟩) hS dX12_law_78
    · have hc15 : ¬ (v14.toInt = (-1)) := fun h9 => c9 ((fi_eq rfl (show ((-1) : Int32).toInt = (-1) by decide)).mpr h9)
      refine lv_aload_n hx hb dX12_law_50 rfl (lv_at hl 1 rfl) ?_
      refine lv_bipush (v := (-6)) hx hb dX12_law_51 (by decide) ?_
      have hk_m6 : ((-6) : Int32).toInt = (-6) := by decide
      have hk_0 : (0 : Int32).toInt = 0 := by decide
      refine tk_ViA (As := [.int (-6)]) (rest := []) (ci := 12) ⟨hx, hb, hml, hown, hts⟩ hK hG hZ hAZ hS (k_X12_refuse_x l D cy ld t a0 (-6) 0 g15 ht_a0 (by omega) (by omega) (by omega) (by omega)) ⟨hf1, hg_1⟩ ⟨callB_of 1 hts (wl_in mw_275) rfl rfl rfl (htl _ mw_2) (htl _ mw_272) hd_yX12_refuse ⟨(Nat.le_of_ble_eq_true rfl), (Nat.le_of_ble_eq_true rfl)⟩, htl _ mw_273, htl _ mw_274⟩ ht_a0 (by decide) tk_no rfl (fun q h => Or.inl (tk_w.pick [0, 3] rfl q h)) rfl hl.1 rfl (Nat.le_of_ble_eq_true rfl) dX12_law_53 ⟨(Nat.le_of_ble_eq_true rfl), (Nat.le_of_ble_eq_true rfl)⟩ (fun v41 H locs hpo hG hS hz9 hq9 => ?_)
      have hj0_0 := hj0_0.call hq9 (tk_w.no ht_ld20 (by decide))
      have hj0_1 := hj0_1.call hq9 (tk_w.no ht_ld20 (by decide))
      have hj0_2 := hj0_2.call hq9 (tk_w.no ht_ld20 (by decide))
      have hj0_3 := hj0_3.call hq9 (tk_w.no ht_ld20 (by decide))
      have hj0_4 := hj0_4.call hq9 (tk_w.no ht_ld70 (by decide))
      have hj0_5 := hj0_5.call hq9 (tk_w.no ht_ld80 (by decide))
      have hj0_6 := hj0_6.call hq9 (tk_w.no ht_ld90 (by decide))
      have hj0_7 := hj0_7.call hq9 (tk_w.no ht_ld100 (by decide))
      have hj0_8 := hj0_8.call hq9 (tk_w.no ht_ld110 (by decide))
      have hj0_9 := hj0_9.call hq9 (tk_w.no ht_ld120 (by decide))
      have hf4 := hf4.call hq9 (tk_w.no ht_ld20 (by decide))
      obtain ⟨hpo43, hf44, hf45⟩ := hpo
      refine W.widen (k := 7) (n := 1106) (Nat.le_of_ble_eq_true rfl) (Nat.le_of_ble_eq_true rfl) ?_
      exact tk_iretLP (v := v41) hx hb hr hlocks (fun _ _ => rfl) hG (fun _ h => Or.inl h) (show tk_f D H a0 12 13 (.int 0) ∧ tk_f D H a0 12 15 (.int g15) ∧ jC D ld (ld 20) 0 n0 n1 n2 n3 fh fs fk q1 q2 q3 H from ⟨hf44, hf45, ⟨hj0_0, hj0_1, hj0_2, hj0_3, hj0_4, hj0_5, hj0_6, hj0_7, hj0_8, hj0_9⟩⟩) hS dX12_law_56
  · have hc6 : ¬ (v5.toInt < 6) := fun h9 => c9 ((fi_lt rfl (show (6 : Int32).toInt = 6 by decide)).mpr h9)
    refine lv_aload_n hx hb dX12_law_22 rfl (lv_at hl 1 rfl) ?_
    refine lv_bipush (v := (-5)) hx hb dX12_law_23 (by decide) ?_
    have hk_m5 : ((-5) : Int32).toInt = (-5) := by decide
    have hk_0 : (0 : Int32).toInt = 0 := by decide
    refine tk_ViA (As := [.int (-5)]) (rest := []) (ci := 12) ⟨hx, hb, hml, hown, hts⟩ hK hG hZ hAZ hS (k_X12_refuse_x l D cy ld t a0 (-5) 0 g15 ht_a0 (by omega) (by omega) (by omega) (by omega)) ⟨hf1, hg_1⟩ ⟨callB_of 1 hts (wl_in mw_275) rfl rfl rfl (htl _ mw_2) (htl _ mw_272) hd_yX12_refuse ⟨(Nat.le_of_ble_eq_true rfl), (Nat.le_of_ble_eq_true rfl)⟩, htl _ mw_273, htl _ mw_274⟩ ht_a0 (by decide) tk_no rfl (fun q h => Or.inl (tk_w.pick [0, 3] rfl q h)) rfl hl.1 rfl (Nat.le_of_ble_eq_true rfl) dX12_law_25 ⟨(Nat.le_of_ble_eq_true rfl), (Nat.le_of_ble_eq_true rfl)⟩ (fun v46 H locs hpo hG hS hz9 hq9 => ?_)
    have hj0_0 := hj0_0.call hq9 (tk_w.no ht_ld20 (by decide))
    have hj0_1 := hj0_1.call hq9 (tk_w.no ht_ld20 (by decide))
    have hj0_2 := hj0_2.call hq9 (tk_w.no ht_ld20 (by decide))
    have hj0_3 := hj0_3.call hq9 (tk_w.no ht_ld20 (by decide))
    have hj0_4 := hj0_4.call hq9 (tk_w.no ht_ld70 (by decide))
    have hj0_5 := hj0_5.call hq9 (tk_w.no ht_ld80 (by decide))
    have hj0_6 := hj0_6.call hq9 (tk_w.no ht_ld90 (by decide))
    have hj0_7 := hj0_7.call hq9 (tk_w.no ht_ld100 (by decide))
    have hj0_8 := hj0_8.call hq9 (tk_w.no ht_ld110 (by decide))
    have hj0_9 := hj0_9.call hq9 (tk_w.no ht_ld120 (by decide))
    have hf4 := hf4.call hq9 (tk_w.no ht_ld20 (by decide))
    obtain ⟨hpo48, hf49, hf50⟩ := hpo
    refine W.widen (k := 7) (n := 1106) (Nat.le_of_ble_eq_true rfl) (Nat.le_of_ble_eq_true rfl) ?_
    exact tk_iretLP (v := v46) hx hb hr hlocks (fun _ _ => rfl) hG (fun _ h => Or.inl h) (show tk_f D H a0 12 13 (.int 0) ∧ tk_f D H a0 12 15 (.int g15) ∧ jC D ld (ld 20) 0 n0 n1 n2 n3 fh fs fk q1 q2 q3 H from ⟨hf49, hf50, ⟨hj0_0, hj0_1, hj0_2, hj0_3, hj0_4, hj0_5, hj0_6, hj0_7, hj0_8, hj0_9⟩⟩) hS dX12_law_28
