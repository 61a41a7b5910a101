set_option maxHeartbeats 4000000 in
set_option maxRecDepth 100000 in
theorem k_X12_image_1_x (l : Launch) (D : va_G) (cy : Nat → ClassId) (ld : Nat → Nat) (t : tk_T) (a0 : Nat) (g0 : Int32) (g15 : Int32) (n0 n1 n2 n3 : Int32) (fh fs fk q1 q2 q3 : Nat → Int32) (kf : Nat → Int32) (ht_a0 : t a0 = (13, 0, 0)) (ht_ld20 : t (ld 20) = (3, 0, 0)) (ht_ld70 : t (ld 70) = (32, 8, 0)) (ht_ld80 : t (ld 80) = (33, 10, 0)) (ht_ld90 : t (ld 90) = (34, 10, 0)) (ht_ld100 : t (ld 100) = (35, 10, 0)) (ht_ld110 : t (ld 110) = (36, 10, 0)) (ht_ld120 : t (ld 120) = (37, 10, 0)) (ht_ld49 : t (ld 49) = (29, 2, 0)) (ht_ld25 : t (ld 25) = (3, 0, 7)) (ht_ld77 : t (ld 77) = (32, 8, 7)) (ht_ld87 : t (ld 87) = (33, 10, 7)) (ht_ld97 : t (ld 97) = (34, 10, 7)) (ht_ld107 : t (ld 107) = (35, 10, 7)) (ht_ld117 : t (ld 117) = (36, 10, 7)) (ht_ld127 : t (ld 127) = (37, 10, 7)) (hp_0 : 0 ≤ n0.toInt) (hp_1 : n0.toInt ≤ 8) (hp_2 : 0 ≤ n1.toInt) (hp_3 : n1.toInt ≤ 10) (hp_4 : 0 ≤ n2.toInt) (hp_5 : n2.toInt ≤ 10) (hp_6 : 0 ≤ n3.toInt) (hp_7 : n3.toInt ≤ 8) (hp_8 : 0 ≤ g0.toInt) (hp_9 : g0.toInt ≤ 400) (hp_10 : (-2147483648) ≤ g15.toInt) (hp_11 : g15.toInt ≤ 2147483647) : Met l yX12_image (wl yX12_image cX12_image 2 (some .int)) ({ frames := 6, cells := 0, slots := 0, locals := 350 }) (tp D cy ld t [] [.ref a0, .int 1] (fun H => tk_f D H a0 12 13 (.int g0) ∧ tk_f D H a0 12 15 (.int g15) ∧ jC D ld (ld 20) 0 n0 n1 n2 n3 fh fs fk q1 q2 q3 H ∧ tk_ab H (ld 49) kf)) (ti D cy ld t [] (fun r H => r.toInt = 0 ∧ tk_f D H a0 12 13 (.int g0) ∧ tk_f D H a0 12 15 (.int g15) ∧ jC D ld (ld 20) 0 n0 n1 n2 n3 fh fs fk q1 q2 q3 H ∧ jC D ld (ld 25) 7 n0 n1 n2 n3 fh fs fk q1 q2 q3 H ∧ tk_ab H (ld 49) (upd kf 1 1)) (tk_w t [(3, 7, 7), (20, 7, 7), (21, 7, 7), (32, 7, 7), (33, 7, 7), (34, 7, 7), (35, 7, 7), (36, 7, 7), (37, 7, 7), (24, 7, 7), (28, 7, 7), (10, 7, 7), (29, 0, 0), (13, 0, 0)])) 0 0 (tk_w t [(3, 7, 7), (20, 7, 7), (21, 7, 7), (32, 7, 7), (33, 7, 7), (34, 7, 7), (35, 7, 7), (36, 7, 7), (37, 7, 7), (24, 7, 7), (28, 7, 7), (10, 7, 7), (29, 0, 0), (13, 0, 0)]) := by
  refine tk_met (y := yX12_image) (cc := cX12_image) (maxL := 2) (ret := (some .int)) (av := [.ref a0, .int 1]) _ _ (by decide) (Nat.le_of_ble_eq_true rfl) ?_
  intro p e s m args below meth c hx hb hr hml hts htl hown hlocks hK H locs hH hG hS hB hZ ls hl
  have hown : s.vm.findClass RX12 = some m.cls := hown
  have hl : lv_has ls 2 [(0, .ref a0), (1, .int 1)] := hl
  obtain ⟨hg_0, hg_1, ⟨hj0_0, hj0_1, hj0_2, hj0_3, hj0_4, hj0_5, hj0_6, hj0_7, hj0_8, hj0_9⟩, hj1_0⟩ := hB
  refine lv_iload_n hx hb dX12_image_0 rfl (lv_at hl 1 rfl) ?_
  refine lv_iconst (v := 0) hx hb dX12_image_1 (by decide) ?_
  refine lv_iconst (v := 1) hx hb dX12_image_2 (by decide) ?_
  have hk_1 : (1 : Int32).toInt = 1 := by decide
  have hk_0 : (0 : Int32).toInt = 0 := by decide
  have hk_1 : (1 : Int32).toInt = 1 := by decide
  refine tk_Si (As := [.int 1, .int 0, .int 1]) (rest := []) ⟨hx, hb, hml, hown, hts⟩ hK hG hZ hS (k_X12_within_x l D cy ld t _ 1 0 1) trivial ⟨callB_of 3 hts (wl_in mw_262) rfl rfl rfl (htl _ mw_2) (htl _ mw_277) hd_yX12_within ⟨(Nat.le_of_ble_eq_true rfl), (Nat.le_of_ble_eq_true rfl)⟩, htl _ mw_261⟩ (tk_w.pick [] rfl) rfl hl.1 rfl (Nat.le_of_ble_eq_true rfl) dX12_image_3 ⟨(Nat.le_of_ble_eq_true rfl), (Nat.le_of_ble_eq_true rfl)⟩ (fun v1 H locs hpo hG hS hq9 => ?_)
  have hg_0 := hg_0.call hq9 tk_w.nil
  have hg_1 := hg_1.call hq9 tk_w.nil
  have hj0_0 := hj0_0.call hq9 tk_w.nil
  have hj0_1 := hj0_1.call hq9 tk_w.nil
  have hj0_2 := hj0_2.call hq9 tk_w.nil
  have hj0_3 := hj0_3.call hq9 tk_w.nil
  have hj0_4 := hj0_4.call hq9 tk_w.nil
  have hj0_5 := hj0_5.call hq9 tk_w.nil
  have hj0_6 := hj0_6.call hq9 tk_w.nil
  have hj0_7 := hj0_7.call hq9 tk_w.nil
  have hj0_8 := hj0_8.call hq9 tk_w.nil
  have hj0_9 := hj0_9.call hq9 tk_w.nil
  have hj1_0 := hj1_0.call hq9 tk_w.nil
  obtain ⟨hpo3, hpo4, hpo5, hpo6, hpo7, hpo8⟩ := hpo
  refine lv_if_ne (tgt := 15) hx hb dX12_image_6 (by decide) (fun c9 => ?_) (fun c9 => ?_)
  · have hc9 : ¬ (v1.toInt = 0) := fun h9 => c9 ((fi_eq rfl (show (0 : Int32).toInt = 0 by decide)).mpr h9)
    refine lv_aload_n hx hb dX12_image_15 rfl (lv_at hl 0 rfl) ?_
    refine tk_get (ci := 12) (C := RX12) (T := TX12) (N := 17) (sp := (6, 27, 2, 0)) hx hb htl inX12 hown hK hG ht_a0 (by decide) tk_no rfl 1 (by decide) (htl _ mw_16) (fun _ h9 => h9) rfl dX12_image_16 (fun v9 hf10 hV9 => ?_)
    obtain ⟨b11, rfl, ht_b11⟩ := hV9
    have ht_b11 : t b11 = (27, 2, 0) := ht_b11
    refine lv_iload_n hx hb dX12_image_19 rfl (lv_at hl 1 rfl) ?_
    refine tk_aald hx hb hK hG 4 rfl rfl ht_b11 (by decide) (fun _ h => h) tk_no (I := 1) (by decide) (by decide) (by decide) dX12_image_20 (fun o12 ht_o12 => ?_)
    obtain ⟨rfl, ht_ld25⟩ := ht_o12
    have ht_ld25 : t (ld 25) = (3, 0, 7) := ht_ld25
    refine fx_top (v := .ref (ld 25)) rfl ?_
    refine lv_aload_n hx hb dX12_image_21 rfl (lv_at hl 0 rfl) ?_
    refine tk_get (ci := 12) (C := RX12) (T := TX12) (N := 17) (sp := (8, 20, 3, 0)) hx hb htl inX12 hown hK hG ht_a0 (by decide) tk_no rfl 0 (by decide) (htl _ mw_15) (fun _ h9 => h9) rfl dX12_image_22 (fun v9 hf13 hV9 => ?_)
    obtain ⟨rfl, ht_ld20⟩ := hV9
    have ht_ld20 : t (ld 20) = (3, 0, 0) := ht_ld20
    refine fx_top (v := .ref (ld 20)) rfl ?_
    refine tk_Vv (As := [.ref (ld 20)]) (rest := []) (ci := 2) ⟨hx, hb, hml, hown, hts⟩ hK hG hZ hS (k_X2_copyFrom_7_0_x l D cy ld t (ld 25) (ld 20) n0 n1 n2 n3 fh fs fk q1 q2 q3 ht_ld25 ht_ld20 ht_ld70 ht_ld80 ht_ld90 ht_ld100 ht_ld110 ht_ld120 ht_ld77 ht_ld87 ht_ld97 ht_ld107 ht_ld117 ht_ld127 (by omega) (by omega) (by omega) (by omega) (by omega) (by omega) (by omega) (by omega)) ⟨hj0_0, hj0_1, hj0_2, hj0_3, hj0_4, hj0_5, hj0_6, hj0_7, hj0_8, hj0_9⟩ ⟨callB_of 1 hts (wl_in mw_1711) rfl rfl rfl (htl _ mw_14) (htl _ mw_1708) hd_yX2_copyFrom ⟨(Nat.le_of_ble_eq_true rfl), (Nat.le_of_ble_eq_true rfl)⟩, htl _ mw_1709, htl _ mw_1710⟩ ht_ld25 (by decide) tk_no rfl (tk_w.pick [0, 1, 2, 3, 4, 5, 6, 7, 8, 9, 10, 11] rfl) rfl hl.1 rfl (Nat.le_of_ble_eq_true rfl) dX12_image_25 ⟨(Nat.le_of_ble_eq_true rfl), (Nat.le_of_ble_eq_true rfl)⟩ (fun H locs hpo hG hS hq9 => ?_)
    have hg_0 := hg_0.call hq9 (tk_w.no ht_a0 (by decide))
    have hg_1 := hg_1.call hq9 (tk_w.no ht_a0 (by decide))
    have hj0_0 := hj0_0.call hq9 (tk_w.no ht_ld20 (by decide))
    have hj0_1 := hj0_1.call hq9 (tk_w.no ht_ld20 (by decide))
    have hj0_2 := hj0_2.call hq9 (tk_w.no ht_ld20 (by decide))
    have hj0_3 := hj0_3.call hq9 (tk_w.no ht_ld20 (by decide))
    have hj0_4 := hj0_4.call hq9 (tk_w.no ht_ld70 (by decide))
    have hj0_5 := hj0_5.call hq9 (tk_w.no ht_ld80 (by decide))
    have hj0_6 := hj0_6.call hq9 (tk_w.no ht_ld90 (by decide))
    have hj0_7 := hj0_7.call hq9 (tk_w.no ht_ld100 (by decide))
    have hj0_8 := hj0_8.call hq9 (tk_w.no ht_ld110 (by decide))
    have hj0_9 := hj0_9.call hq9 (tk_w.no ht_ld120 (by decide))
    have hj1_0 := hj1_0.call hq9 (tk_w.no ht_ld49 (by decide))
    obtain ⟨⟨hj15, hj16, hj17, hj18, hj19, hj20, hj21, hj22, hj23, hj24⟩, ⟨hj25, hj26, hj27, hj28, hj29, hj30, hj31, hj32, hj33, hj34⟩⟩ := hpo
    refine lv_aload_n hx hb dX12_image_28 rfl (lv_at hl 0 rfl) ?_
    refine tk_get (ci := 12) (C := RX12) (T := TX12) (N := 17) (sp := (10, 49, 29, 32)) hx hb htl inX12 hown hK hG ht_a0 (by decide) tk_no rfl 2 (by decide) (htl _ mw_18) (fun _ h9 => h9) rfl dX12_image_29 (fun v9 hf35 hV9 => ?_)
    obtain ⟨rfl, ht_ld49⟩ := hV9
    have ht_ld49 : t (ld 49) = (29, 2, 0) := ht_ld49
    refine fx_top (v := .ref (ld 49)) rfl ?_
    refine lv_iload_n hx hb dX12_image_32 rfl (lv_at hl 1 rfl) ?_
    refine lv_iconst (v := 1) hx hb dX12_image_33 (by decide) ?_
    refine tk_zastA hx hb hK hG hS ht_ld49 (by decide) (fun _ => Iff.rfl) tk_no (I := 1) (by decide) (by decide) (by decide) (tk_w.of ht_ld49 (by decide) (List.mem_of_getElem? (i := 12) rfl) (Nat.le_refl _) (Nat.le_refl _)) dX12_image_34 hj1_0 (fun H locs hG hS hq9 hj37 => ?_)
    have hj37 : tk_ab H (ld 49) (upd kf (1 : Int32).toNatClampNeg (vp_nar .boolean (1 : Int32))) := hj37
    have hg_0 := hg_0.kept (hq9 _ (tk_ne ht_a0 ht_ld49 (Or.inl (by decide))))
    have hg_1 := hg_1.kept (hq9 _ (tk_ne ht_a0 ht_ld49 (Or.inl (by decide))))
    have hj15 := hj15.kept (hq9 _ (tk_ne ht_ld20 ht_ld49 (Or.inl (by decide))))
    have hj16 := hj16.kept (hq9 _ (tk_ne ht_ld20 ht_ld49 (Or.inl (by decide))))
    have hj17 := hj17.kept (hq9 _ (tk_ne ht_ld20 ht_ld49 (Or.inl (by decide))))
    have hj18 := hj18.kept (hq9 _ (tk_ne ht_ld20 ht_ld49 (Or.inl (by decide))))
    have hj19 := hj19.kept (hq9 _ (tk_ne ht_ld70 ht_ld49 (Or.inl (by decide))))
    have hj20 := hj20.kept (hq9 _ (tk_ne ht_ld80 ht_ld49 (Or.inl (by decide))))
    have hj21 := hj21.kept (hq9 _ (tk_ne ht_ld90 ht_ld49 (Or.inl (by decide))))
    have hj22 := hj22.kept (hq9 _ (tk_ne ht_ld100 ht_ld49 (Or.inl (by decide))))
    have hj23 := hj23.kept (hq9 _ (tk_ne ht_ld110 ht_ld49 (Or.inl (by decide))))
    have hj24 := hj24.kept (hq9 _ (tk_ne ht_ld120 ht_ld49 (Or.inl (by decide))))
    have hj25 := hj25.kept (hq9 _ (tk_ne ht_ld25 ht_ld49 (Or.inl (by decide))))
    have hj26 := hj26.kept (hq9 _ (tk_ne ht_ld25 ht_ld49 (Or.inl (by decide))))
    have hj27 := hj27.kept (hq9 _ (tk_ne ht_ld25 ht_ld49 (Or.inl (by decide))))
    have hj28 := hj28.kept (hq9 _ (tk_ne ht_ld25 ht_ld49 (Or.inl (by decide))))
    have hj29 := hj29.kept (hq9 _ (tk_ne ht_ld77 ht_ld49 (Or.inl (by decide))))
    have hj30 := hj30.kept (hq9 _ (tk_ne ht_ld87 ht_ld49 (Or.inl (by decide))))
    have hj31 := hj31.kept (hq9 _ (tk_ne ht_ld97 ht_ld49 (Or.inl (by decide))))
    have hj32 := hj32.kept (hq9 _ (tk_ne ht_ld107 ht_ld49 (Or.inl (by decide))))
    have hj33 := hj33.kept (hq9 _ (tk_ne ht_ld117 ht_ld49 (Or.inl (by decide))))
    have hj34 := hj34.kept (hq9 _ (tk_ne ht_ld127 ht_ld49 (Or.inl (by decide))))
    refine lv_aload_n hx hb dX12_image_35 rfl (lv_at hl 0 rfl) ?_
    refine lv_iconst (v := 0) hx hb dX12_image_36 (by decide) ?_
    have hk_0 : (0 : Int32).toInt = 0 := by decide
    refine tk_Vi (As := [.int 0]) (rest := []) (ci := 12) ⟨hx, hb, hml, hown, hts⟩ hK hG hZ hS (k_X12_accept_x l D cy ld t a0 0 g0 g15 ht_a0 (by omega) (by omega) (by omega) (by omega)) ⟨hg_0, hg_1⟩ ⟨callB_of 1 hts (wl_in mw_281) rfl rfl rfl (htl _ mw_2) (htl _ mw_278) hd_yX12_accept ⟨(Nat.le_of_ble_eq_true rfl), (Nat.le_of_ble_eq_true rfl)⟩, htl _ mw_279, htl _ mw_280⟩ ht_a0 (by decide) tk_no rfl (tk_w.pick [13] rfl) rfl hl.1 rfl (Nat.le_of_ble_eq_true rfl) dX12_image_37 ⟨(Nat.le_of_ble_eq_true rfl), (Nat.le_of_ble_eq_true rfl)⟩ (fun v38 H locs hpo hG hS hq9 => ?_)
    have hj15 := hj15.call hq9 (tk_w.no ht_ld20 (by decide))
    have hj16 := hj16.call hq9 (tk_w.no ht_ld20 (by decide))
    have hj17 := hj17.call hq9 (tk_w.no ht_ld20 (by decide))
    have hj18 := hj18.call hq9 (tk_w.no ht_ld20 (by decide))
    have hj19 := hj19.call hq9 (tk_w.no ht_ld70 (by decide))
    have hj20 := hj20.call hq9 (tk_w.no ht_ld80 (by decide))
    have hj21 := hj21.call hq9 (tk_w.no ht_ld90 (by decide))
    have hj22 := hj22.call hq9 (tk_w.no ht_ld100 (by decide))
    have hj23 := hj23.call hq9 (tk_w.no ht_ld110 (by decide))
    have hj24 := hj24.call hq9 (tk_w.no ht_ld120 (by decide))
    have hj25 := hj25.call hq9 (tk_w.no ht_ld25 (by decide))
    have hj26 := hj26.call hq9 (tk_w.no ht_ld25 (by decide))
    have hj27 := hj27.call hq9 (tk_w.no ht_ld25 (by decide))
    have hj28 := hj28.call hq9 (tk_w.no ht_ld25 (by decide))
    have hj29 := hj29.call hq9 (tk_w.no ht_ld77 (by decide))
    have hj30 := hj30.call hq9 (tk_w.no ht_ld87 (by decide))
    have hj31 := hj31.call hq9 (tk_w.no ht_ld97 (by decide))
    have hj32 := hj32.call hq9 (tk_w.no ht_ld107 (by decide))
    have hj33 := hj33.call hq9 (tk_w.no ht_ld117 (by decide))
    have hj34 := hj34.call hq9 (tk_w.no ht_ld127 (by decide))
    have hj37 := hj37.call hq9 (tk_w.no ht_ld49 (by decide))
    obtain ⟨hpo40, hf41, hf42⟩ := hpo
    exact tk_iret (v := v38) hx hb hr rfl hlocks (show v38.toInt = 0 ∧ tk_f D H a0 12 13 (.int g0) ∧ tk_f D H a0 12 15 (.int g15) ∧ jC D ld (ld 20) 0 n0 n1 n2 n3 fh fs fk q1 q2 q3 H ∧ jC D ld (ld 25) 7 n0 n1 n2 n3 fh fs fk q1 q2 q3 H ∧ tk_ab H (ld 49) (upd kf 1 1) from ⟨(by omega), hf41, hf42, ⟨hj15, hj16, hj17, hj18, hj19, hj20, hj21, hj22, hj23, hj24⟩, ⟨hj25, hj26, hj27, hj28, hj29, hj30, hj31, hj32, hj33, hj34⟩, hj37⟩) hG hS dX12_image_40
  · have hc9 : v1.toInt = 0 := (fi_eq rfl (show (0 : Int32).toInt = 0 by decide)).mp c9
    exfalso
    omega
set_option maxHeartbeats 4000000 in
set_option maxRecDepth 100000 in
theorem k_X12_image_lo_x (l : Launch) (D : va_G) (cy : Nat → ClassId) (ld : Nat → Nat) (t : tk_T) (a0 : Nat) (p1 : Int32) (g0 : Int32) (g15 : Int32) (ht_a0 : t a0 = (13, 0, 0)) (hp_0 : p1.toInt ≤ (-1)) (hp_1 : 0 ≤ g0.toInt) (hp_2 : g0.toInt ≤ 400) (hp_3 : (-2147483648) ≤ g15.toInt) (hp_4 : g15.toInt ≤ 2147483647) : Met l yX12_image (wl yX12_image cX12_image 2 (some .int)) ({ frames := 5, cells := 0, slots := 0, locals := 280 }) (tp D cy ld t [] [.ref a0, .int p1] (fun H => tk_f D H a0 12 13 (.int g0) ∧ tk_f D H a0 12 15 (.int g15))) (ti D cy ld t [] (fun r H => r.toInt + 1 = 0 ∧ tk_f D H a0 12 13 (.int g0) ∧ tk_f D H a0 12 15 (.int g15)) (tk_w t [(13, 0, 0), (20, 0, 0)])) 0 0 (tk_w t [(13, 0, 0), (20, 0, 0)]) := by
  refine tk_met (y := yX12_image) (cc := cX12_image) (maxL := 2) (ret := (some .int)) (av := [.ref a0, .int p1]) _ _ (by decide) (Nat.le_of_ble_eq_true rfl) ?_
  intro p e s m args below meth c hx hb hr hml hts htl hown hlocks hK H locs hH hG hS hB hZ ls hl
  have hown : s.vm.findClass RX12 = some m.cls := hown
  have hl : lv_has ls 2 [(0, .ref a0), (1, .int p1)] := hl
  obtain ⟨hg_0, hg_1⟩ := hB
  have hr_p1 := tk_rng p1
  refine lv_iload_n hx hb dX12_image_0 rfl (lv_at hl 1 rfl) ?_
  refine lv_iconst (v := 0) hx hb dX12_image_1 (by decide) ?_
  refine lv_iconst (v := 1) hx hb dX12_image_2 (by decide) ?_
  have hk_0 : (0 : Int32).toInt = 0 := by decide
  have hk_1 : (1 : Int32).toInt = 1 := by decide
  refine tk_Si (As := [.int p1, .int 0, .int 1]) (rest := []) ⟨hx, hb, hml, hown, hts⟩ hK hG hZ hS (k_X12_within_x l D cy ld t _ p1 0 1) trivial ⟨callB_of 3 hts (wl_in mw_262) rfl rfl rfl (htl _ mw_2) (htl _ mw_277) hd_yX12_within ⟨(Nat.le_of_ble_eq_true rfl), (Nat.le_of_ble_eq_true rfl)⟩, htl _ mw_261⟩ (tk_w.pick [] rfl) rfl hl.1 rfl (Nat.le_of_ble_eq_true rfl) dX12_image_3 ⟨(Nat.le_of_ble_eq_true rfl), (Nat.le_of_ble_eq_true rfl)⟩ (fun v1 H locs hpo hG hS hq9 => ?_)
  have hg_0 := hg_0.call hq9 tk_w.nil
  have hg_1 := hg_1.call hq9 tk_w.nil
  obtain ⟨hpo3, hpo4, hpo5, hpo6, hpo7, hpo8⟩ := hpo
  refine lv_if_ne (tgt := 15) hx hb dX12_image_6 (by decide) (fun c9 => ?_) (fun c9 => ?_)
  · have hc9 : ¬ (v1.toInt = 0) := fun h9 => c9 ((fi_eq rfl (show (0 : Int32).toInt = 0 by decide)).mpr h9)
    exfalso
    omega
  · have hc9 : v1.toInt = 0 := (fi_eq rfl (show (0 : Int32).toInt = 0 by decide)).mp c9
    refine lv_aload_n hx hb dX12_image_9 rfl (lv_at hl 0 rfl) ?_
    refine lv_iconst (v := (-1)) hx hb dX12_image_10 (by decide) ?_
    have hk_m1 : ((-1) : Int32).toInt = (-1) := by decide
    refine tk_Vi (As := [.int (-1)]) (rest := []) (ci := 12) ⟨hx, hb, hml, hown, hts⟩ hK hG hZ hS (k_X12_refuse_x l D cy ld t a0 (-1) g0 g15 ht_a0 (by omega) (by omega) (by omega) (by omega)) ⟨hg_0, hg_1⟩ ⟨callB_of 1 hts (wl_in mw_275) rfl rfl rfl (htl _ mw_2) (htl _ mw_272) hd_yX12_refuse ⟨(Nat.le_of_ble_eq_true rfl), (Nat.le_of_ble_eq_true rfl)⟩, htl _ mw_273, htl _ mw_274⟩ ht_a0 (by decide) tk_no rfl (tk_w.pick [0, 1] rfl) rfl hl.1 rfl (Nat.le_of_ble_eq_true rfl) dX12_image_11 ⟨(Nat.le_of_ble_eq_true rfl), (Nat.le_of_ble_eq_true rfl)⟩ (fun v10 H locs hpo hG hS hq9 => ?_)
    obtain ⟨hpo12, hf13, hf14⟩ := hpo
    exact tk_iret (v := v10) hx hb hr rfl hlocks (show v10.toInt + 1 = 0 ∧ tk_f D H a0 12 13 (.int g0) ∧ tk_f D H a0 12 15 (.int g15) from ⟨(by omega), hf13, hf14⟩) hG hS dX12_image_14
set_option maxHeartbeats 4000000 in
set_option maxRecDepth 100000 in
theorem k_X12_image_hi_x (l : Launch) (D : va_G) (cy : Nat → ClassId) (ld : Nat → Nat) (t : tk_T) (a0 : Nat) (p1 : Int32) (g0 : Int32) (g15 : Int32) (ht_a0 : t a0 = (13, 0, 0)) (hp_0 : 2 ≤ p1.toInt) (hp_1 : 0 ≤ g0.toInt) (hp_2 : g0.toInt ≤ 400) (hp_3 : (-2147483648) ≤ g15.toInt) (hp_4 : g15.toInt ≤ 2147483647) : Met l yX12_image (wl yX12_image cX12_image 2 (some .int)) ({ frames := 5, cells := 0, slots := 0, locals := 280 }) (tp D cy ld t [] [.ref a0, .int p1] (fun H => tk_f D H a0 12 13 (.int g0) ∧ tk_f D H a0 12 15 (.int g15))) (ti D cy ld t [] (fun r H => r.toInt + 1 = 0 ∧ tk_f D H a0 12 13 (.int g0) ∧ tk_f D H a0 12 15 (.int g15)) (tk_w t [(13, 0, 0), (20, 0, 0)])) 0 0 (tk_w t [(13, 0, 0), (20, 0, 0)]) := by
  refine tk_met (y := yX12_image) (cc := cX12_image) (maxL := 2) (ret := (some .int)) (av := [.ref a0, .int p1]) _ _ (by decide) (Nat.le_of_ble_eq_true rfl) ?_
  intro p e s m args below meth c hx hb hr hml hts htl hown hlocks hK H locs hH hG hS hB hZ ls hl
  have hown : s.vm.findClass RX12 = some m.cls := hown
  have hl : lv_has ls 2 [(0, .ref a0), (1, .int p1)] := hl
  obtain ⟨hg_0, hg_1⟩ := hB
  have hr_p1 := tk_rng p1
  refine lv_iload_n hx hb dX12_image_0 rfl (lv_at hl 1 rfl) ?_
  refine lv_iconst (v := 0) hx hb dX12_image_1 (by decide) ?_
  refine lv_iconst (v := 1) hx hb dX12_image_2 (by decide) ?_
  have hk_0 : (0 : Int32).toInt = 0 := by decide
  have hk_1 : (1 : Int32).toInt = 1 := by decide
  refine tk_Si (As := [.int p1, .int 0, .int 1]) (rest := []) ⟨hx, hb, hml, hown, hts⟩ hK hG hZ hS (k_X12_within_x l D cy ld t _ p1 0 1) trivial ⟨callB_of 3 hts (wl_in mw_262) rfl rfl rfl (htl _ mw_2) (htl _ mw_277) hd_yX12_within ⟨(Nat.le_of_ble_eq_true rfl), (Nat.le_of_ble_eq_true rfl)⟩, htl _ mw_261⟩ (tk_w.pick [] rfl) rfl hl.1 rfl (Nat.le_of_ble_eq_true rfl) dX12_image_3 ⟨(Nat.le_of_ble_eq_true rfl), (Nat.le_of_ble_eq_true rfl)⟩ (fun v1 H locs hpo hG hS hq9 => ?_)
  have hg_0 := hg_0.call hq9 tk_w.nil
  have hg_1 := hg_1.call hq9 tk_w.nil
  obtain ⟨hpo3, hpo4, hpo5, hpo6, hpo7, hpo8⟩ := hpo
  refine lv_if_ne (tgt := 15) hx hb dX12_image_6 (by decide) (fun c9 => ?_) (fun c9 => ?_)
  · have hc9 : ¬ (v1.toInt = 0) := fun h9 => c9 ((fi_eq rfl (show (0 : Int32).toInt = 0 by decide)).mpr h9)
    exfalso
    omega
  · have hc9 : v1.toInt = 0 := (fi_eq rfl (show (0 : Int32).toInt = 0 by decide)).mp c9
    refine lv_aload_n hx hb dX12_image_9 rfl (lv_at hl 0 rfl) ?_
    refine lv_iconst (v := (-1)) hx hb dX12_image_10 (by decide) ?_
    have hk_m1 : ((-1) : Int32).toInt = (-1) := by decide
    refine tk_Vi (As := [.int (-1)]) (rest := []) (ci := 12) ⟨hx, hb, hml, hown, hts⟩ hK hG hZ hS (k_X12_refuse_x l D cy ld t a0 (-1) g0 g15 ht_a0 (by omega) (by omega) (by omega) (by omega)) ⟨hg_0, hg_1⟩ ⟨callB_of 1 hts (wl_in mw_275) rfl rfl rfl (htl _ mw_2) (htl _ mw_272) hd_yX12_refuse ⟨(Nat.le_of_ble_eq_true rfl), (Nat.le_of_ble_eq_true rfl)⟩, htl _ mw_273, htl _ mw_274⟩ ht_a0 (by decide) tk_no rfl (tk_w.pick [0, 1] rfl) rfl hl.1 rfl (Nat.le_of_ble_eq_true rfl) dX12_image_11 ⟨(Nat.le_of_ble_eq_true rfl), (Nat.le_of_ble_eq_true rfl)⟩ (fun v10 H locs hpo hG hS hq9 => ?_)
    obtain ⟨hpo12, hf13, hf14⟩ := hpo
    exact tk_iret (v := v10) hx hb hr rfl hlocks (show v10.toInt + 1 = 0 ∧ tk_f D H a0 12 13 (.int g0) ∧ tk_f D H a0 12 15 (.int g15) from ⟨(by omega), hf13, hf14⟩) hG hS dX12_image_14
set_option maxHeartbeats 4000000 in
set_option maxRecDepth 100000 in
theorem k_X2_copyFrom_0_6_x (l : Launch) (D : va_G) (cy : Nat → ClassId) (ld : Nat → Nat) (t : tk_T) (a0 : Nat) (a1 : Nat) (n0 n1 n2 n3 : Int32) (fh fs fk q1 q2 q3 : Nat → Int32) (ht_a0 : t a0 = (3, 0, 0)) (ht_a1 : t a1 = (3, 0, 6)) (ht_ld76 : t (ld 76) = (32, 8, 6)) (ht_ld86 : t (ld 86) = (33, 10, 6)) (ht_ld96 : t (ld 96) = (34, 10, 6)) (ht_ld106 : t (ld 106) = (35, 10, 6)) (ht_ld116 : t (ld 116) = (36, 10, 6)) (ht_ld126 : t (ld 126) = (37, 10, 6)) (ht_ld70 : t (ld 70) = (32, 8, 0)) (ht_ld80 : t (ld 80) = (33, 10, 0)) (ht_ld90 : t (ld 90) = (34, 10, 0)) (ht_ld100 : t (ld 100) = (35, 10, 0)) (ht_ld110 : t (ld 110) = (36, 10, 0)) (ht_ld120 : t (ld 120) = (37, 10, 0)) (hp_0 : 0 ≤ n0.toInt) (hp_1 : n0.toInt ≤ 8) (hp_2 : 0 ≤ n1.toInt) (hp_3 : n1.toInt ≤ 10) (hp_4 : 0 ≤ n2.toInt) (hp_5 : n2.toInt ≤ 10) (hp_6 : 0 ≤ n3.toInt) (hp_7 : n3.toInt ≤ 8) : Met l yX2_copyFrom (wl yX2_copyFrom cX2_copyFrom 3 none) ({ frames := 5, cells := 0, slots := 0, locals := 280 }) (tp D cy ld t [] [.ref a0, .ref a1] (fun H => jC D ld a1 6 n0 n1 n2 n3 fh fs fk q1 q2 q3 H)) (tv D cy ld t [] (fun H => jC D ld a1 6 n0 n1 n2 n3 fh fs fk q1 q2 q3 H ∧ jC D ld a0 0 n0 n1 n2 n3 fh fs fk q1 q2 q3 H) (tk_w t [(3, 0, 0), (20, 0, 0), (21, 0, 0), (32, 0, 0), (33, 0, 0), (34, 0, 0), (35, 0, 0), (36, 0, 0), (37, 0, 0), (24, 0, 0), (28, 0, 0), (10, 0, 0)])) 0 0 (tk_w t [(3, 0, 0), (20, 0, 0), (21, 0, 0), (32, 0, 0), (33, 0, 0), (34, 0, 0), (35, 0, 0), (36, 0, 0), (37, 0, 0), (24, 0, 0), (28, 0, 0), (10, 0, 0)]) := by
  refine tk_met (y := yX2_copyFrom) (cc := cX2_copyFrom) (maxL := 3) (ret := none) (av := [.ref a0, .ref a1]) _ _ (by decide) (Nat.le_of_ble_eq_true rfl) ?_
  intro p e s m args below meth c hx hb hr hml hts htl hown hlocks hK H locs hH hG hS hB hZ ls hl
  have hown : s.vm.findClass RX2 = some m.cls := hown
  have hl : lv_has ls 3 [(0, .ref a0), (1, .ref a1)] := hl
  have ⟨hj0_0, hj0_1, hj0_2, hj0_3, hj0_4, hj0_5, hj0_6, hj0_7, hj0_8, hj0_9⟩ := hB
  refine lv_aload_n hx hb dX2_copyFrom_0 rfl (lv_at hl 0 rfl) ?_
  refine lv_aload_n hx hb dX2_copyFrom_1 rfl (lv_at hl 1 rfl) ?_
  refine tk_getk (ci := 2) (C := RX2) (T := TX2) (N := 20) (sp := (0, 0, 8, 0)) hx hb htl inX2 hown hK hG ht_a1 (by decide) tk_no rfl 0 (by decide) (htl _ mw_257) (fun _ h9 => h9) rfl hj0_0 dX2_copyFrom_2 ?_
  refine tk_put (ci := 2) (v := .int n0) (ty := .int) (C := RX2) (T := TX2) (N := 20) (sp := (0, 0, 8, 0)) hx hb htl inX2 tyX2 tyX2_ok nmX2 hown hK hG hS ht_a0 (by decide) tk_no rfl 0 (by decide) (htl _ mw_257) (fun _ h9 => h9) rfl (tyX2_ok 0 (by decide)) rfl rfl rfl (tk_V0 (by omega) (by omega)) (fun _ h => h) (tk_w.of ht_a0 (by decide) (List.mem_of_getElem? (i := 0) rfl) (Nat.le_refl _) (Nat.le_refl _)) dX2_copyFrom_5 (fun H locs hG hS hf1 hq9 hj9 => ?_)
  have hj0_0 := hj0_0.kept (hq9 _ (tk_ne ht_a1 ht_a0 (Or.inr (Or.inr (by decide)))))
  have hj0_1 := hj0_1.kept (hq9 _ (tk_ne ht_a1 ht_a0 (Or.inr (Or.inr (by decide)))))
  have hj0_2 := hj0_2.kept (hq9 _ (tk_ne ht_a1 ht_a0 (Or.inr (Or.inr (by decide)))))
  have hj0_3 := hj0_3.kept (hq9 _ (tk_ne ht_a1 ht_a0 (Or.inr (Or.inr (by decide)))))
  have hj0_4 := hj0_4.kept (hq9 _ (tk_ne ht_ld76 ht_a0 (Or.inl (by decide))))
  have hj0_5 := hj0_5.kept (hq9 _ (tk_ne ht_ld86 ht_a0 (Or.inl (by decide))))
  have hj0_6 := hj0_6.kept (hq9 _ (tk_ne ht_ld96 ht_a0 (Or.inl (by decide))))
  have hj0_7 := hj0_7.kept (hq9 _ (tk_ne ht_ld106 ht_a0 (Or.inl (by decide))))
  have hj0_8 := hj0_8.kept (hq9 _ (tk_ne ht_ld116 ht_a0 (Or.inl (by decide))))
  have hj0_9 := hj0_9.kept (hq9 _ (tk_ne ht_ld126 ht_a0 (Or.inl (by decide))))
  refine lv_aload_n hx hb dX2_copyFrom_8 rfl (lv_at hl 1 rfl) ?_
  refine tk_get (ci := 2) (C := RX2) (T := TX2) (N := 20) (sp := (1, 20, 8, 0)) hx hb htl inX2 hown hK hG ht_a1 (by decide) tk_no rfl 1 (by decide) (htl _ mw_60) (fun _ h9 => h9) rfl dX2_copyFrom_9 (fun v9 hf3 hV9 => ?_)
  obtain ⟨b4, rfl, ht_b4⟩ := hV9
  have ht_b4 : t b4 = (20, 8, 6) := ht_b4
  refine lv_iconst (v := 0) hx hb dX2_copyFrom_12 (by decide) ?_
  refine lv_aload_n hx hb dX2_copyFrom_13 rfl (lv_at hl 0 rfl) ?_
  refine tk_get (ci := 2) (C := RX2) (T := TX2) (N := 20) (sp := (1, 20, 8, 0)) hx hb htl inX2 hown hK hG ht_a0 (by decide) tk_no rfl 1 (by decide) (htl _ mw_60) (fun _ h9 => h9) rfl dX2_copyFrom_14 (fun v9 hf5 hV9 => ?_)
  obtain ⟨b6, rfl, ht_b6⟩ := hV9
  have ht_b6 : t b6 = (20, 8, 0) := ht_b6
  refine lv_iconst (v := 0) hx hb dX2_copyFrom_17 (by decide) ?_
  refine lv_bipush (v := 8) hx hb dX2_copyFrom_18 (by decide) ?_
  refine tk_copy (SP := 0) (DP := 0) (NC := 8) hx hb (by rw [hml]; exact hl.1.symm) hown (htl _ mw_1712) (htl _ mw_655) (htl _ mw_656) (htl _ mw_657) hK hG hS ht_b4 ht_b6 (by decide) (by decide) (fun _ h => h) (fun _ => Iff.rfl) tk_no tk_no (show (0 : Int32).toInt = 0 by decide) (show (0 : Int32).toInt = 0 by decide) (show (8 : Int32).toInt = 8 by decide) (by decide) (by decide) (by decide) (by decide) (by decide) (fun _ _ _ _ _ => trivial) (tk_w.of ht_b6 (by decide) (List.mem_of_getElem? (i := 1) rfl) (Nat.le_refl _) (Nat.le_refl _)) (Nat.le_of_ble_eq_true rfl) (Nat.le_of_ble_eq_true rfl) dX2_copyFrom_20 (fun H locs hG hS hq9 => ?_)
  have hj0_0 := hj0_0.kept (hq9 _ (tk_ne ht_a1 ht_b6 (Or.inl (by decide))))
  have hj0_1 := hj0_1.kept (hq9 _ (tk_ne ht_a1 ht_b6 (Or.inl (by decide))))
  have hj0_2 := hj0_2.kept (hq9 _ (tk_ne ht_a1 ht_b6 (Or.inl (by decide))))
  have hj0_3 := hj0_3.kept (hq9 _ (tk_ne ht_a1 ht_b6 (Or.inl (by decide))))
  have hj0_4 := hj0_4.kept (hq9 _ (tk_ne ht_ld76 ht_b6 (Or.inl (by decide))))
  have hj0_5 := hj0_5.kept (hq9 _ (tk_ne ht_ld86 ht_b6 (Or.inl (by decide))))
  have hj0_6 := hj0_6.kept (hq9 _ (tk_ne ht_ld96 ht_b6 (Or.inl (by decide))))
  have hj0_7 := hj0_7.kept (hq9 _ (tk_ne ht_ld106 ht_b6 (Or.inl (by decide))))
  have hj0_8 := hj0_8.kept (hq9 _ (tk_ne ht_ld116 ht_b6 (Or.inl (by decide))))
  have hj0_9 := hj0_9.kept (hq9 _ (tk_ne ht_ld126 ht_b6 (Or.inl (by decide))))
  have hf1 := hf1.kept (hq9 _ (tk_ne ht_a0 ht_b6 (Or.inl (by decide))))
  refine lv_aload_n hx hb dX2_copyFrom_23 rfl (lv_at hl 1 rfl) ?_
  refine tk_get (ci := 2) (C := RX2) (T := TX2) (N := 20) (sp := (1, 21, 8, 0)) hx hb htl inX2 hown hK hG ht_a1 (by decide) tk_no rfl 2 (by decide) (htl _ mw_61) (fun _ h9 => h9) rfl dX2_copyFrom_24 (fun v9 hf8 hV9 => ?_)
  obtain ⟨b9, rfl, ht_b9⟩ := hV9
  have ht_b9 : t b9 = (21, 8, 6) := ht_b9
  refine lv_iconst (v := 0) hx hb dX2_copyFrom_27 (by decide) ?_
  refine lv_aload_n hx hb dX2_copyFrom_28 rfl (lv_at hl 0 rfl) ?_
  refine tk_get (ci := 2) (C := RX2) (T := TX2) (N := 20) (sp := (1, 21, 8, 0)) hx hb htl inX2 hown hK hG ht_a0 (by decide) tk_no rfl 2 (by decide) (htl _ mw_61) (fun _ h9 => h9) rfl dX2_copyFrom_29 (fun v9 hf10 hV9 => ?_)
  obtain ⟨b11, rfl, ht_b11⟩ := hV9
  have ht_b11 : t b11 = (21, 8, 0) := ht_b11
  refine lv_iconst (v := 0) hx hb dX2_copyFrom_32 (by decide) ?_
  refine lv_bipush (v := 8) hx hb dX2_copyFrom_33 (by decide) ?_
  refine tk_copy (SP := 0) (DP := 0) (NC := 8) hx hb (by rw [hml]; exact hl.1.symm) hown (htl _ mw_1712) (htl _ mw_655) (htl _ mw_656) (htl _ mw_657) hK hG hS ht_b9 ht_b11 (by decide) (by decide) (fun _ h => h) (fun _ => Iff.rfl) tk_no tk_no (show (0 : Int32).toInt = 0 by decide) (show (0 : Int32).toInt = 0 by decide) (show (8 : Int32).toInt = 8 by decide) (by decide) (by decide) (by decide) (by decide) (by decide) (fun _ _ _ _ h => h) (tk_w.of ht_b11 (by decide) (List.mem_of_getElem? (i := 2) rfl) (Nat.le_refl _) (Nat.le_refl _)) (Nat.le_of_ble_eq_true rfl) (Nat.le_of_ble_eq_true rfl) dX2_copyFrom_35 (fun H locs hG hS hq9 => ?_)
  have hj0_0 := hj0_0.kept (hq9 _ (tk_ne ht_a1 ht_b11 (Or.inl (by decide))))
  have hj0_1 := hj0_1.kept (hq9 _ (tk_ne ht_a1 ht_b11 (Or.inl (by decide))))
  have hj0_2 := hj0_2.kept (hq9 _ (tk_ne ht_a1 ht_b11 (Or.inl (by decide))))
  have hj0_3 := hj0_3.kept (hq9 _ (tk_ne ht_a1 ht_b11 (Or.inl (by decide))))
  have hj0_4 := hj0_4.kept (hq9 _ (tk_ne ht_ld76 ht_b11 (Or.inl (by decide))))
  have hj0_5 := hj0_5.kept (hq9 _ (tk_ne ht_ld86 ht_b11 (Or.inl (by decide))))
  have hj0_6 := hj0_6.kept (hq9 _ (tk_ne ht_ld96 ht_b11 (Or.inl (by decide))))
  have hj0_7 := hj0_7.kept (hq9 _ (tk_ne ht_ld106 ht_b11 (Or.inl (by decide))))
  have hj0_8 := hj0_8.kept (hq9 _ (tk_ne ht_ld116 ht_b11 (Or.inl (by decide))))
  have hj0_9 := hj0_9.kept (hq9 _ (tk_ne ht_ld126 ht_b11 (Or.inl (by decide))))
  have hf1 := hf1.kept (hq9 _ (tk_ne ht_a0 ht_b11 (Or.inl (by decide))))
  refine lv_aload_n hx hb dX2_copyFrom_38 rfl (lv_at hl 1 rfl) ?_
  refine tk_get (ci := 2) (C := RX2) (T := TX2) (N := 20) (sp := (11, 70, 32, 8)) hx hb htl inX2 hown hK hG ht_a1 (by decide) tk_no rfl 3 (by decide) (htl _ mw_62) (fun _ h9 => h9) rfl dX2_copyFrom_39 (fun v9 hf13 hV9 => ?_)
  obtain ⟨rfl, ht_ld76⟩ := hV9
  have ht_ld76 : t (ld 76) = (32, 8, 6) := ht_ld76
  refine fx_top (v := .ref (ld 76)) rfl ?_
  refine lv_iconst (v := 0) hx hb dX2_copyFrom_42 (by decide) ?_
  refine lv_aload_n hx hb dX2_copyFrom_43 rfl (lv_at hl 0 rfl) ?_
  refine tk_get (ci := 2) (C := RX2) (T := TX2) (N := 20) (sp := (11, 70, 32, 8)) hx hb htl inX2 hown hK hG ht_a0 (by decide) tk_no rfl 3 (by decide) (htl _ mw_62) (fun _ h9 => h9) rfl dX2_copyFrom_44 (fun v9 hf14 hV9 => ?_)
  obtain ⟨rfl, ht_ld70⟩ := hV9
  have ht_ld70 : t (ld 70) = (32, 8, 0) := ht_ld70
  refine fx_top (v := .ref (ld 70)) rfl ?_
  refine lv_iconst (v := 0) hx hb dX2_copyFrom_47 (by decide) ?_
  refine lv_bipush (v := 8) hx hb dX2_copyFrom_48 (by decide) ?_
  refine tk_copyC (SP := 0) (DP := 0) (NC := 8) hx hb (by rw [hml]; exact hl.1.symm) hown (htl _ mw_1712) (htl _ mw_655) (htl _ mw_656) (htl _ mw_657) hK hG hS ht_ld76 ht_ld70 (by decide) (by decide) (fun _ h => h) (fun _ => Iff.rfl) tk_no tk_no (show (0 : Int32).toInt = 0 by decide) (show (0 : Int32).toInt = 0 by decide) (show (8 : Int32).toInt = 8 by decide) (by decide) (by decide) (by decide) (by decide) (by decide) (fun _ _ _ _ _ => trivial) (tk_w.of ht_ld70 (by decide) (List.mem_of_getElem? (i := 3) rfl) (Nat.le_refl _) (Nat.le_refl _)) (Nat.le_of_ble_eq_true rfl) (Nat.le_of_ble_eq_true rfl) dX2_copyFrom_50 hj0_4 rfl rfl rfl (fun H locs hG hS hq9 hj16 => ?_)
  have hj0_0 := hj0_0.kept (hq9 _ (tk_ne ht_a1 ht_ld70 (Or.inl (by decide))))
  have hj0_1 := hj0_1.kept (hq9 _ (tk_ne ht_a1 ht_ld70 (Or.inl (by decide))))
  have hj0_2 := hj0_2.kept (hq9 _ (tk_ne ht_a1 ht_ld70 (Or.inl (by decide))))
  have hj0_3 := hj0_3.kept (hq9 _ (tk_ne ht_a1 ht_ld70 (Or.inl (by decide))))
  have hj0_4 := hj0_4.kept (hq9 _ (tk_ne ht_ld76 ht_ld70 (Or.inr (Or.inr (by decide)))))
  have hj0_5 := hj0_5.kept (hq9 _ (tk_ne ht_ld86 ht_ld70 (Or.inl (by decide))))
  have hj0_6 := hj0_6.kept (hq9 _ (tk_ne ht_ld96 ht_ld70 (Or.inl (by decide))))
  have hj0_7 := hj0_7.kept (hq9 _ (tk_ne ht_ld106 ht_ld70 (Or.inl (by decide))))
  have hj0_8 := hj0_8.kept (hq9 _ (tk_ne ht_ld116 ht_ld70 (Or.inl (by decide))))
  have hj0_9 := hj0_9.kept (hq9 _ (tk_ne ht_ld126 ht_ld70 (Or.inl (by decide))))
  have hf1 := hf1.kept (hq9 _ (tk_ne ht_a0 ht_ld70 (Or.inl (by decide))))
  refine lv_aload_n hx hb dX2_copyFrom_53 rfl (lv_at hl 0 rfl) ?_
  refine lv_aload_n hx hb dX2_copyFrom_54 rfl (lv_at hl 1 rfl) ?_
  refine tk_getk (ci := 2) (C := RX2) (T := TX2) (N := 20) (sp := (0, 0, 10, 0)) hx hb htl inX2 hown hK hG ht_a1 (by decide) tk_no rfl 4 (by decide) (htl _ mw_333) (fun _ h9 => h9) rfl hj0_1 dX2_copyFrom_55 ?_
  refine tk_put (ci := 2) (v := .int n1) (ty := .int) (C := RX2) (T := TX2) (N := 20) (sp := (0, 0, 10, 0)) hx hb htl inX2 tyX2 tyX2_ok nmX2 hown hK hG hS ht_a0 (by decide) tk_no rfl 4 (by decide) (htl _ mw_333) (fun _ h9 => h9) rfl (tyX2_ok 4 (by decide)) rfl rfl rfl (tk_V0 (by omega) (by omega)) (fun _ h => h) (tk_w.of ht_a0 (by decide) (List.mem_of_getElem? (i := 0) rfl) (Nat.le_refl _) (Nat.le_refl _)) dX2_copyFrom_58 (fun H locs hG hS hf17 hq9 hj9 => ?_)
  have hj0_0 := hj0_0.kept (hq9 _ (tk_ne ht_a1 ht_a0 (Or.inr (Or.inr (by decide)))))
  have hj0_1 := hj0_1.kept (hq9 _ (tk_ne ht_a1 ht_a0 (Or.inr (Or.inr (by decide)))))
  have hj0_2 := hj0_2.kept (hq9 _ (tk_ne ht_a1 ht_a0 (Or.inr (Or.inr (by decide)))))
  have hj0_3 := hj0_3.kept (hq9 _ (tk_ne ht_a1 ht_a0 (Or.inr (Or.inr (by decide)))))
  have hj0_4 := hj0_4.kept (hq9 _ (tk_ne ht_ld76 ht_a0 (Or.inl (by decide))))
  have hj0_5 := hj0_5.kept (hq9 _ (tk_ne ht_ld86 ht_a0 (Or.inl (by decide))))
  have hj0_6 := hj0_6.kept (hq9 _ (tk_ne ht_ld96 ht_a0 (Or.inl (by decide))))
  have hj0_7 := hj0_7.kept (hq9 _ (tk_ne ht_ld106 ht_a0 (Or.inl (by decide))))
  have hj0_8 := hj0_8.kept (hq9 _ (tk_ne ht_ld116 ht_a0 (Or.inl (by decide))))
  have hj0_9 := hj0_9.kept (hq9 _ (tk_ne ht_ld126 ht_a0 (Or.inl (by decide))))
  have hf1 := hj9 0 _ (by decide) (by decide) hf1
  have hj16 := hj16.kept (hq9 _ (tk_ne ht_ld70 ht_a0 (Or.inl (by decide))))
  refine lv_aload_n hx hb dX2_copyFrom_61 rfl (lv_at hl 1 rfl) ?_
  refine tk_get (ci := 2) (C := RX2) (T := TX2) (N := 20) (sp := (11, 80, 33, 10)) hx hb htl inX2 hown hK hG ht_a1 (by decide) tk_no rfl 5 (by decide) (htl _ mw_63) (fun _ h9 => h9) rfl dX2_copyFrom_62 (fun v9 hf19 hV9 => ?_)
  obtain ⟨rfl, ht_ld86⟩ := hV9
  have ht_ld86 : t (ld 86) = (33, 10, 6) := ht_ld86
  refine fx_top (v := .ref (ld 86)) rfl ?_
  refine lv_iconst (v := 0) hx hb dX2_copyFrom_65 (by decide) ?_
  refine lv_aload_n hx hb dX2_copyFrom_66 rfl (lv_at hl 0 rfl) ?_
  refine tk_get (ci := 2) (C := RX2) (T := TX2) (N := 20) (sp := (11, 80, 33, 10)) hx hb htl inX2 hown hK hG ht_a0 (by decide) tk_no rfl 5 (by decide) (htl _ mw_63) (fun _ h9 => h9) rfl dX2_copyFrom_67 (fun v9 hf20 hV9 => ?_)
  obtain ⟨rfl, ht_ld80⟩ := hV9
  have ht_ld80 : t (ld 80) = (33, 10, 0) := ht_ld80
  refine fx_top (v := .ref (ld 80)) rfl ?_
  refine lv_iconst (v := 0) hx hb dX2_copyFrom_70 (by decide) ?_
  refine lv_bipush (v := 10) hx hb dX2_copyFrom_71 (by decide) ?_
  refine tk_copyC (SP := 0) (DP := 0) (NC := 10) hx hb (by rw [hml]; exact hl.1.symm) hown (htl _ mw_1712) (htl _ mw_655) (htl _ mw_656) (htl _ mw_657) hK hG hS ht_ld86 ht_ld80 (by decide) (by decide) (fun _ h => h) (fun _ => Iff.rfl) tk_no tk_no (show (0 : Int32).toInt = 0 by decide) (show (0 : Int32).toInt = 0 by decide) (show (10 : Int32).toInt = 10 by decide) (by decide) (by decide) (by decide) (by decide) (by decide) (fun _ _ _ _ _ => trivial) (tk_w.of ht_ld80 (by decide) (List.mem_of_getElem? (i := 4) rfl) (Nat.le_refl _) (Nat.le_refl _)) (Nat.le_of_ble_eq_true rfl) (Nat.le_of_ble_eq_true rfl) dX2_copyFrom_73 hj0_5 rfl rfl rfl (fun H locs hG hS hq9 hj22 => ?_)
  have hj0_0 := hj0_0.kept (hq9 _ (tk_ne ht_a1 ht_ld80 (Or.inl (by decide))))
  have hj0_1 := hj0_1.kept (hq9 _ (tk_ne ht_a1 ht_ld80 (Or.inl (by decide))))
  have hj0_2 := hj0_2.kept (hq9 _ (tk_ne ht_a1 ht_ld80 (Or.inl (by decide))))
  have hj0_3 := hj0_3.kept (hq9 _ (tk_ne ht_a1 ht_ld80 (Or.inl (by decide))))
  have hj0_4 := hj0_4.kept (hq9 _ (tk_ne ht_ld76 ht_ld80 (Or.inl (by decide))))
  have hj0_5 := hj0_5.kept (hq9 _ (tk_ne ht_ld86 ht_ld80 (Or.inr (Or.inr (by decide)))))
  have hj0_6 := hj0_6.kept (hq9 _ (tk_ne ht_ld96 ht_ld80 (Or.inl (by decide))))
  have hj0_7 := hj0_7.kept (hq9 _ (tk_ne ht_ld106 ht_ld80 (Or.inl (by decide))))
  have hj0_8 := hj0_8.kept (hq9 _ (tk_ne ht_ld116 ht_ld80 (Or.inl (by decide))))
  have hj0_9 := hj0_9.kept (hq9 _ (tk_ne ht_ld126 ht_ld80 (Or.inl (by decide))))
  have hf1 := hf1.kept (hq9 _ (tk_ne ht_a0 ht_ld80 (Or.inl (by decide))))
  have hj16 := hj16.kept (hq9 _ (tk_ne ht_ld70 ht_ld80 (Or.inl (by decide))))
  have hf17 := hf17.kept (hq9 _ (tk_ne ht_a0 ht_ld80 (Or.inl (by decide))))
  refine lv_aload_n hx hb dX2_copyFrom_76 rfl (lv_at hl 1 rfl) ?_
  refine tk_get (ci := 2) (C := RX2) (T := TX2) (N := 20) (sp := (11, 90, 34, 10)) hx hb htl inX2 hown hK hG ht_a1 (by decide) tk_no rfl 6 (by decide) (htl _ mw_64) (fun _ h9 => h9) rfl dX2_copyFrom_77 (fun v9 hf23 hV9 => ?_)
  obtain ⟨rfl, ht_ld96⟩ := hV9
  have ht_ld96 : t (ld 96) = (34, 10, 6) := ht_ld96
  refine fx_top (v := .ref (ld 96)) rfl ?_
  refine lv_iconst (v := 0) hx hb dX2_copyFrom_80 (by decide) ?_
  refine lv_aload_n hx hb dX2_copyFrom_81 rfl (lv_at hl 0 rfl) ?_
  refine tk_get (ci := 2) (C := RX2) (T := TX2) (N := 20) (sp := (11, 90, 34, 10)) hx hb htl inX2 hown hK hG ht_a0 (by decide) tk_no rfl 6 (by decide) (htl _ mw_64) (fun _ h9 => h9) rfl dX2_copyFrom_82 (fun v9 hf24 hV9 => ?_)
  obtain ⟨rfl, ht_ld90⟩ := hV9
  have ht_ld90 : t (ld 90) = (34, 10, 0) := ht_ld90
  refine fx_top (v := .ref (ld 90)) rfl ?_
  refine lv_iconst (v := 0) hx hb dX2_copyFrom_85 (by decide) ?_
  refine lv_bipush (v := 10) hx hb dX2_copyFrom_86 (by decide) ?_
  refine tk_copyC (SP := 0) (DP := 0) (NC := 10) hx hb (by rw [hml]; exact hl.1.symm) hown (htl _ mw_1712) (htl _ mw_655) (htl _ mw_656) (htl _ mw_657) hK hG hS ht_ld96 ht_ld90 (by decide) (by decide) (fun _ h => h) (fun _ => Iff.rfl) tk_no tk_no (show (0 : Int32).toInt = 0 by decide) (show (0 : Int32).toInt = 0 by decide) (show (10 : Int32).toInt = 10 by decide) (by decide) (by decide) (by decide) (by decide) (by decide) (fun _ _ _ _ _ => trivial) (tk_w.of ht_ld90 (by decide) (List.mem_of_getElem? (i := 5) rfl) (Nat.le_refl _) (Nat.le_refl _)) (Nat.le_of_ble_eq_true rfl) (Nat.le_of_ble_eq_true rfl) dX2_copyFrom_88 hj0_6 rfl rfl rfl (fun H locs hG hS hq9 hj26 => ?_)
  have hj0_0 := hj0_0.kept (hq9 _ (tk_ne ht_a1 ht_ld90 (Or.inl (by decide))))
  have hj0_1 := hj0_1.kept (hq9 _ (tk_ne ht_a1 ht_ld90 (Or.inl (by decide))))
  have hj0_2 := hj0_2.kept (hq9 _ (tk_ne ht_a1 ht_ld90 (Or.inl (by decide))))
  have hj0_3 := hj0_3.kept (hq9 _ (tk_ne ht_a1 ht_ld90 (Or.inl (by decide))))
  have hj0_4 := hj0_4.kept (hq9 _ (tk_ne ht_ld76 ht_ld90 (Or.inl (by decide))))
  have hj0_5 := hj0_5.kept (hq9 _ (tk_ne ht_ld86 ht_ld90 (Or.inl (by decide))))
  have hj0_6 := hj0_6.kept (hq9 _ (tk_ne ht_ld96 ht_ld90 (Or.inr (Or.inr (by decide)))))
  have hj0_7 := hj0_7.kept (hq9 _ (tk_ne ht_ld106 ht_ld90 (Or.inl (by decide))))
  have hj0_8 := hj0_8.kept (hq9 _ (tk_ne ht_ld116 ht_ld90 (Or.inl (by decide))))
  have hj0_9 := hj0_9.kept (hq9 _ (tk_ne ht_ld126 ht_ld90 (Or.inl (by decide))))
  have hf1 := hf1.kept (hq9 _ (tk_ne ht_a0 ht_ld90 (Or.inl (by decide))))
  have hj16 := hj16.kept (hq9 _ (tk_ne ht_ld70 ht_ld90 (Or.inl (by decide))))
  have hf17 := hf17.kept (hq9 _ (tk_ne ht_a0 ht_ld90 (Or.inl (by decide))))
  have hj22 := hj22.kept (hq9 _ (tk_ne ht_ld80 ht_ld90 (Or.inl (by decide))))
  refine lv_aload_n hx hb dX2_copyFrom_91 rfl (lv_at hl 0 rfl) ?_
  refine lv_aload_n hx hb dX2_copyFrom_92 rfl (lv_at hl 1 rfl) ?_
  refine tk_getk (ci := 2) (C := RX2) (T := TX2) (N := 20) (sp := (0, 0, 10, 0)) hx hb htl inX2 hown hK hG ht_a1 (by decide) tk_no rfl 7 (by decide) (htl _ mw_369) (fun _ h9 => h9) rfl hj0_2 dX2_copyFrom_93 ?_
  refine tk_put (ci := 2) (v := .int n2) (ty := .int) (C := RX2) (T := TX2) (N := 20) (sp := (0, 0, 10, 0)) hx hb htl inX2 tyX2 tyX2_ok nmX2 hown hK hG hS ht_a0 (by decide) tk_no rfl 7 (by decide) (htl _ mw_369) (fun _ h9 => h9) rfl (tyX2_ok 7 (by decide)) rfl rfl rfl (tk_V0 (by omega) (by omega)) (fun _ h => h) (tk_w.of ht_a0 (by decide) (List.mem_of_getElem? (i := 0) rfl) (Nat.le_refl _) (Nat.le_refl _)) dX2_copyFrom_96 (fun H locs hG hS hf27 hq9 hj9 => ?_)
  have hj0_0 := hj0_0.kept (hq9 _ (tk_ne ht_a1 ht_a0 (Or.inr (Or.inr (by decide)))))
  have hj0_1 := hj0_1.kept (hq9 _ (tk_ne ht_a1 ht_a0 (Or.inr (Or.inr (by decide)))))
  have hj0_2 := hj0_2.kept (hq9 _ (tk_ne ht_a1 ht_a0 (Or.inr (Or.inr (by decide)))))
  have hj0_3 := hj0_3.kept (hq9 _ (tk_ne ht_a1 ht_a0 (Or.inr (Or.inr (by decide)))))
  have hj0_4 := hj0_4.kept (hq9 _ (tk_ne ht_ld76 ht_a0 (Or.inl (by decide))))
  have hj0_5 := hj0_5.kept (hq9 _ (tk_ne ht_ld86 ht_a0 (Or.inl (by decide))))
  have hj0_6 := hj0_6.kept (hq9 _ (tk_ne ht_ld96 ht_a0 (Or.inl (by decide))))
  have hj0_7 := hj0_7.kept (hq9 _ (tk_ne ht_ld106 ht_a0 (Or.inl (by decide))))
  have hj0_8 := hj0_8.kept (hq9 _ (tk_ne ht_ld116 ht_a0 (Or.inl (by decide))))
  have hj0_9 := hj0_9.kept (hq9 _ (tk_ne ht_ld126 ht_a0 (Or.inl (by decide))))
  have hf1 := hj9 0 _ (by decide) (by decide) hf1
  have hj16 := hj16.kept (hq9 _ (tk_ne ht_ld70 ht_a0 (Or.inl (by decide))))
  have hf17 := hj9 4 _ (by decide) (by decide) hf17
  have hj22 := hj22.kept (hq9 _ (tk_ne ht_ld80 ht_a0 (Or.inl (by decide))))
  have hj26 := hj26.kept (hq9 _ (tk_ne ht_ld90 ht_a0 (Or.inl (by decide))))
  refine lv_aload_n hx hb dX2_copyFrom_99 rfl (lv_at hl 1 rfl) ?_
  refine tk_get (ci := 2) (C := RX2) (T := TX2) (N := 20) (sp := (11, 100, 35, 10)) hx hb htl inX2 hown hK hG ht_a1 (by decide) tk_no rfl 8 (by decide) (htl _ mw_65) (fun _ h9 => h9) rfl dX2_copyFrom_100 (fun v9 hf29 hV9 => ?_)
  obtain ⟨rfl, ht_ld106⟩ := hV9
  have ht_ld106 : t (ld 106) = (35, 10, 6) := ht_ld106
  refine fx_top (v := .ref (ld 106)) rfl ?_
  refine lv_iconst (v := 0) hx hb dX2_copyFrom_103 (by decide) ?_
  refine lv_aload_n hx hb dX2_copyFrom_104 rfl (lv_at hl 0 rfl) ?_
  refine tk_get (ci := 2) (C := RX2) (T := TX2) (N := 20) (sp := (11, 100, 35, 10)) hx hb htl inX2 hown hK hG ht_a0 (by decide) tk_no rfl 8 (by decide) (htl _ mw_65) (fun _ h9 => h9) rfl dX2_copyFrom_105 (fun v9 hf30 hV9 => ?_)
  obtain ⟨rfl, ht_ld100⟩ := hV9
  have ht_ld100 : t (ld 100) = (35, 10, 0) := ht_ld100
  refine fx_top (v := .ref (ld 100)) rfl ?_
  refine lv_iconst (v := 0) hx hb dX2_copyFrom_108 (by decide) ?_
  refine lv_bipush (v := 10) hx hb dX2_copyFrom_109 (by decide) ?_
  refine tk_copyC (SP := 0) (DP := 0) (NC := 10) hx hb (by rw [hml]; exact hl.1.symm) hown (htl _ mw_1712) (htl _ mw_655) (htl _ mw_656) (htl _ mw_657) hK hG hS ht_ld106 ht_ld100 (by decide) (by decide) (fun _ h => h) (fun _ => Iff.rfl) tk_no tk_no (show (0 : Int32).toInt = 0 by decide) (show (0 : Int32).toInt = 0 by decide) (show (10 : Int32).toInt = 10 by decide) (by decide) (by decide) (by decide) (by decide) (by decide) (fun _ _ _ _ _ => trivial) (tk_w.of ht_ld100 (by decide) (List.mem_of_getElem? (i := 6) rfl) (Nat.le_refl _) (Nat.le_refl _)) (Nat.le_of_ble_eq_true rfl) (Nat.le_of_ble_eq_true rfl) dX2_copyFrom_111 hj0_7 rfl rfl rfl (fun H locs hG hS hq9 hj32 => ?_)
  have hj0_0 := hj0_0.kept (hq9 _ (tk_ne ht_a1 ht_ld100 (Or.inl (by decide))))
  have hj0_1 := hj0_1.kept (hq9 _ (tk_ne ht_a1 ht_ld100 (Or.inl (by decide))))
  have hj0_2 := hj0_2.kept (hq9 _ (tk_ne ht_a1 ht_ld100 (Or.inl (by decide))))
  have hj0_3 := hj0_3.kept (hq9 _ (tk_ne ht_a1 ht_ld100 (Or.inl (by decide))))
  have hj0_4 := hj0_4.kept (hq9 _ (tk_ne ht_ld76 ht_ld100 (Or.inl (by decide))))
  have hj0_5 := hj0_5.kept (hq9 _ (tk_ne ht_ld86 ht_ld100 (Or.inl (by decide))))
  have hj0_6 := hj0_6.kept (hq9 _ (tk_ne ht_ld96 ht_ld100 (Or.inl (by decide))))
  have hj0_7 := hj0_7.kept (hq9 _ (tk_ne ht_ld106 ht_ld100 (Or.inr (Or.inr (by decide)))))
  have hj0_8 := hj0_8.kept (hq9 _ (tk_ne ht_ld116 ht_ld100 (Or.inl (by decide))))
  have hj0_9 := hj0_9.kept (hq9 _ (tk_ne ht_ld126 ht_ld100 (Or.inl (by decide))))
  have hf1 := hf1.kept (hq9 _ (tk_ne ht_a0 ht_ld100 (Or.inl (by decide))))
  have hj16 := hj16.kept (hq9 _ (tk_ne ht_ld70 ht_ld100 (Or.inl (by decide))))
  have hf17 := hf17.kept (hq9 _ (tk_ne ht_a0 ht_ld100 (Or.inl (by decide))))
  have hj22 := hj22.kept (hq9 _ (tk_ne ht_ld80 ht_ld100 (Or.inl (by decide))))
  have hj26 := hj26.kept (hq9 _ (tk_ne ht_ld90 ht_ld100 (Or.inl (by decide))))
  have hf27 := hf27.kept (hq9 _ (tk_ne ht_a0 ht_ld100 (Or.inl (by decide))))
  refine lv_aload_n hx hb dX2_copyFrom_114 rfl (lv_at hl 1 rfl) ?_
  refine tk_get (ci := 2) (C := RX2) (T := TX2) (N := 20) (sp := (11, 110, 36, 10)) hx hb htl inX2 hown hK hG ht_a1 (by decide) tk_no rfl 9 (by decide) (htl _ mw_66) (fun _ h9 => h9) rfl dX2_copyFrom_115 (fun v9 hf33 hV9 => ?_)
  obtain ⟨rfl, ht_ld116⟩ := hV9
  have ht_ld116 : t (ld 116) = (36, 10, 6) := ht_ld116
  refine fx_top (v := .ref (ld 116)) rfl ?_
  refine lv_iconst (v := 0) hx hb dX2_copyFrom_118 (by decide) ?_
  refine lv_aload_n hx hb dX2_copyFrom_119 rfl (lv_at hl 0 rfl) ?_
  refine tk_get (ci := 2) (C := RX2) (T := TX2) (N := 20) (sp := (11, 110, 36, 10)) hx hb htl inX2 hown hK hG ht_a0 (by decide) tk_no rfl 9 (by decide) (htl _ mw_66) (fun _ h9 => h9) rfl dX2_copyFrom_120 (fun v9 hf34 hV9 => ?_)
  obtain ⟨rfl, ht_ld110⟩ := hV9
  have ht_ld110 : t (ld 110) = (36, 10, 0) := ht_ld110
  refine fx_top (v := .ref (ld 110)) rfl ?_
  refine lv_iconst (v := 0) hx hb dX2_copyFrom_123 (by decide) ?_
  refine lv_bipush (v := 10) hx hb dX2_copyFrom_124 (by decide) ?_
  refine tk_copyC (SP := 0) (DP := 0) (NC := 10) hx hb (by rw [hml]; exact hl.1.symm) hown (htl _ mw_1712) (htl _ mw_655) (htl _ mw_656) (htl _ mw_657) hK hG hS ht_ld116 ht_ld110 (by decide) (by decide) (fun _ h => h) (fun _ => Iff.rfl) tk_no tk_no (show (0 : Int32).toInt = 0 by decide) (show (0 : Int32).toInt = 0 by decide) (show (10 : Int32).toInt = 10 by decide) (by decide) (by decide) (by decide) (by decide) (by decide) (fun _ _ _ _ _ => trivial) (tk_w.of ht_ld110 (by decide) (List.mem_of_getElem? (i := 7) rfl) (Nat.le_refl _) (Nat.le_refl _)) (Nat.le_of_ble_eq_true rfl) (Nat.le_of_ble_eq_true rfl) dX2_copyFrom_126 hj0_8 rfl rfl rfl (fun H locs hG hS hq9 hj36 => ?_)
  have hj0_0 := hj0_0.kept (hq9 _ (tk_ne ht_a1 ht_ld110 (Or.inl (by decide))))
  have hj0_1 := hj0_1.kept (hq9 _ (tk_ne ht_a1 ht_ld110 (Or.inl (by decide))))
  have hj0_2 := hj0_2.kept (hq9 _ (tk_ne ht_a1 ht_ld110 (Or.inl (by decide))))
  have hj0_3 := hj0_3.kept (hq9 _ (tk_ne ht_a1 ht_ld110 (Or.inl (by decide))))
  have hj0_4 := hj0_4.kept (hq9 _ (tk_ne ht_ld76 ht_ld110 (Or.inl (by decide))))
  have hj0_5 := hj0_5.kept (hq9 _ (tk_ne ht_ld86 ht_ld110 (Or.inl (by decide))))
  have hj0_6 := hj0_6.kept (hq9 _ (tk_ne ht_ld96 ht_ld110 (Or.inl (by decide))))
  have hj0_7 := hj0_7.kept (hq9 _ (tk_ne ht_ld106 ht_ld110 (Or.inl (by decide))))
  have hj0_8 := hj0_8.kept (hq9 _ (tk_ne ht_ld116 ht_ld110 (Or.inr (Or.inr (by decide)))))
  have hj0_9 := hj0_9.kept (hq9 _ (tk_ne ht_ld126 ht_ld110 (Or.inl (by decide))))
  have hf1 := hf1.kept (hq9 _ (tk_ne ht_a0 ht_ld110 (Or.inl (by decide))))
  have hj16 := hj16.kept (hq9 _ (tk_ne ht_ld70 ht_ld110 (Or.inl (by decide))))
  have hf17 := hf17.kept (hq9 _ (tk_ne ht_a0 ht_ld110 (Or.inl (by decide))))
  have hj22 := hj22.kept (hq9 _ (tk_ne ht_ld80 ht_ld110 (Or.inl (by decide))))
  have hj26 := hj26.kept (hq9 _ (tk_ne ht_ld90 ht_ld110 (Or.inl (by decide))))
  have hf27 := hf27.kept (hq9 _ (tk_ne ht_a0 ht_ld110 (Or.inl (by decide))))
  have hj32 := hj32.kept (hq9 _ (tk_ne ht_ld100 ht_ld110 (Or.inl (by decide))))
  refine lv_aload_n hx hb dX2_copyFrom_129 rfl (lv_at hl 1 rfl) ?_
  refine tk_get (ci := 2) (C := RX2) (T := TX2) (N := 20) (sp := (11, 120, 37, 10)) hx hb htl inX2 hown hK hG ht_a1 (by decide) tk_no rfl 10 (by decide) (htl _ mw_67) (fun _ h9 => h9) rfl dX2_copyFrom_130 (fun v9 hf37 hV9 => ?_)
  obtain ⟨rfl, ht_ld126⟩ := hV9
  have ht_ld126 : t (ld 126) = (37, 10, 6) := ht_ld126
  refine fx_top (v := .ref (ld 126)) rfl ?_
  refine lv_iconst (v := 0) hx hb dX2_copyFrom_133 (by decide) ?_
  refine lv_aload_n hx hb dX2_copyFrom_134 rfl (lv_at hl 0 rfl) ?_
  refine tk_get (ci := 2) (C := RX2) (T := TX2) (N := 20) (sp := (11, 120, 37, 10)) hx hb htl inX2 hown hK hG ht_a0 (by decide) tk_no rfl 10 (by decide) (htl _ mw_67) (fun _ h9 => h9) rfl dX2_copyFrom_135 (fun v9 hf38 hV9 => ?_)
  obtain ⟨rfl, ht_ld120⟩ := hV9
  have ht_ld120 : t (ld 120) = (37, 10, 0) := ht_ld120
  refine fx_top (v := .ref (ld 120)) rfl ?_
  refine lv_iconst (v := 0) hx hb dX2_copyFrom_138 (by decide) ?_
  refine lv_bipush (v := 10) hx hb dX2_copyFrom_139 (by decide) ?_
  refine tk_copyC (SP := 0) (DP := 0) (NC := 10) hx hb (by rw [hml]; exact hl.1.symm) hown (htl _ mw_1712) (htl _ mw_655) (htl _ mw_656) (htl _ mw_657) hK hG hS ht_ld126 ht_ld120 (by decide) (by decide) (fun _ h => h) (fun _ => Iff.rfl) tk_no tk_no (show (0 : Int32).toInt = 0 by decide) (show (0 : Int32).toInt = 0 by decide) (show (10 : Int32).toInt = 10 by decide) (by decide) (by decide) (by decide) (by decide) (by decide) (fun _ _ _ _ _ => trivial) (tk_w.of ht_ld120 (by decide) (List.mem_of_getElem? (i := 8) rfl) (Nat.le_refl _) (Nat.le_refl _)) (Nat.le_of_ble_eq_true rfl) (Nat.le_of_ble_eq_true rfl) dX2_copyFrom_141 hj0_9 rfl rfl rfl (fun H locs hG hS hq9 hj40 => ?_)
  have hj0_0 := hj0_0.kept (hq9 _ (tk_ne ht_a1 ht_ld120 (Or.inl (by decide))))
  have hj0_1 := hj0_1.kept (hq9 _ (tk_ne ht_a1 ht_ld120 (Or.inl (by decide))))
  have hj0_2 := hj0_2.kept (hq9 _ (tk_ne ht_a1 ht_ld120 (Or.inl (by decide))))
  have hj0_3 := hj0_3.kept (hq9 _ (tk_ne ht_a1 ht_ld120 (Or.inl (by decide))))
  have hj0_4 := hj0_4.kept (hq9 _ (tk_ne ht_ld76 ht_ld120 (Or.inl (by decide))))
  have hj0_5 := hj0_5.kept (hq9 _ (tk_ne ht_ld86 ht_ld120 (Or.inl (by decide))))
  have hj0_6 := hj0_6.kept (hq9 _ (tk_ne ht_ld96 ht_ld120 (Or.inl (by decide))))
  have hj0_7 := hj0_7.kept (hq9 _ (tk_ne ht_ld106 ht_ld120 (Or.inl (by decide))))
  have hj0_8 := hj0_8.kept (hq9 _ (tk_ne ht_ld116 ht_ld120 (Or.inl (by decide))))
  have hj0_9 := hj0_9.kept (hq9 _ (tk_ne ht_ld126 ht_ld120 (Or.inr (Or.inr (by decide)))))
  have hf1 := hf1.kept (hq9 _ (tk_ne ht_a0 ht_ld120 (Or.inl (by decide))))
  have hj16 := hj16.kept (hq9 _ (tk_ne ht_ld70 ht_ld120 (Or.inl (by decide))))
  have hf17 := hf17.kept (hq9 _ (tk_ne ht_a0 ht_ld120 (Or.inl (by decide))))
  have hj22 := hj22.kept (hq9 _ (tk_ne ht_ld80 ht_ld120 (Or.inl (by decide))))
  have hj26 := hj26.kept (hq9 _ (tk_ne ht_ld90 ht_ld120 (Or.inl (by decide))))
  have hf27 := hf27.kept (hq9 _ (tk_ne ht_a0 ht_ld120 (Or.inl (by decide))))
  have hj32 := hj32.kept (hq9 _ (tk_ne ht_ld100 ht_ld120 (Or.inl (by decide))))
  have hj36 := hj36.kept (hq9 _ (tk_ne ht_ld110 ht_ld120 (Or.inl (by decide))))
  refine lv_aload_n hx hb dX2_copyFrom_144 rfl (lv_at hl 0 rfl) ?_
  refine lv_aload_n hx hb dX2_copyFrom_145 rfl (lv_at hl 1 rfl) ?_
  refine tk_getk (ci := 2) (C := RX2) (T := TX2) (N := 20) (sp := (0, 0, 8, 0)) hx hb htl inX2 hown hK hG ht_a1 (by decide) tk_no rfl 11 (by decide) (htl _ mw_1489) (fun _ h9 => h9) rfl hj0_3 dX2_copyFrom_146 ?_
  refine tk_put (ci := 2) (v := .int n3) (ty := .int) (C := RX2) (T := TX2) (N := 20) (sp := (0, 0, 8, 0)) hx hb htl inX2 tyX2 tyX2_ok nmX2 hown hK hG hS ht_a0 (by decide) tk_no rfl 11 (by decide) (htl _ mw_1489) (fun _ h9 => h9) rfl (tyX2_ok 11 (by decide)) rfl rfl rfl (tk_V0 (by omega) (by omega)) (fun _ h => h) (tk_w.of ht_a0 (by decide) (List.mem_of_getElem? (i := 0) rfl) (Nat.le_refl _) (Nat.le_refl _)) dX2_copyFrom_149 (fun H locs hG hS hf41 hq9 hj9 => ?_)
  have hj0_0 := hj0_0.kept (hq9 _ (tk_ne ht_a1 ht_a0 (Or.inr (Or.inr (by decide)))))
  have hj0_1 := hj0_1.kept (hq9 _ (tk_ne ht_a1 ht_a0 (Or.inr (Or.inr (by decide)))))
  have hj0_2 := hj0_2.kept (hq9 _ (tk_ne ht_a1 ht_a0 (Or.inr (Or.inr (by decide)))))
  have hj0_3 := hj0_3.kept (hq9 _ (tk_ne ht_a1 ht_a0 (Or.inr (Or.inr (by decide)))))
  have hj0_4 := hj0_4.kept (hq9 _ (tk_ne ht_ld76 ht_a0 (Or.inl (by decide))))
  have hj0_5 := hj0_5.kept (hq9 _ (tk_ne ht_ld86 ht_a0 (Or.inl (by decide))))
  have hj0_6 := hj0_6.kept (hq9 _ (tk_ne ht_ld96 ht_a0 (Or.inl (by decide))))
  have hj0_7 := hj0_7.kept (hq9 _ (tk_ne ht_ld106 ht_a0 (Or.inl (by decide))))
  have hj0_8 := hj0_8.kept (hq9 _ (tk_ne ht_ld116 ht_a0 (Or.inl (by decide))))
  have hj0_9 := hj0_9.kept (hq9 _ (tk_ne ht_ld126 ht_a0 (Or.inl (by decide))))
  have hf1 := hj9 0 _ (by decide) (by decide) hf1
  have hj16 := hj16.kept (hq9 _ (tk_ne ht_ld70 ht_a0 (Or.inl (by decide))))
  have hf17 := hj9 4 _ (by decide) (by decide) hf17
  have hj22 := hj22.kept (hq9 _ (tk_ne ht_ld80 ht_a0 (Or.inl (by decide))))
  have hj26 := hj26.kept (hq9 _ (tk_ne ht_ld90 ht_a0 (Or.inl (by decide))))
  have hf27 := hj9 7 _ (by decide) (by decide) hf27
  have hj32 := hj32.kept (hq9 _ (tk_ne ht_ld100 ht_a0 (Or.inl (by decide))))
  have hj36 := hj36.kept (hq9 _ (tk_ne ht_ld110 ht_a0 (Or.inl (by decide))))
  have hj40 := hj40.kept (hq9 _ (tk_ne ht_ld120 ht_a0 (Or.inl (by decide))))
  refine lv_aload_n hx hb dX2_copyFrom_152 rfl (lv_at hl 1 rfl) ?_
  refine tk_get (ci := 2) (C := RX2) (T := TX2) (N := 20) (sp := (1, 24, 40, 0)) hx hb htl inX2 hown hK hG ht_a1 (by decide) tk_no rfl 12 (by decide) (htl _ mw_68) (fun _ h9 => h9) rfl dX2_copyFrom_153 (fun v9 hf43 hV9 => ?_)
  obtain ⟨b44, rfl, ht_b44⟩ := hV9
  have ht_b44 : t b44 = (24, 40, 6) := ht_b44
  refine lv_iconst (v := 0) hx hb dX2_copyFrom_156 (by decide) ?_
  refine lv_aload_n hx hb dX2_copyFrom_157 rfl (lv_at hl 0 rfl) ?_
  refine tk_get (ci := 2) (C := RX2) (T := TX2) (N := 20) (sp := (1, 24, 40, 0)) hx hb htl inX2 hown hK hG ht_a0 (by decide) tk_no rfl 12 (by decide) (htl _ mw_68) (fun _ h9 => h9) rfl dX2_copyFrom_158 (fun v9 hf45 hV9 => ?_)
  obtain ⟨b46, rfl, ht_b46⟩ := hV9
  have ht_b46 : t b46 = (24, 40, 0) := ht_b46
  refine lv_iconst (v := 0) hx hb dX2_copyFrom_161 (by decide) ?_
  refine lv_aload_n hx hb dX2_copyFrom_162 rfl (lv_at hl 0 rfl) ?_
  refine tk_get (ci := 2) (C := RX2) (T := TX2) (N := 20) (sp := (1, 24, 40, 0)) hx hb htl inX2 hown hK hG ht_a0 (by decide) tk_no rfl 12 (by decide) (htl _ mw_68) (fun _ h9 => h9) rfl dX2_copyFrom_163 (fun v9 hf47 hV9 => ?_)
  obtain ⟨b48, rfl, ht_b48⟩ := hV9
  have ht_b48 : t b48 = (24, 40, 0) := ht_b48
  refine tk_alen hx hb hK hG 0 rfl ht_b48 (by decide) (fun _ h => by obtain ⟨f, h, _⟩ := h; exact ⟨_, h⟩) tk_no (by decide) dX2_copyFrom_166 (fun z hz => ?_)
  obtain rfl : z = 40 := (fi_eq hz (by decide)).mpr rfl
  refine tk_copy (SP := 0) (DP := 0) (NC := 40) hx hb (by rw [hml]; exact hl.1.symm) hown (htl _ mw_1712) (htl _ mw_655) (htl _ mw_656) (htl _ mw_657) hK hG hS ht_b44 ht_b46 (by decide) (by decide) (fun _ h => h) (fun _ => Iff.rfl) tk_no tk_no (show (0 : Int32).toInt = 0 by decide) (show (0 : Int32).toInt = 0 by decide) (show (40 : Int32).toInt = 40 by decide) (by decide) (by decide) (by decide) (by decide) (by decide) (fun _ _ _ _ h => h) (tk_w.of ht_b46 (by decide) (List.mem_of_getElem? (i := 9) rfl) (Nat.le_refl _) (Nat.le_refl _)) (Nat.le_of_ble_eq_true rfl) (Nat.le_of_ble_eq_true rfl) dX2_copyFrom_167 (fun H locs hG hS hq9 => ?_)
  have hj0_0 := hj0_0.kept (hq9 _ (tk_ne ht_a1 ht_b46 (Or.inl (by decide))))
  have hj0_1 := hj0_1.kept (hq9 _ (tk_ne ht_a1 ht_b46 (Or.inl (by decide))))
  have hj0_2 := hj0_2.kept (hq9 _ (tk_ne ht_a1 ht_b46 (Or.inl (by decide))))
  have hj0_3 := hj0_3.kept (hq9 _ (tk_ne ht_a1 ht_b46 (Or.inl (by decide))))
  have hj0_4 := hj0_4.kept (hq9 _ (tk_ne ht_ld76 ht_b46 (Or.inl (by decide))))
  have hj0_5 := hj0_5.kept (hq9 _ (tk_ne ht_ld86 ht_b46 (Or.inl (by decide))))
  have hj0_6 := hj0_6.kept (hq9 _ (tk_ne ht_ld96 ht_b46 (Or.inl (by decide))))
  have hj0_7 := hj0_7.kept (hq9 _ (tk_ne ht_ld106 ht_b46 (Or.inl (by decide))))
  have hj0_8 := hj0_8.kept (hq9 _ (tk_ne ht_ld116 ht_b46 (Or.inl (by decide))))
  have hj0_9 := hj0_9.kept (hq9 _ (tk_ne ht_ld126 ht_b46 (Or.inl (by decide))))
  have hf1 := hf1.kept (hq9 _ (tk_ne ht_a0 ht_b46 (Or.inl (by decide))))
  have hj16 := hj16.kept (hq9 _ (tk_ne ht_ld70 ht_b46 (Or.inl (by decide))))
  have hf17 := hf17.kept (hq9 _ (tk_ne ht_a0 ht_b46 (Or.inl (by decide))))
  have hj22 := hj22.kept (hq9 _ (tk_ne ht_ld80 ht_b46 (Or.inl (by decide))))
  have hj26 := hj26.kept (hq9 _ (tk_ne ht_ld90 ht_b46 (Or.inl (by decide))))
  have hf27 := hf27.kept (hq9 _ (tk_ne ht_a0 ht_b46 (Or.inl (by decide))))
  have hj32 := hj32.kept (hq9 _ (tk_ne ht_ld100 ht_b46 (Or.inl (by decide))))
  have hj36 := hj36.kept (hq9 _ (tk_ne ht_ld110 ht_b46 (Or.inl (by decide))))
  have hj40 := hj40.kept (hq9 _ (tk_ne ht_ld120 ht_b46 (Or.inl (by decide))))
  have hf41 := hf41.kept (hq9 _ (tk_ne ht_a0 ht_b46 (Or.inl (by decide))))
  refine lv_aload_n hx hb dX2_copyFrom_170 rfl (lv_at hl 0 rfl) ?_
  refine lv_aload_n hx hb dX2_copyFrom_171 rfl (lv_at hl 1 rfl) ?_
  refine tk_get (ci := 2) (C := RX2) (T := TX2) (N := 20) (sp := (0, 0, 6, 0)) hx hb htl inX2 hown hK hG ht_a1 (by decide) tk_no rfl 13 (by decide) (htl _ mw_663) (fun _ h9 => h9) rfl dX2_copyFrom_172 (fun v9 hf50 hV9 => ?_)
  obtain ⟨v51, rfl, (ha_v51 : 0 ≤ v51.toInt), (hb_v51 : v51.toInt ≤ 6)⟩ := hV9
  refine tk_put (ci := 2) (v := .int v51) (ty := .int) (C := RX2) (T := TX2) (N := 20) (sp := (0, 0, 6, 0)) hx hb htl inX2 tyX2 tyX2_ok nmX2 hown hK hG hS ht_a0 (by decide) tk_no rfl 13 (by decide) (htl _ mw_663) (fun _ h9 => h9) rfl (tyX2_ok 13 (by decide)) rfl rfl rfl (tk_V0 (by omega) (by omega)) (fun _ h => h) (tk_w.of ht_a0 (by decide) (List.mem_of_getElem? (i := 0) rfl) (Nat.le_refl _) (Nat.le_refl _)) dX2_copyFrom_175 (fun H locs hG hS hf52 hq9 hj9 => ?_)
  have hj0_0 := hj0_0.kept (hq9 _ (tk_ne ht_a1 ht_a0 (Or.inr (Or.inr (by decide)))))
  have hj0_1 := hj0_1.kept (hq9 _ (tk_ne ht_a1 ht_a0 (Or.inr (Or.inr (by decide)))))
  have hj0_2 := hj0_2.kept (hq9 _ (tk_ne ht_a1 ht_a0 (Or.inr (Or.inr (by decide)))))
  have hj0_3 := hj0_3.kept (hq9 _ (tk_ne ht_a1 ht_a0 (Or.inr (Or.inr (by decide)))))
  have hj0_4 := hj0_4.kept (hq9 _ (tk_ne ht_ld76 ht_a0 (Or.inl (by decide))))
  have hj0_5 := hj0_5.kept (hq9 _ (tk_ne ht_ld86 ht_a0 (Or.inl (by decide))))
  have hj0_6 := hj0_6.kept (hq9 _ (tk_ne ht_ld96 ht_a0 (Or.inl (by decide))))
  have hj0_7 := hj0_7.kept (hq9 _ (tk_ne ht_ld106 ht_a0 (Or.inl (by decide))))
  have hj0_8 := hj0_8.kept (hq9 _ (tk_ne ht_ld116 ht_a0 (Or.inl (by decide))))
  have hj0_9 := hj0_9.kept (hq9 _ (tk_ne ht_ld126 ht_a0 (Or.inl (by decide))))
  have hf1 := hj9 0 _ (by decide) (by decide) hf1
  have hj16 := hj16.kept (hq9 _ (tk_ne ht_ld70 ht_a0 (Or.inl (by decide))))
  have hf17 := hj9 4 _ (by decide) (by decide) hf17
  have hj22 := hj22.kept (hq9 _ (tk_ne ht_ld80 ht_a0 (Or.inl (by decide))))
  have hj26 := hj26.kept (hq9 _ (tk_ne ht_ld90 ht_a0 (Or.inl (by decide))))
  have hf27 := hj9 7 _ (by decide) (by decide) hf27
  have hj32 := hj32.kept (hq9 _ (tk_ne ht_ld100 ht_a0 (Or.inl (by decide))))
  have hj36 := hj36.kept (hq9 _ (tk_ne ht_ld110 ht_a0 (Or.inl (by decide))))
  have hj40 := hj40.kept (hq9 _ (tk_ne ht_ld120 ht_a0 (Or.inl (by decide))))
  have hf41 := hj9 11 _ (by decide) (by decide) hf41
  have hf50 := hf50.kept (hq9 _ (tk_ne ht_a1 ht_a0 (Or.inr (Or.inr (by decide)))))
  refine lv_iconst (v := 0) hx hb dX2_copyFrom_178 (by decide) ?_
  refine lv_istore_n (lv' := [(2, .int 0), (0, .ref a0), (1, .ref a1)]) hx hb dX2_copyFrom_179 rfl hl (by decide) rfl (fun ls hl => ?_)
  have hl376 : ∀ (N_l376 : Nat) (v54 : Int32) (H : Heap) (locs : List Loc), v54.toInt ≤ 6 → 0 ≤ v54.toInt → (-1) * v54.toInt + 6 < (N_l376 : Int) → tk_G D cy ld t [] H → va_S (tk_w t [(3, 0, 0), (20, 0, 0), (21, 0, 0), (32, 0, 0), (33, 0, 0), (34, 0, 0), (35, 0, 0), (36, 0, 0), (37, 0, 0), (24, 0, 0), (28, 0, 0), (10, 0, 0)]) s.heap H locs → tk_f D H a1 2 0 (.int n0) → tk_f D H a1 2 4 (.int n1) → tk_f D H a1 2 7 (.int n2) → tk_f D H a1 2 11 (.int n3) → tk_c H (ld 76) 8 fh → tk_c H (ld 86) 10 fs → tk_c H (ld 96) 10 fk → tk_c H (ld 106) 10 q1 → tk_c H (ld 116) 10 q2 → tk_c H (ld 126) 10 q3 → tk_f D H a0 2 0 (.int n0) → tk_c H (ld 70) 8 fh → tk_f D H a0 2 4 (.int n1) → tk_c H (ld 80) 10 fs → tk_c H (ld 90) 10 fk → tk_f D H a0 2 7 (.int n2) → tk_c H (ld 100) 10 q1 → tk_c H (ld 110) 10 q2 → tk_c H (ld 120) 10 q3 → tk_f D H a0 2 11 (.int n3) → tk_f D H a1 2 13 (.int v51) → tk_f D H a0 2 13 (.int v51) → ∀ ls : Array Slot, lv_has ls 3 [(2, .int v54), (0, .ref a0), (1, .ref a1)] → W p l e ({ frames := 5, cells := 0, slots := 0, locals := 280 }) s m args below meth c H locs 0 0 (MQ below (tv D cy ld t [] (fun H => jC D ld a1 6 n0 n1 n2 n3 fh fs fk q1 q2 q3 H ∧ jC D ld a0 0 n0 n1 n2 n3 fh fs fk q1 q2 q3 H) (tk_w t [(3, 0, 0), (20, 0, 0), (21, 0, 0), (32, 0, 0), (33, 0, 0), (34, 0, 0), (35, 0, 0), (36, 0, 0), (37, 0, 0), (24, 0, 0), (28, 0, 0), (10, 0, 0)])) args s 0 0 (tk_w t [(3, 0, 0), (20, 0, 0), (21, 0, 0), (32, 0, 0), (33, 0, 0), (34, 0, 0), (35, 0, 0), (36, 0, 0), (37, 0, 0), (24, 0, 0), (28, 0, 0), (10, 0, 0)])) (F0 m 180 ls []) := by
    intro N_l376
    induction N_l376 with
    | zero => intro v54 H locs hq0_l376 hq1_l376 hm_l376 hG hS hj0_0 hj0_1 hj0_2 hj0_3 hj0_4 hj0_5 hj0_6 hj0_7 hj0_8 hj0_9 hf1 hj16 hf17 hj22 hj26 hf27 hj32 hj36 hj40 hf41 hf50 hf52 ls hl; exfalso; omega
    | succ N_l376 ih_l376 =>
      intro v54 H locs hq0_l376 hq1_l376 hm_l376 hG hS hj0_0 hj0_1 hj0_2 hj0_3 hj0_4 hj0_5 hj0_6 hj0_7 hj0_8 hj0_9 hf1 hj16 hf17 hj22 hj26 hf27 hj32 hj36 hj40 hf41 hf50 hf52 ls hl
      refine lv_iload_n hx hb dX2_copyFrom_180 rfl (lv_at hl 0 rfl) ?_
      refine lv_bipush (v := 6) hx hb dX2_copyFrom_181 (by decide) ?_
      refine lv_icmp_ge (tgt := 204) hx hb dX2_copyFrom_183 (by decide) (fun c9 => ?_) (fun c9 => ?_)
      · have hc377 : 6 ≤ v54.toInt := (fi_le (show (6 : Int32).toInt = 6 by decide) rfl).mp c9
        refine lv_aload_n hx hb dX2_copyFrom_204 rfl (lv_at hl 1 rfl) ?_
        refine lv_aload_n hx hb dX2_copyFrom_205 rfl (lv_at hl 2 rfl) ?_
        refine tk_get (ci := 2) (C := RX2) (T := TX2) (N := 20) (sp := (0, (-2147483648), 2147483647, 0)) hx hb htl inX2 hown hK hG ht_a1 (by decide) tk_no rfl 15 (by decide) (htl _ mw_71) (fun _ h9 => h9) rfl dX2_copyFrom_206 (fun v9 hf392 hV9 => ?_)
        obtain ⟨v393, rfl, (ha_v393 : (-2147483648) ≤ v393.toInt), (hb_v393 : v393.toInt ≤ 2147483647)⟩ := hV9
        refine tk_put (ci := 2) (v := .int v393) (ty := .int) (C := RX2) (T := TX2) (N := 20) (sp := (0, (-2147483648), 2147483647, 0)) hx hb htl inX2 tyX2 tyX2_ok nmX2 hown hK hG hS ht_a0 (by decide) tk_no rfl 15 (by decide) (htl _ mw_71) (fun _ h9 => h9) rfl (tyX2_ok 15 (by decide)) rfl rfl rfl (tk_V0 (tk_rng _).1 (tk_rng _).2) (fun _ h => h) (tk_w.of ht_a0 (by decide) (List.mem_of_getElem? (i := 0) rfl) (Nat.le_refl _) (Nat.le_refl _)) dX2_copyFrom_209 (fun H locs hG hS hf394 hq9 hj9 => ?_)
        have hj0_0 := hj0_0.kept (hq9 _ (tk_ne ht_a1 ht_a0 (Or.inr (Or.inr (by decide)))))
        have hj0_1 := hj0_1.kept (hq9 _ (tk_ne ht_a1 ht_a0 (Or.inr (Or.inr (by decide)))))
        have hj0_2 := hj0_2.kept (hq9 _ (tk_ne ht_a1 ht_a0 (Or.inr (Or.inr (by decide)))))
        have hj0_3 := hj0_3.kept (hq9 _ (tk_ne ht_a1 ht_a0 (Or.inr (Or.inr (by decide)))))
        have hj0_4 := hj0_4.kept (hq9 _ (tk_ne ht_ld76 ht_a0 (Or.inl (by decide))))
        have hj0_5 := hj0_5.kept (hq9 _ (tk_ne ht_ld86 ht_a0 (Or.inl (by decide))))
        have hj0_6 := hj0_6.kept (hq9 _ (tk_ne ht_ld96 ht_a0 (Or.inl (by decide))))
        have hj0_7 := hj0_7.kept (hq9 _ (tk_ne ht_ld106 ht_a0 (Or.inl (by decide))))
        have hj0_8 := hj0_8.kept (hq9 _ (tk_ne ht_ld116 ht_a0 (Or.inl (by decide))))
        have hj0_9 := hj0_9.kept (hq9 _ (tk_ne ht_ld126 ht_a0 (Or.inl (by decide))))
        have hf1 := hj9 0 _ (by decide) (by decide) hf1
        have hj16 := hj16.kept (hq9 _ (tk_ne ht_ld70 ht_a0 (Or.inl (by decide))))
        have hf17 := hj9 4 _ (by decide) (by decide) hf17
        have hj22 := hj22.kept (hq9 _ (tk_ne ht_ld80 ht_a0 (Or.inl (by decide))))
        have hj26 := hj26.kept (hq9 _ (tk_ne ht_ld90 ht_a0 (Or.inl (by decide))))
        have hf27 := hj9 7 _ (by decide) (by decide) hf27
        have hj32 := hj32.kept (hq9 _ (tk_ne ht_ld100 ht_a0 (Or.inl (by decide))))
        have hj36 := hj36.kept (hq9 _ (tk_ne ht_ld110 ht_a0 (Or.inl (by decide))))
        have hj40 := hj40.kept (hq9 _ (tk_ne ht_ld120 ht_a0 (Or.inl (by decide))))
        have hf41 := hj9 11 _ (by decide) (by decide) hf41
        have hf50 := hf50.kept (hq9 _ (tk_ne ht_a1 ht_a0 (Or.inr (Or.inr (by decide)))))
        have hf52 := hj9 13 _ (by decide) (by decide) hf52
        have hf392 := hf392.kept (hq9 _ (tk_ne ht_a1 ht_a0 (Or.inr (Or.inr (by decide)))))
        refine lv_aload_n hx hb dX2_copyFrom_212 rfl (lv_at hl 1 rfl) ?_
        refine lv_aload_n hx hb dX2_copyFrom_213 rfl (lv_at hl 2 rfl) ?_
        refine tk_get (ci := 2) (C := RX2) (T := TX2) (N := 20) (sp := (0, (-2147483648), 2147483647, 0)) hx hb htl inX2 hown hK hG ht_a1 (by decide) tk_no rfl 16 (by decide) (htl _ mw_72) (fun _ h9 => h9) rfl dX2_copyFrom_214 (fun v9 hf396 hV9 => ?_)
        obtain ⟨v397, rfl, (ha_v397 : (-2147483648) ≤ v397.toInt), (hb_v397 : v397.toInt ≤ 2147483647)⟩ := hV9
        refine tk_put (ci := 2) (v := .int v397) (ty := .int) (C := RX2) (T := TX2) (N := 20) (sp := (0, (-2147483648), 2147483647, 0)) hx hb htl inX2 tyX2 tyX2_ok nmX2 hown hK hG hS ht_a0 (by decide) tk_no rfl 16 (by decide) (htl _ mw_72) (fun _ h9 => h9) rfl (tyX2_ok 16 (by decide)) rfl rfl rfl (tk_V0 (tk_rng _).1 (tk_rng _).2) (fun _ h => h) (tk_w.of ht_a0 (by decide) (List.mem_of_getElem? (i := 0) rfl) (Nat.le_refl _) (Nat.le_refl _)) dX2_copyFrom_217 (fun H locs hG hS hf398 hq9 hj9 => ?_)
        have hj0_0 := hj0_0.kept (hq9 _ (tk_ne ht_a1 ht_a0 (Or.inr (Or.inr (by decide)))))
        have hj0_1 := hj0_1.kept (hq9 _ (tk_ne ht_a1 ht_a0 (Or.inr (Or.inr (by decide)))))
        have hj0_2 := hj0_2.kept (hq9 _ (tk_ne ht_a1 ht_a0 (Or.inr (Or.inr (by decide)))))
        have hj0_3 := hj0_3.kept (hq9 _ (tk_ne ht_a1 ht_a0 (Or.inr (Or.inr (by decide)))))
        have hj0_4 := hj0_4.kept (hq9 _ (tk_ne ht_ld76 ht_a0 (Or.inl (by decide))))
        have hj0_5 := hj0_5.kept (hq9 _ (tk_ne ht_ld86 ht_a0 (Or.inl (by decide))))
        have hj0_6 := hj0_6.kept (hq9 _ (tk_ne ht_ld96 ht_a0 (Or.inl (by decide))))
        have hj0_7 := hj0_7.kept (hq9 _ (tk_ne ht_ld106 ht_a0 (Or.inl (by decide))))
        have hj0_8 := hj0_8.kept (hq9 _ (tk_ne ht_ld116 ht_a0 (Or.inl (by decide))))
        have hj0_9 := hj0_9.kept (hq9 _ (tk_ne ht_ld126 ht_a0 (Or.inl (by decide))))
        have hf1 := hj9 0 _ (by decide) (by decide) hf1
        have hj16 := hj16.kept (hq9 _ (tk_ne ht_ld70 ht_a0 (Or.inl (by decide))))
        have hf17 := hj9 4 _ (by decide) (by decide) hf17
        have hj22 := hj22.kept (hq9 _ (tk_ne ht_ld80 ht_a0 (Or.inl (by decide))))
        have hj26 := hj26.kept (hq9 _ (tk_ne ht_ld90 ht_a0 (Or.inl (by decide))))
        have hf27 := hj9 7 _ (by decide) (by decide) hf27
        have hj32 := hj32.kept (hq9 _ (tk_ne ht_ld100 ht_a0 (Or.inl (by decide))))
        have hj36 := hj36.kept (hq9 _ (tk_ne ht_ld110 ht_a0 (Or.inl (by decide))))
        have hj40 := hj40.kept (hq9 _ (tk_ne ht_ld120 ht_a0 (Or.inl (by decide))))
        have hf41 := hj9 11 _ (by decide) (by decide) hf41
        have hf50 := hf50.kept (hq9 _ (tk_ne ht_a1 ht_a0 (Or.inr (Or.inr (by decide)))))
        have hf52 := hj9 13 _ (by decide) (by decide) hf52
        have hf392 := hf392.kept (hq9 _ (tk_ne ht_a1 ht_a0 (Or.inr (Or.inr (by decide)))))
        have hf394 := hj9 15 _ (by decide) (by decide) hf394
        refine lv_aload_n hx hb dX2_copyFrom_220 rfl (lv_at hl 1 rfl) ?_
        refine lv_aload_n hx hb dX2_copyFrom_221 rfl (lv_at hl 2 rfl) ?_
        refine tk_get (ci := 2) (C := RX2) (T := TX2) (N := 20) (sp := (0, (-2147483648), 2147483647, 0)) hx hb htl inX2 hown hK hG ht_a1 (by decide) tk_no rfl 17 (by decide) (htl _ mw_73) (fun _ h9 => h9) rfl dX2_copyFrom_222 (fun v9 hf400 hV9 => ?_)
        obtain ⟨v401, rfl, (ha_v401 : (-2147483648) ≤ v401.toInt), (hb_v401 : v401.toInt ≤ 2147483647)⟩ := hV9
        refine tk_put (ci := 2) (v := .int v401) (ty := .int) (C := RX2) (T := TX2) (N := 20) (sp := (0, (-2147483648), 2147483647, 0)) hx hb htl inX2 tyX2 tyX2_ok nmX2 hown hK hG hS ht_a0 (by decide) tk_no rfl 17 (by decide) (htl _ mw_73) (fun _ h9 => h9) rfl (tyX2_ok 17 (by decide)) rfl rfl rfl (tk_V0 (tk_rng _).1 (tk_rng _).2) (fun _ h => h) (tk_w.of ht_a0 (by decide) (List.mem_of_getElem? (i := 0) rfl) (Nat.le_refl _) (Nat.le_refl _)) dX2_copyFrom_225 (fun H locs hG hS hf402 hq9 hj9 => ?_)
        have hj0_0 := hj0_0.kept (hq9 _ (tk_ne ht_a1 ht_a0 (Or.inr (Or.inr (by decide)))))
        have hj0_1 := hj0_1.kept (hq9 _ (tk_ne ht_a1 ht_a0 (Or.inr (Or.inr (by decide)))))
        have hj0_2 := hj0_2.kept (hq9 _ (tk_ne ht_a1 ht_a0 (Or.inr (Or.inr (by decide)))))
        have hj0_3 := hj0_3.kept (hq9 _ (tk_ne ht_a1 ht_a0 (Or.inr (Or.inr (by decide)))))
        have hj0_4 := hj0_4.kept (hq9 _ (tk_ne ht_ld76 ht_a0 (Or.inl (by decide))))
        have hj0_5 := hj0_5.kept (hq9 _ (tk_ne ht_ld86 ht_a0 (Or.inl (by decide))))
        have hj0_6 := hj0_6.kept (hq9 _ (tk_ne ht_ld96 ht_a0 (Or.inl (by decide))))
        have hj0_7 := hj0_7.kept (hq9 _ (tk_ne ht_ld106 ht_a0 (Or.inl (by decide))))
        have hj0_8 := hj0_8.kept (hq9 _ (tk_ne ht_ld116 ht_a0 (Or.inl (by decide))))
        have hj0_9 := hj0_9.kept (hq9 _ (tk_ne ht_ld126 ht_a0 (Or.inl (by decide))))
        have hf1 := hj9 0 _ (by decide) (by decide) hf1
        have hj16 := hj16.kept (hq9 _ (tk_ne ht_ld70 ht_a0 (Or.inl (by decide))))
        have hf17 := hj9 4 _ (by decide) (by decide) hf17
        have hj22 := hj22.kept (hq9 _ (tk_ne ht_ld80 ht_a0 (Or.inl (by decide))))
        have hj26 := hj26.kept (hq9 _ (tk_ne ht_ld90 ht_a0 (Or.inl (by decide))))
        have hf27 := hj9 7 _ (by decide) (by decide) hf27
        have hj32 := hj32.kept (hq9 _ (tk_ne ht_ld100 ht_a0 (Or.inl (by decide))))
        have hj36 := hj36.kept (hq9 _ (tk_ne ht_ld110 ht_a0 (Or.inl (by decide))))
        have hj40 := hj40.kept (hq9 _ (tk_ne ht_ld120 ht_a0 (Or.inl (by decide))))
        have hf41 := hj9 11 _ (by decide) (by decide) hf41
        have hf50 := hf50.kept (hq9 _ (tk_ne ht_a1 ht_a0 (Or.inr (Or.inr (by decide)))))
        have hf52 := hj9 13 _ (by decide) (by decide) hf52
        have hf392 := hf392.kept (hq9 _ (tk_ne ht_a1 ht_a0 (Or.inr (Or.inr (by decide)))))
        have hf394 := hj9 15 _ (by decide) (by decide) hf394
        refine lv_aload_n hx hb dX2_copyFrom_228 rfl (lv_at hl 1 rfl) ?_
        refine lv_aload_n hx hb dX2_copyFrom_229 rfl (lv_at hl 2 rfl) ?_
        refine tk_get (ci := 2) (C := RX2) (T := TX2) (N := 20) (sp := (0, (-2147483648), 2147483647, 0)) hx hb htl inX2 hown hK hG ht_a1 (by decide) tk_no rfl 18 (by decide) (htl _ mw_409) (fun _ h9 => h9) rfl dX2_copyFrom_230 (fun v9 hf404 hV9 => ?_)
        obtain ⟨v405, rfl, (ha_v405 : (-2147483648) ≤ v405.toInt), (hb_v405 : v405.toInt ≤ 2147483647)⟩ := hV9
        refine tk_put (ci := 2) (v := .int v405) (ty := .int) (C := RX2) (T := TX2) (N := 20) (sp := (0, (-2147483648), 2147483647, 0)) hx hb htl inX2 tyX2 tyX2_ok nmX2 hown hK hG hS ht_a0 (by decide) tk_no rfl 18 (by decide) (htl _ mw_409) (fun _ h9 => h9) rfl (tyX2_ok 18 (by decide)) rfl rfl rfl (tk_V0 (tk_rng _).1 (tk_rng _).2) (fun _ h => h) (tk_w.of ht_a0 (by decide) (List.mem_of_getElem? (i := 0) rfl) (Nat.le_refl _) (Nat.le_refl _)) dX2_copyFrom_233 (fun H locs hG hS hf406 hq9 hj9 => ?_)
        have hj0_0 := hj0_0.kept (hq9 _ (tk_ne ht_a1 ht_a0 (Or.inr (Or.inr (by decide)))))
        have hj0_1 := hj0_1.kept (hq9 _ (tk_ne ht_a1 ht_a0 (Or.inr (Or.inr (by decide)))))
        have hj0_2 := hj0_2.kept (hq9 _ (tk_ne ht_a1 ht_a0 (Or.inr (Or.inr (by decide)))))
        have hj0_3 := hj0_3.kept (hq9 _ (tk_ne ht_a1 ht_a0 (Or.inr (Or.inr (by decide)))))
        have hj0_4 := hj0_4.kept (hq9 _ (tk_ne ht_ld76 ht_a0 (Or.inl (by decide))))
        have hj0_5 := hj0_5.kept (hq9 _ (tk_ne ht_ld86 ht_a0 (Or.inl (by decide))))
        have hj0_6 := hj0_6.kept (hq9 _ (tk_ne ht_ld96 ht_a0 (Or.inl (by decide))))
        have hj0_7 := hj0_7.kept (hq9 _ (tk_ne ht_ld106 ht_a0 (Or.inl (by decide))))
        have hj0_8 := hj0_8.kept (hq9 _ (tk_ne ht_ld116 ht_a0 (Or.inl (by decide))))
        have hj0_9 := hj0_9.kept (hq9 _ (tk_ne ht_ld126 ht_a0 (Or.inl (by decide))))
        have hf1 := hj9 0 _ (by decide) (by decide) hf1
        have hj16 := hj16.kept (hq9 _ (tk_ne ht_ld70 ht_a0 (Or.inl (by decide))))
        have hf17 := hj9 4 _ (by decide) (by decide) hf17
        have hj22 := hj22.kept (hq9 _ (tk_ne ht_ld80 ht_a0 (Or.inl (by decide))))
        have hj26 := hj26.kept (hq9 _ (tk_ne ht_ld90 ht_a0 (Or.inl (by decide))))
        have hf27 := hj9 7 _ (by decide) (by decide) hf27
        have hj32 := hj32.kept (hq9 _ (tk_ne ht_ld100 ht_a0 (Or.inl (by decide))))
        have hj36 := hj36.kept (hq9 _ (tk_ne ht_ld110 ht_a0 (Or.inl (by decide))))
        have hj40 := hj40.kept (hq9 _ (tk_ne ht_ld120 ht_a0 (Or.inl (by decide))))
        have hf41 := hj9 11 _ (by decide) (by decide) hf41
        have hf50 := hf50.kept (hq9 _ (tk_ne ht_a1 ht_a0 (Or.inr (Or.inr (by decide)))))
        have hf52 := hj9 13 _ (by decide) (by decide) hf52
        have hf392 := hf392.kept (hq9 _ (tk_ne ht_a1 ht_a0 (Or.inr (Or.inr (by decide)))))
        have hf394 := hj9 15 _ (by decide) (by decide) hf394
        refine lv_aload_n hx hb dX2_copyFrom_236 rfl (lv_at hl 1 rfl) ?_
        refine tk_get (ci := 2) (C := RX2) (T := TX2) (N := 20) (sp := (9, 40, 10, 0)) hx hb htl inX2 hown hK hG ht_a0 (by decide) tk_no rfl 19 (by decide) (htl _ mw_77) (fun _ h9 => h9) rfl dX2_copyFrom_237 (fun v9 hf408 hV9 => ?_)
        obtain ⟨rfl, ht_ld40⟩ := hV9
        have ht_ld40 : t (ld 40) = (10, 0, 0) := ht_ld40
        refine fx_top (v := .ref (ld 40)) rfl ?_
        refine lv_aload_n hx hb dX2_copyFrom_240 rfl (lv_at hl 2 rfl) ?_
        refine tk_get (ci := 2) (C := RX2) (T := TX2) (N := 20) (sp := (9, 40, 10, 0)) hx hb htl inX2 hown hK hG ht_a1 (by decide) tk_no rfl 19 (by decide) (htl _ mw_77) (fun _ h9 => h9) rfl dX2_copyFrom_241 (fun v9 hf409 hV9 => ?_)
        obtain ⟨rfl, ht_ld46⟩ := hV9
        have ht_ld46 : t (ld 46) = (10, 0, 6) := ht_ld46
        refine fx_top (v := .ref (ld 46)) rfl ?_
        obtain ⟨v9, hf410, hV9⟩ := tk_peek (ci := 9) (C := RX9) (T := TX9) (N := 11) (sp := (0, (-1), 7, 0)) hG ht_ld46 (by decide) tk_no rfl 5 (by decide) rfl
        obtain ⟨v411, rfl, (ha_v411 : (-1) ≤ v411.toInt), (hb_v411 : v411.toInt ≤ 7)⟩ := hV9
        refine tk_Vv (As := [.ref (ld 46)]) (rest := []) (ci := 9) ⟨hx, hb, hml, hown, hts⟩ hK hG hZ hS (k_X9_copyFrom l D cy ld t 0 6 (ld 40) (ld 46) v411 ht_ld40 ht_ld46 (by omega) (by omega) (by omega)) hf410 ⟨callB_of 1 hts (wl_in mw_821) rfl rfl rfl (htl _ mw_76) (htl _ mw_1713) hd_yX9_copyFrom ⟨(Nat.le_of_ble_eq_true rfl), (Nat.le_of_ble_eq_true rfl)⟩, htl _ mw_819, htl _ mw_820⟩ ht_ld40 (by decide) tk_no rfl (tk_w.pick [1, 11] rfl) rfl hl.1 rfl (Nat.le_of_ble_eq_true rfl) dX2_copyFrom_244 ⟨(Nat.le_of_ble_eq_true rfl), (Nat.le_of_ble_eq_true rfl)⟩ (fun H locs hpo hG hS hq9 => ?_)
        have hj0_0 := hj0_0.call hq9 (tk_w.no ht_a1 (by decide))
        have hj0_1 := hj0_1.call hq9 (tk_w.no ht_a1 (by decide))
        have hj0_2 := hj0_2.call hq9 (tk_w.no ht_a1 (by decide))
        have hj0_3 := hj0_3.call hq9 (tk_w.no ht_a1 (by decide))
        have hj0_4 := hj0_4.call hq9 (tk_w.no ht_ld76 (by decide))
        have hj0_5 := hj0_5.call hq9 (tk_w.no ht_ld86 (by decide))
        have hj0_6 := hj0_6.call hq9 (tk_w.no ht_ld96 (by decide))
        have hj0_7 := hj0_7.call hq9 (tk_w.no ht_ld106 (by decide))
        have hj0_8 := hj0_8.call hq9 (tk_w.no ht_ld116 (by decide))
        have hj0_9 := hj0_9.call hq9 (tk_w.no ht_ld126 (by decide))
        have hf1 := hf1.call hq9 (tk_w.no ht_a0 (by decide))
        have hj16 := hj16.call hq9 (tk_w.no ht_ld70 (by decide))
        have hf17 := hf17.call hq9 (tk_w.no ht_a0 (by decide))
        have hj22 := hj22.call hq9 (tk_w.no ht_ld80 (by decide))
        have hj26 := hj26.call hq9 (tk_w.no ht_ld90 (by decide))
        have hf27 := hf27.call hq9 (tk_w.no ht_a0 (by decide))
        have hj32 := hj32.call hq9 (tk_w.no ht_ld100 (by decide))
        have hj36 := hj36.call hq9 (tk_w.no ht_ld110 (by decide))
        have hj40 := hj40.call hq9 (tk_w.no ht_ld120 (by decide))
        have hf41 := hf41.call hq9 (tk_w.no ht_a0 (by decide))
        have hf50 := hf50.call hq9 (tk_w.no ht_a1 (by decide))
        have hf52 := hf52.call hq9 (tk_w.no ht_a0 (by decide))
        have hf392 := hf392.call hq9 (tk_w.no ht_a1 (by decide))
        have hf394 := hf394.call hq9 (tk_w.no ht_a0 (by decide))
        have hf410 := hf410.call hq9 (tk_w.no ht_ld46 (by decide))
        have hf413 := hpo
        exact tk_vret hx hb hr hlocks (show jC D ld a1 6 n0 n1 n2 n3 fh fs fk q1 q2 q3 H ∧ jC D ld a0 0 n0 n1 n2 n3 fh fs fk q1 q2 q3 H from ⟨⟨hj0_0, hj0_1, hj0_2, hj0_3, hj0_4, hj0_5, hj0_6, hj0_7, hj0_8, hj0_9⟩, ⟨hf1, hf17, hf27, hf41, hj16, hj22, hj26, hj32, hj36, hj40⟩⟩) hG hS dX2_copyFrom_247
      · have hc377 : ¬ (6 ≤ v54.toInt) := fun h9 => c9 ((fi_le (show (6 : Int32).toInt = 6 by decide) rfl).mpr h9)
        refine lv_aload_n hx hb dX2_copyFrom_186 rfl (lv_at hl 1 rfl) ?_
        refine tk_get (ci := 2) (C := RX2) (T := TX2) (N := 20) (sp := (1, 28, 6, 0)) hx hb htl inX2 hown hK hG ht_a0 (by decide) tk_no rfl 14 (by decide) (htl _ mw_70) (fun _ h9 => h9) rfl dX2_copyFrom_187 (fun v9 hf414 hV9 => ?_)
        obtain ⟨b415, rfl, ht_b415⟩ := hV9
        have ht_b415 : t b415 = (28, 6, 0) := ht_b415
        refine lv_iload_n hx hb dX2_copyFrom_190 rfl (lv_at hl 0 rfl) ?_
        refine lv_aload_n hx hb dX2_copyFrom_191 rfl (lv_at hl 2 rfl) ?_
        refine tk_get (ci := 2) (C := RX2) (T := TX2) (N := 20) (sp := (1, 28, 6, 0)) hx hb htl inX2 hown hK hG ht_a1 (by decide) tk_no rfl 14 (by decide) (htl _ mw_70) (fun _ h9 => h9) rfl dX2_copyFrom_192 (fun v9 hf416 hV9 => ?_)
        obtain ⟨b417, rfl, ht_b417⟩ := hV9
        have ht_b417 : t b417 = (28, 6, 6) := ht_b417
        refine lv_iload_n hx hb dX2_copyFrom_195 rfl (lv_at hl 0 rfl) ?_
        refine tk_aald hx hb hK hG 5 rfl rfl ht_b417 (by decide) (fun _ h => h) tk_no rfl (by omega) (by omega) dX2_copyFrom_196 (fun o418 ht_o418 => ?_)
        have hj424 : ∀ (H : Heap) (locs : List Loc), tk_G D cy ld t [] H → va_S (tk_w t [(3, 0, 0), (20, 0, 0), (21, 0, 0), (32, 0, 0), (33, 0, 0), (34, 0, 0), (35, 0, 0), (36, 0, 0), (37, 0, 0), (24, 0, 0), (28, 0, 0), (10, 0, 0)]) s.heap H locs → tk_f D H a1 2 0 (.int n0) → tk_f D H a1 2 4 (.int n1) → tk_f D H a1 2 7 (.int n2) → tk_f D H a1 2 11 (.int n3) → tk_c H (ld 76) 8 fh → tk_c H (ld 86) 10 fs → tk_c H (ld 96) 10 fk → tk_c H (ld 106) 10 q1 → tk_c H (ld 116) 10 q2 → tk_c H (ld 126) 10 q3 → tk_f D H a0 2 0 (.int n0) → tk_c H (ld 70) 8 fh → tk_f D H a0 2 4 (.int n1) → tk_c H (ld 80) 10 fs → tk_c H (ld 90) 10 fk → tk_f D H a0 2 7 (.int n2) → tk_c H (ld 100) 10 q1 → tk_c H (ld 110) 10 q2 → tk_c H (ld 120) 10 q3 → tk_f D H a0 2 11 (.int n3) → tk_f D H a1 2 13 (.int v51) → tk_f D H a0 2 13 (.int v51) → ∀ ls : Array Slot, lv_has ls 3 [(2, .int v54), (0, .ref a0), (1, .ref a1)] → W p l e ({ frames := 5, cells := 0, slots := 0, locals := 280 }) s m args below meth c H locs 0 0 (MQ below (tv D cy ld t [] (fun H => jC D ld a1 6 n0 n1 n2 n3 fh fs fk q1 q2 q3 H ∧ jC D ld a0 0 n0 n1 n2 n3 fh fs fk q1 q2 q3 H) (tk_w t [(3, 0, 0), (20, 0, 0), (21, 0, 0), (32, 0, 0), (33, 0, 0), (34, 0, 0), (35, 0, 0), (36, 0, 0), (37, 0, 0), (24, 0, 0), (28, 0, 0), (10, 0, 0)])) args s 0 0 (tk_w t [(3, 0, 0), (20, 0, 0), (21, 0, 0), (32, 0, 0), (33, 0, 0), (34, 0, 0), (35, 0, 0), (36, 0, 0), (37, 0, 0), (24, 0, 0), (28, 0, 0), (10, 0, 0)])) (F0 m 198 ls []) := by
          intro H locs hG hS hj0_0 hj0_1 hj0_2 hj0_3 hj0_4 hj0_5 hj0_6 hj0_7 hj0_8 hj0_9 hf1 hj16 hf17 hj22 hj26 hf27 hj32 hj36 hj40 hf41 hf50 hf52 ls hl
          obtain ⟨v425, h_v425, e_v425⟩ := tk_inc v54 1 (by decide) (by omega) (by omega)
          refine lv_iinc (v := v425) (lv' := [(2, .int v425), (0, .ref a0), (1, .ref a1)]) hx hb dX2_copyFrom_198 hl (k := 0) rfl e_v425 (by decide) rfl (fun ls hl => ?_)
          refine lv_goto (tgt := 180) hx hb dX2_copyFrom_201 (by decide) ?_
          exact ih_l376 v425 _ _ (by omega) (by omega) (by omega) hG hS hj0_0 hj0_1 hj0_2 hj0_3 hj0_4 hj0_5 hj0_6 hj0_7 hj0_8 hj0_9 hf1 hj16 hf17 hj22 hj26 hf27 hj32 hj36 hj40 hf41 hf50 hf52 _ (lv_sub hl [0, 1, 2] rfl)
        rcases o418 with _ | b419
        · refine fx_top (v := .null) rfl ?_
          refine tk_aastN hx hb hK hG hS 5 rfl ht_b415 (by decide) (fun _ => Iff.rfl) tk_no rfl (by omega) (by omega) (fun _ h => by cases h) (tk_w.of ht_b415 (by decide) (List.mem_of_getElem? (i := 10) rfl) (Nat.le_refl _) (Nat.le_refl _)) dX2_copyFrom_197 (fun H locs hG hS hq9 => ?_)
          have hj0_0 := hj0_0.kept (hq9 _ (tk_ne ht_a1 ht_b415 (Or.inl (by decide))))
          have hj0_1 := hj0_1.kept (hq9 _ (tk_ne ht_a1 ht_b415 (Or.inl (by decide))))
          have hj0_2 := hj0_2.kept (hq9 _ (tk_ne ht_a1 ht_b415 (Or.inl (by decide))))
          have hj0_3 := hj0_3.kept (hq9 _ (tk_ne ht_a1 ht_b415 (Or.inl (by decide))))
          have hj0_4 := hj0_4.kept (hq9 _ (tk_ne ht_ld76 ht_b415 (Or.inl (by decide))))
          have hj0_5 := hj0_5.kept (hq9 _ (tk_ne ht_ld86 ht_b415 (Or.inl (by decide))))
          have hj0_6 := hj0_6.kept (hq9 _ (tk_ne ht_ld96 ht_b415 (Or.inl (by decide))))
          have hj0_7 := hj0_7.kept (hq9 _ (tk_ne ht_ld106 ht_b415 (Or.inl (by decide))))
          have hj0_8 := hj0_8.kept (hq9 _ (tk_ne ht_ld116 ht_b415 (Or.inl (by decide))))
          have hj0_9 := hj0_9.kept (hq9 _ (tk_ne ht_ld126 ht_b415 (Or.inl (by decide))))
          have hf1 := hf1.kept (hq9 _ (tk_ne ht_a0 ht_b415 (Or.inl (by decide))))
          have hj16 := hj16.kept (hq9 _ (tk_ne ht_ld70 ht_b415 (Or.inl (by decide))))
          have hf17 := hf17.kept (hq9 _ (tk_ne ht_a0 ht_b415 (Or.inl (by decide))))
          have hj22 := hj22.kept (hq9 _ (tk_ne ht_ld80 ht_b415 (Or.inl (by decide))))
          have hj26 := hj26.kept (hq9 _ (tk_ne ht_ld90 ht_b415 (Or.inl (by decide))))
          have hf27 := hf27.kept (hq9 _ (tk_ne ht_a0 ht_b415 (Or.inl (by decide))))
          have hj32 := hj32.kept (hq9 _ (tk_ne ht_ld100 ht_b415 (Or.inl (by decide))))
          have hj36 := hj36.kept (hq9 _ (tk_ne ht_ld110 ht_b415 (Or.inl (by decide))))
          have hj40 := hj40.kept (hq9 _ (tk_ne ht_ld120 ht_b415 (Or.inl (by decide))))
          have hf41 := hf41.kept (hq9 _ (tk_ne ht_a0 ht_b415 (Or.inl (by decide))))
          have hf50 := hf50.kept (hq9 _ (tk_ne ht_a1 ht_b415 (Or.inl (by decide))))
          have hf52 := hf52.kept (hq9 _ (tk_ne ht_a0 ht_b415 (Or.inl (by decide))))
          exact hj424 _ _ hG hS hj0_0 hj0_1 hj0_2 hj0_3 hj0_4 hj0_5 hj0_6 hj0_7 hj0_8 hj0_9 hf1 hj16 hf17 hj22 hj26 hf27 hj32 hj36 hj40 hf41 hf50 hf52 _ (lv_sub hl [0, 1, 2] rfl)
        · obtain ⟨n_b419, r_b419, ht_b419⟩ := ht_o418 b419 rfl
          refine fx_top (v := .ref b419) rfl ?_
          refine tk_aast (ci := 7) hx hb hK hG hS 5 rfl ht_b415 (by decide) (fun _ => Iff.rfl) tk_no ht_b419 (by decide) tk_no rfl rfl (by omega) (by omega) (fun _ h => by cases h; exact ⟨_, _, ht_b419⟩) (tk_w.of ht_b415 (by decide) (List.mem_of_getElem? (i := 10) rfl) (Nat.le_refl _) (Nat.le_refl _)) dX2_copyFrom_197 (fun H locs hG hS hq9 => ?_)
          have hj0_0 := hj0_0.kept (hq9 _ (tk_ne ht_a1 ht_b415 (Or.inl (by decide))))
          have hj0_1 := hj0_1.kept (hq9 _ (tk_ne ht_a1 ht_b415 (Or.inl (by decide))))
          have hj0_2 := hj0_2.kept (hq9 _ (tk_ne ht_a1 ht_b415 (Or.inl (by decide))))
          have hj0_3 := hj0_3.kept (hq9 _ (tk_ne ht_a1 ht_b415 (Or.inl (by decide))))
          have hj0_4 := hj0_4.kept (hq9 _ (tk_ne ht_ld76 ht_b415 (Or.inl (by decide))))
          have hj0_5 := hj0_5.kept (hq9 _ (tk_ne ht_ld86 ht_b415 (Or.inl (by decide))))
          have hj0_6 := hj0_6.kept (hq9 _ (tk_ne ht_ld96 ht_b415 (Or.inl (by decide))))
          have hj0_7 := hj0_7.kept (hq9 _ (tk_ne ht_ld106 ht_b415 (Or.inl (by decide))))
          have hj0_8 := hj0_8.kept (hq9 _ (tk_ne ht_ld116 ht_b415 (Or.inl (by decide))))
          have hj0_9 := hj0_9.kept (hq9 _ (tk_ne ht_ld126 ht_b415 (Or.inl (by decide))))
          have hf1 := hf1.kept (hq9 _ (tk_ne ht_a0 ht_b415 (Or.inl (by decide))))
          have hj16 := hj16.kept (hq9 _ (tk_ne ht_ld70 ht_b415 (Or.inl (by decide))))
          have hf17 := hf17.kept (hq9 _ (tk_ne ht_a0 ht_b415 (Or.inl (by decide))))
          have hj22 := hj22.kept (hq9 _ (tk_ne ht_ld80 ht_b415 (Or.inl (by decide))))
          have hj26 := hj26.kept (hq9 _ (tk_ne ht_ld90 ht_b415 (Or.inl (by decide))))
          have hf27 := hf27.kept (hq9 _ (tk_ne ht_a0 ht_b415 (Or.inl (by decide))))
          have hj32 := hj32.kept (hq9 _ (tk_ne ht_ld100 ht_b415 (Or.inl (by decide))))
          have hj36 := hj36.kept (hq9 _ (tk_ne ht_ld110 ht_b415 (Or.inl (by decide))))
          have hj40 := hj40.kept (hq9 _ (tk_ne ht_ld120 ht_b415 (Or.inl (by decide))))
          have hf41 := hf41.kept (hq9 _ (tk_ne ht_a0 ht_b415 (Or.inl (by decide))))
          have hf50 := hf50.kept (hq9 _ (tk_ne ht_a1 ht_b415 (Or.inl (by decide))))
          have hf52 := hf52.kept (hq9 _ (tk_ne ht_a0 ht_b415 (Or.inl (by decide))))
          exact hj424 _ _ hG hS hj0_0 hj0_1 hj0_2 hj0_3 hj0_4 hj0_5 hj0_6 hj0_7 hj0_8 hj0_9 hf1 hj16 hf17 hj22 hj26 hf27 hj32 hj36 hj40 hf41 hf50 hf52 _ (lv_sub hl [0, 1, 2] rfl)
  have hk_0 : (0 : Int32).toInt = 0 := by decide
  exact hl376 7 0 _ _ (by omega) (by omega) (by omega) hG hS hj0_0 hj0_1 hj0_2 hj0_3 hj0_4 hj0_5 hj0_6 hj0_7 hj0_8 hj0_9 hf1 hj16 hf17 hj22 hj26 hf27 hj32 hj36 hj40 hf41 hf50 hf52 _ (lv_sub hl [0, 1, 2] rfl)
set_option maxHeartbeats 4000000 in
set_option maxRecDepth 100000 in
theorem k_X12_back_0_x (l : Launch) (D : va_G) (cy : Nat → ClassId) (ld : Nat → Nat) (t : tk_T) (a0 : Nat) (g0 : Int32) (g15 : Int32) (g9 : Int32) (n0 n1 n2 n3 : Int32) (fh fs fk q1 q2 q3 : Nat → Int32) (n0m n1m n2m n3m : Int32) (fhm fsm fkm q1m q2m q3m : Nat → Int32) (kf : Nat → Int32) (ht_a0 : t a0 = (13, 0, 0)) (ht_ld20 : t (ld 20) = (3, 0, 0)) (ht_ld70 : t (ld 70) = (32, 8, 0)) (ht_ld80 : t (ld 80) = (33, 10, 0)) (ht_ld90 : t (ld 90) = (34, 10, 0)) (ht_ld100 : t (ld 100) = (35, 10, 0)) (ht_ld110 : t (ld 110) = (36, 10, 0)) (ht_ld120 : t (ld 120) = (37, 10, 0)) (ht_ld24 : t (ld 24) = (3, 0, 6)) (ht_ld76 : t (ld 76) = (32, 8, 6)) (ht_ld86 : t (ld 86) = (33, 10, 6)) (ht_ld96 : t (ld 96) = (34, 10, 6)) (ht_ld106 : t (ld 106) = (35, 10, 6)) (ht_ld116 : t (ld 116) = (36, 10, 6)) (ht_ld126 : t (ld 126) = (37, 10, 6)) (ht_ld49 : t (ld 49) = (29, 2, 0)) (hp_0 : 0 ≤ n0.toInt) (hp_1 : n0.toInt ≤ 8) (hp_2 : 0 ≤ n1.toInt) (hp_3 : n1.toInt ≤ 10) (hp_4 : 0 ≤ n2.toInt) (hp_5 : n2.toInt ≤ 10) (hp_6 : 0 ≤ n3.toInt) (hp_7 : n3.toInt ≤ 8) (hp_8 : 0 ≤ n0m.toInt) (hp_9 : n0m.toInt ≤ 8) (hp_10 : 0 ≤ n1m.toInt) (hp_11 : n1m.toInt ≤ 10) (hp_12 : 0 ≤ n2m.toInt) (hp_13 : n2m.toInt ≤ 10) (hp_14 : 0 ≤ n3m.toInt) (hp_15 : n3m.toInt ≤ 8) (hp_16 : 0 ≤ g9.toInt) (hp_17 : g9.toInt ≤ 1) (hp_18 : 0 ≤ g0.toInt) (hp_19 : g0.toInt ≤ 400) (hp_20 : (-2147483648) ≤ g15.toInt) (hp_21 : g15.toInt ≤ 2147483647) (hgk : kf 0 = g9) : Met l yX12_back (wl yX12_back cX12_back 2 (some .int)) ({ frames := 6, cells := 0, slots := 0, locals := 350 }) (tp D cy ld t [] [.ref a0, .int 0] (fun H => tk_f D H a0 12 13 (.int g0) ∧ tk_f D H a0 12 15 (.int g15) ∧ jC D ld (ld 20) 0 n0 n1 n2 n3 fh fs fk q1 q2 q3 H ∧ jC D ld (ld 24) 6 n0m n1m n2m n3m fhm fsm fkm q1m q2m q3m H ∧ tk_ab H (ld 49) kf)) (ti D cy ld t [] (fun r H => (1 ≤ g9.toInt → r.toInt = 0) ∧ (g9.toInt ≤ 0 → r.toInt + 2 = 0) ∧ tk_f D H a0 12 13 (.int g0) ∧ tk_f D H a0 12 15 (.int g15) ∧ (∃ n0x : Int32, ∃ n1x : Int32, ∃ n2x : Int32, ∃ n3x : Int32, jC D ld (ld 20) 0 n0x n1x n2x n3x (cif r (fhm) fh) (cif r (fsm) fs) (cif r (fkm) fk) (cif r (q1m) q1) (cif r (q2m) q2) (cif r (q3m) q3) H ∧ (0 ≤ r.toInt → (-1) * n0m.toInt + n0x.toInt = 0) ∧ (r.toInt ≤ (-1) → (-1) * n0.toInt + n0x.toInt = 0) ∧ (0 ≤ r.toInt → (-1) * n1m.toInt + n1x.toInt = 0) ∧ (r.toInt ≤ (-1) → (-1) * n1.toInt + n1x.toInt = 0) ∧ (0 ≤ r.toInt → (-1) * n2m.toInt + n2x.toInt = 0) ∧ (r.toInt ≤ (-1) → (-1) * n2.toInt + n2x.toInt = 0) ∧ (0 ≤ r.toInt → (-1) * n3m.toInt + n3x.toInt = 0) ∧ (r.toInt ≤ (-1) → (-1) * n3.toInt + n3x.toInt = 0)) ∧ jC D ld (ld 24) 6 n0m n1m n2m n3m fhm fsm fkm q1m q2m q3m H ∧ tk_ab H (ld 49) kf) (tk_w t [(3, 0, 0), (20, 0, 0), (21, 0, 0), (32, 0, 0), (33, 0, 0), (34, 0, 0), (35, 0, 0), (36, 0, 0), (37, 0, 0), (24, 0, 0), (28, 0, 0), (10, 0, 0), (2, 0, 0), (13, 0, 0)])) 0 0 (tk_w t [(3, 0, 0), (20, 0, 0), (21, 0, 0), (32, 0, 0), (33, 0, 0), (34, 0, 0), (35, 0, 0), (36, 0, 0), (37, 0, 0), (24, 0, 0), (28, 0, 0), (10, 0, 0), (2, 0, 0), (13, 0, 0)]) := by
  refine tk_met (y := yX12_back) (cc := cX12_back) (maxL := 2) (ret := (some .int)) (av := [.ref a0, .int 0]) _ _ (by decide) (Nat.le_of_ble_eq_true rfl) ?_
  intro p e s m args below meth c hx hb hr hml hts htl hown hlocks hK H locs hH hG hS hB hZ ls hl
  have hown : s.vm.findClass RX12 = some m.cls := hown
  have hl : lv_has ls 2 [(0, .ref a0), (1, .int 0)] := hl
  obtain ⟨hg_0, hg_1, ⟨hj0_0, hj0_1, hj0_2, hj0_3, hj0_4, hj0_5, hj0_6, hj0_7, hj0_8, hj0_9⟩, ⟨hj1_0, hj1_1, hj1_2, hj1_3, hj1_4, hj1_5, hj1_6, hj1_7, hj1_8, hj1_9⟩, hj2_0⟩ := hB
  refine lv_iload_n hx hb dX12_back_0 rfl (lv_at hl 1 rfl) ?_
  refine lv_iconst (v := 0) hx hb dX12_back_1 (by decide) ?_
  refine lv_iconst (v := 1) hx hb dX12_back_2 (by decide) ?_
  have hk_0 : (0 : Int32).toInt = 0 := by decide
  have hk_0 : (0 : Int32).toInt = 0 := by decide
  have hk_1 : (1 : Int32).toInt = 1 := by decide
  refine tk_Si (As := [.int 0, .int 0, .int 1]) (rest := []) ⟨hx, hb, hml, hown, hts⟩ hK hG hZ hS (k_X12_within_x l D cy ld t _ 0 0 1) trivial ⟨callB_of 3 hts (wl_in mw_262) rfl rfl rfl (htl _ mw_2) (htl _ mw_277) hd_yX12_within ⟨(Nat.le_of_ble_eq_true rfl), (Nat.le_of_ble_eq_true rfl)⟩, htl _ mw_261⟩ (tk_w.pick [] rfl) rfl hl.1 rfl (Nat.le_of_ble_eq_true rfl) dX12_back_3 ⟨(Nat.le_of_ble_eq_true rfl), (Nat.le_of_ble_eq_true rfl)⟩ (fun v1 H locs hpo hG hS hq9 => ?_)
  have hg_0 := hg_0.call hq9 tk_w.nil
  have hg_1 := hg_1.call hq9 tk_w.nil
  have hj0_0 := hj0_0.call hq9 tk_w.nil
  have hj0_1 := hj0_1.call hq9 tk_w.nil
  have hj0_2 := hj0_2.call hq9 tk_w.nil
  have hj0_3 := hj0_3.call hq9 tk_w.nil
  have hj0_4 := hj0_4.call hq9 tk_w.nil
  have hj0_5 := hj0_5.call hq9 tk_w.nil
  have hj0_6 := hj0_6.call hq9 tk_w.nil
  have hj0_7 := hj0_7.call hq9 tk_w.nil
  have hj0_8 := hj0_8.call hq9 tk_w.nil
  have hj0_9 := hj0_9.call hq9 tk_w.nil
  have hj1_0 := hj1_0.call hq9 tk_w.nil
  have hj1_1 := hj1_1.call hq9 tk_w.nil
  have hj1_2 := hj1_2.call hq9 tk_w.nil
  have hj1_3 := hj1_3.call hq9 tk_w.nil
  have hj1_4 := hj1_4.call hq9 tk_w.nil
  have hj1_5 := hj1_5.call hq9 tk_w.nil
  have hj1_6 := hj1_6.call hq9 tk_w.nil
  have hj1_7 := hj1_7.call hq9 tk_w.nil
  have hj1_8 := hj1_8.call hq9 tk_w.nil
  have hj1_9 := hj1_9.call hq9 tk_w.nil
  have hj2_0 := hj2_0.call hq9 tk_w.nil
  obtain ⟨hpo3, hpo4, hpo5, hpo6, hpo7, hpo8⟩ := hpo
  refine lv_if_ne (tgt := 15) hx hb dX12_back_6 (by decide) (fun c9 => ?_) (fun c9 => ?_)
  · have hc9 : ¬ (v1.toInt = 0) := fun h9 => c9 ((fi_eq rfl (show (0 : Int32).toInt = 0 by decide)).mpr h9)
    refine lv_aload_n hx hb dX12_back_15 rfl (lv_at hl 0 rfl) ?_
    refine tk_get (ci := 12) (C := RX12) (T := TX12) (N := 17) (sp := (10, 49, 29, 32)) hx hb htl inX12 hown hK hG ht_a0 (by decide) tk_no rfl 2 (by decide) (htl _ mw_18) (fun _ h9 => h9) rfl dX12_back_16 (fun v9 hf10 hV9 => ?_)
    obtain ⟨rfl, ht_ld49⟩ := hV9
    have ht_ld49 : t (ld 49) = (29, 2, 0) := ht_ld49
    refine fx_top (v := .ref (ld 49)) rfl ?_
    refine lv_iload_n hx hb dX12_back_19 rfl (lv_at hl 1 rfl) ?_
    refine tk_zald hx hb hK hG ht_ld49 (by decide) (fun _ h => h) tk_no (I := 0) (by decide) (by decide) (by decide) dX12_back_20 (fun v11 hz9 => ?_)
    have ev_v11 : v11 = kf (0 : Int32).toNatClampNeg := hj2_0.at hz9 (by decide) (by decide)
    have hv_v11 : v11.toInt = g9.toInt := congrArg Int32.toInt (ev_v11.trans (show kf (0 : Int32).toNatClampNeg = g9 from hgk))
    refine lv_if_ne (tgt := 31) hx hb dX12_back_21 (by decide) (fun c9 => ?_) (fun c9 => ?_)
    · have hc12 : ¬ (v11.toInt = 0) := fun h9 => c9 ((fi_eq rfl (show (0 : Int32).toInt = 0 by decide)).mpr h9)
      refine lv_aload_n hx hb dX12_back_31 rfl (lv_at hl 0 rfl) ?_
      refine tk_get (ci := 12) (C := RX12) (T := TX12) (N := 17) (sp := (8, 20, 3, 0)) hx hb htl inX12 hown hK hG ht_a0 (by decide) tk_no rfl 0 (by decide) (htl _ mw_15) (fun _ h9 => h9) rfl dX12_back_32 (fun v9 hf13 hV9 => ?_)
      obtain ⟨rfl, ht_ld20⟩ := hV9
      have ht_ld20 : t (ld 20) = (3, 0, 0) := ht_ld20
      refine fx_top (v := .ref (ld 20)) rfl ?_
      refine lv_aload_n hx hb dX12_back_35 rfl (lv_at hl 0 rfl) ?_
      refine tk_get (ci := 12) (C := RX12) (T := TX12) (N := 17) (sp := (6, 27, 2, 0)) hx hb htl inX12 hown hK hG ht_a0 (by decide) tk_no rfl 1 (by decide) (htl _ mw_16) (fun _ h9 => h9) rfl dX12_back_36 (fun v9 hf14 hV9 => ?_)
      obtain ⟨b15, rfl, ht_b15⟩ := hV9
      have ht_b15 : t b15 = (27, 2, 0) := ht_b15
      refine lv_iload_n hx hb dX12_back_39 rfl (lv_at hl 1 rfl) ?_
      refine tk_aald hx hb hK hG 4 rfl rfl ht_b15 (by decide) (fun _ h => h) tk_no (I := 0) (by decide) (by decide) (by decide) dX12_back_40 (fun o16 ht_o16 => ?_)
      obtain ⟨rfl, ht_ld24⟩ := ht_o16
      have ht_ld24 : t (ld 24) = (3, 0, 6) := ht_ld24
      refine fx_top (v := .ref (ld 24)) rfl ?_
      refine tk_Vv (As := [.ref (ld 24)]) (rest := []) (ci := 2) ⟨hx, hb, hml, hown, hts⟩ hK hG hZ hS (k_X2_copyFrom_0_6_x l D cy ld t (ld 20) (ld 24) n0m n1m n2m n3m fhm fsm fkm q1m q2m q3m ht_ld20 ht_ld24 ht_ld76 ht_ld86 ht_ld96 ht_ld106 ht_ld116 ht_ld126 ht_ld70 ht_ld80 ht_ld90 ht_ld100 ht_ld110 ht_ld120 (by omega) (by omega) (by omega) (by omega) (by omega) (by omega) (by omega) (by omega)) ⟨hj1_0, hj1_1, hj1_2, hj1_3, hj1_4, hj1_5, hj1_6, hj1_7, hj1_8, hj1_9⟩ ⟨callB_of 1 hts (wl_in mw_1711) rfl rfl rfl (htl _ mw_14) (htl _ mw_1708) hd_yX2_copyFrom ⟨(Nat.le_of_ble_eq_true rfl), (Nat.le_of_ble_eq_true rfl)⟩, htl _ mw_1709, htl _ mw_1710⟩ ht_ld20 (by decide) tk_no rfl (tk_w.pick [0, 1, 2, 3, 4, 5, 6, 7, 8, 9, 10, 11] rfl) rfl hl.1 rfl (Nat.le_of_ble_eq_true rfl) dX12_back_41 ⟨(Nat.le_of_ble_eq_true rfl), (Nat.le_of_ble_eq_true rfl)⟩ (fun H locs hpo hG hS hq9 => ?_)
      have hg_0 := hg_0.call hq9 (tk_w.no ht_a0 (by decide))
      have hg_1 := hg_1.call hq9 (tk_w.no ht_a0 (by decide))
      have hj1_0 := hj1_0.call hq9 (tk_w.no ht_ld24 (by decide))
      have hj1_1 := hj1_1.call hq9 (tk_w.no ht_ld24 (by decide))
      have hj1_2 := hj1_2.call hq9 (tk_w.no ht_ld24 (by decide))
      have hj1_3 := hj1_3.call hq9 (tk_w.no ht_ld24 (by decide))
      have hj1_4 := hj1_4.call hq9 (tk_w.no ht_ld76 (by decide))
      have hj1_5 := hj1_5.call hq9 (tk_w.no ht_ld86 (by decide))
      have hj1_6 := hj1_6.call hq9 (tk_w.no ht_ld96 (by decide))
      have hj1_7 := hj1_7.call hq9 (tk_w.no ht_ld106 (by decide))
      have hj1_8 := hj1_8.call hq9 (tk_w.no ht_ld116 (by decide))
      have hj1_9 := hj1_9.call hq9 (tk_w.no ht_ld126 (by decide))
      have hj2_0 := hj2_0.call hq9 (tk_w.no ht_ld49 (by decide))
      obtain ⟨⟨hj18, hj19, hj20, hj21, hj22, hj23, hj24, hj25, hj26, hj27⟩, ⟨hj28, hj29, hj30, hj31, hj32, hj33, hj34, hj35, hj36, hj37⟩⟩ := hpo
      refine lv_aload_n hx hb dX12_back_44 rfl (lv_at hl 0 rfl) ?_
      refine tk_get (ci := 12) (C := RX12) (T := TX12) (N := 17) (sp := (6, 2, 0, 0)) hx hb htl inX12 hown hK hG ht_a0 (by decide) tk_no rfl 4 (by decide) (htl _ mw_26) (fun _ h9 => h9) rfl dX12_back_45 (fun v9 hf38 hV9 => ?_)
      obtain ⟨b39, rfl, ht_b39⟩ := hV9
      have ht_b39 : t b39 = (2, 0, 0) := ht_b39
      refine tk_Vv (As := []) (rest := []) (ci := 1) ⟨hx, hb, hml, hown, hts⟩ hK hG hZ hS (k_X1_clearUndone l D cy ld t b39 ht_b39) trivial ⟨callB_of 0 hts (wl_in mw_266) rfl rfl rfl (htl _ mw_25) (htl _ mw_263) hd_yX1_clearUndone ⟨(Nat.le_of_ble_eq_true rfl), (Nat.le_of_ble_eq_true rfl)⟩, htl _ mw_264, htl _ mw_265⟩ ht_b39 (by decide) tk_no rfl (tk_w.pick [12] rfl) rfl hl.1 rfl (Nat.le_of_ble_eq_true rfl) dX12_back_48 ⟨(Nat.le_of_ble_eq_true rfl), (Nat.le_of_ble_eq_true rfl)⟩ (fun H locs hpo hG hS hq9 => ?_)
      have hg_0 := hg_0.call hq9 (tk_w.no ht_a0 (by decide))
      have hg_1 := hg_1.call hq9 (tk_w.no ht_a0 (by decide))
      have hj18 := hj18.call hq9 (tk_w.no ht_ld24 (by decide))
      have hj19 := hj19.call hq9 (tk_w.no ht_ld24 (by decide))
      have hj20 := hj20.call hq9 (tk_w.no ht_ld24 (by decide))
      have hj21 := hj21.call hq9 (tk_w.no ht_ld24 (by decide))
      have hj22 := hj22.call hq9 (tk_w.no ht_ld76 (by decide))
      have hj23 := hj23.call hq9 (tk_w.no ht_ld86 (by decide))
      have hj24 := hj24.call hq9 (tk_w.no ht_ld96 (by decide))
      have hj25 := hj25.call hq9 (tk_w.no ht_ld106 (by decide))
      have hj26 := hj26.call hq9 (tk_w.no ht_ld116 (by decide))
      have hj27 := hj27.call hq9 (tk_w.no ht_ld126 (by decide))
      have hj2_0 := hj2_0.call hq9 (tk_w.no ht_ld49 (by decide))
      have hj28 := hj28.call hq9 (tk_w.no ht_ld20 (by decide))
      have hj29 := hj29.call hq9 (tk_w.no ht_ld20 (by decide))
      have hj30 := hj30.call hq9 (tk_w.no ht_ld20 (by decide))
      have hj31 := hj31.call hq9 (tk_w.no ht_ld20 (by decide))
      have hj32 := hj32.call hq9 (tk_w.no ht_ld70 (by decide))
      have hj33 := hj33.call hq9 (tk_w.no ht_ld80 (by decide))
      have hj34 := hj34.call hq9 (tk_w.no ht_ld90 (by decide))
      have hj35 := hj35.call hq9 (tk_w.no ht_ld100 (by decide))
      have hj36 := hj36.call hq9 (tk_w.no ht_ld110 (by decide))
      have hj37 := hj37.call hq9 (tk_w.no ht_ld120 (by decide))
      refine lv_aload_n hx hb dX12_back_51 rfl (lv_at hl 0 rfl) ?_
      refine lv_iconst (v := 0) hx hb dX12_back_52 (by decide) ?_
      have hk_0 : (0 : Int32).toInt = 0 := by decide
      refine tk_Vi (As := [.int 0]) (rest := []) (ci := 12) ⟨hx, hb, hml, hown, hts⟩ hK hG hZ hS (k_X12_accept_x l D cy ld t a0 0 g0 g15 ht_a0 (by omega) (by omega) (by omega) (by omega)) ⟨hg_0, hg_1⟩ ⟨callB_of 1 hts (wl_in mw_281) rfl rfl rfl (htl _ mw_2) (htl _ mw_278) hd_yX12_accept ⟨(Nat.le_of_ble_eq_true rfl), (Nat.le_of_ble_eq_true rfl)⟩, htl _ mw_279, htl _ mw_280⟩ ht_a0 (by decide) tk_no rfl (tk_w.pick [13] rfl) rfl hl.1 rfl (Nat.le_of_ble_eq_true rfl) dX12_back_53 ⟨(Nat.le_of_ble_eq_true rfl), (Nat.le_of_ble_eq_true rfl)⟩ (fun v41 H locs hpo hG hS hq9 => ?_)
      have hj18 := hj18.call hq9 (tk_w.no ht_ld24 (by decide))
      have hj19 := hj19.call hq9 (tk_w.no ht_ld24 (by decide))
      have hj20 := hj20.call hq9 (tk_w.no ht_ld24 (by decide))
      have hj21 := hj21.call hq9 (tk_w.no ht_ld24 (by decide))
      have hj22 := hj22.call hq9 (tk_w.no ht_ld76 (by decide))
      have hj23 := hj23.call hq9 (tk_w.no ht_ld86 (by decide))
      have hj24 := hj24.call hq9 (tk_w.no ht_ld96 (by decide))
      have hj25 := hj25.call hq9 (tk_w.no ht_ld106 (by decide))
      have hj26 := hj26.call hq9 (tk_w.no ht_ld116 (by decide))
      have hj27 := hj27.call hq9 (tk_w.no ht_ld126 (by decide))
      have hj2_0 := hj2_0.call hq9 (tk_w.no ht_ld49 (by decide))
      have hj28 := hj28.call hq9 (tk_w.no ht_ld20 (by decide))
      have hj29 := hj29.call hq9 (tk_w.no ht_ld20 (by decide))
      have hj30 := hj30.call hq9 (tk_w.no ht_ld20 (by decide))
      have hj31 := hj31.call hq9 (tk_w.no ht_ld20 (by decide))
      have hj32 := hj32.call hq9 (tk_w.no ht_ld70 (by decide))
      have hj33 := hj33.call hq9 (tk_w.no ht_ld80 (by decide))
      have hj34 := hj34.call hq9 (tk_w.no ht_ld90 (by decide))
      have hj35 := hj35.call hq9 (tk_w.no ht_ld100 (by decide))
      have hj36 := hj36.call hq9 (tk_w.no ht_ld110 (by decide))
      have hj37 := hj37.call hq9 (tk_w.no ht_ld120 (by decide))
      obtain ⟨hpo43, hf44, hf45⟩ := hpo
      exact tk_iret (v := v41) hx hb hr rfl hlocks (show (1 ≤ g9.toInt → v41.toInt = 0) ∧ (g9.toInt ≤ 0 → v41.toInt + 2 = 0) ∧ tk_f D H a0 12 13 (.int g0) ∧ tk_f D H a0 12 15 (.int g15) ∧ (∃ n0x : Int32, ∃ n1x : Int32, ∃ n2x : Int32, ∃ n3x : Int32, jC D ld (ld 20) 0 n0x n1x n2x n3x (cif v41 (fhm) fh) (cif v41 (fsm) fs) (cif v41 (fkm) fk) (cif v41 (q1m) q1) (cif v41 (q2m) q2) (cif v41 (q3m) q3) H ∧ (0 ≤ v41.toInt → (-1) * n0m.toInt + n0x.toInt = 0) ∧ (v41.toInt ≤ (-1) → (-1) * n0.toInt + n0x.toInt = 0) ∧ (0 ≤ v41.toInt → (-1) * n1m.toInt + n1x.toInt = 0) ∧ (v41.toInt ≤ (-1) → (-1) * n1.toInt + n1x.toInt = 0) ∧ (0 ≤ v41.toInt → (-1) * n2m.toInt + n2x.toInt = 0) ∧ (v41.toInt ≤ (-1) → (-1) * n2.toInt + n2x.toInt = 0) ∧ (0 ≤ v41.toInt → (-1) * n3m.toInt + n3x.toInt = 0) ∧ (v41.toInt ≤ (-1) → (-1) * n3.toInt + n3x.toInt = 0)) ∧ jC D ld (ld 24) 6 n0m n1m n2m n3m fhm fsm fkm q1m q2m q3m H ∧ tk_ab H (ld 49) kf from ⟨(fun _ => by omega), (fun _ => by omega), hf44, hf45, ⟨n0m, n1m, n2m, n3m, ⟨hj28, hj29, hj30, hj31, (hj32.cg (cif_t (by omega)).symm), (hj33.cg (cif_t (by omega)).symm), (hj34.cg (cif_t (by omega)).symm), (hj35.cg (cif_t (by omega)).symm), (hj36.cg (cif_t (by omega)).symm), (hj37.cg (cif_t (by omega)).symm)⟩, (fun _ => by omega), (fun _ => by omega), (fun _ => by omega), (fun _ => by omega), (fun _ => by omega), (fun _ => by omega), (fun _ => by omega), (fun _ => by omega)⟩, ⟨hj18, hj19, hj20, hj21, hj22, hj23, hj24, hj25, hj26, hj27⟩, hj2_0⟩) hG hS dX12_back_56
    · have hc12 : v11.toInt = 0 := (fi_eq rfl (show (0 : Int32).toInt = 0 by decide)).mp c9
      refine lv_aload_n hx hb dX12_back_24 rfl (lv_at hl 0 rfl) ?_
      refine lv_bipush (v := (-2)) hx hb dX12_back_25 (by decide) ?_
      have hk_m2 : ((-2) : Int32).toInt = (-2) := by decide
      refine tk_Vi (As := [.int (-2)]) (rest := []) (ci := 12) ⟨hx, hb, hml, hown, hts⟩ hK hG hZ hS (k_X12_refuse_x l D cy ld t a0 (-2) g0 g15 ht_a0 (by omega) (by omega) (by omega) (by omega)) ⟨hg_0, hg_1⟩ ⟨callB_of 1 hts (wl_in mw_275) rfl rfl rfl (htl _ mw_2) (htl _ mw_272) hd_yX12_refuse ⟨(Nat.le_of_ble_eq_true rfl), (Nat.le_of_ble_eq_true rfl)⟩, htl _ mw_273, htl _ mw_274⟩ ht_a0 (by decide) tk_no rfl (tk_w.pick [13, 1] rfl) rfl hl.1 rfl (Nat.le_of_ble_eq_true rfl) dX12_back_27 ⟨(Nat.le_of_ble_eq_true rfl), (Nat.le_of_ble_eq_true rfl)⟩ (fun v46 H locs hpo hG hS hq9 => ?_)
      have hj0_0 := hj0_0.call hq9 (tk_w.no ht_ld20 (by decide))
      have hj0_1 := hj0_1.call hq9 (tk_w.no ht_ld20 (by decide))
      have hj0_2 := hj0_2.call hq9 (tk_w.no ht_ld20 (by decide))
      have hj0_3 := hj0_3.call hq9 (tk_w.no ht_ld20 (by decide))
      have hj0_4 := hj0_4.call hq9 (tk_w.no ht_ld70 (by decide))
      have hj0_5 := hj0_5.call hq9 (tk_w.no ht_ld80 (by decide))
      have hj0_6 := hj0_6.call hq9 (tk_w.no ht_ld90 (by decide))
      have hj0_7 := hj0_7.call hq9 (tk_w.no ht_ld100 (by decide))
      have hj0_8 := hj0_8.call hq9 (tk_w.no ht_ld110 (by decide))
      have hj0_9 := hj0_9.call hq9 (tk_w.no ht_ld120 (by decide))
      have hj1_0 := hj1_0.call hq9 (tk_w.no ht_ld24 (by decide))
      have hj1_1 := hj1_1.call hq9 (tk_w.no ht_ld24 (by decide))
      have hj1_2 := hj1_2.call hq9 (tk_w.no ht_ld24 (by decide))
      have hj1_3 := hj1_3.call hq9 (tk_w.no ht_ld24 (by decide))
      have hj1_4 := hj1_4.call hq9 (tk_w.no ht_ld76 (by decide))
      have hj1_5 := hj1_5.call hq9 (tk_w.no ht_ld86 (by decide))
      have hj1_6 := hj1_6.call hq9 (tk_w.no ht_ld96 (by decide))
      have hj1_7 := hj1_7.call hq9 (tk_w.no ht_ld106 (by decide))
      have hj1_8 := hj1_8.call hq9 (tk_w.no ht_ld116 (by decide))
      have hj1_9 := hj1_9.call hq9 (tk_w.no ht_ld126 (by decide))
      have hj2_0 := hj2_0.call hq9 (tk_w.no ht_ld49 (by decide))
      obtain ⟨hpo48, hf49, hf50⟩ := hpo
      exact tk_iret (v := v46) hx hb hr rfl hlocks (show (1 ≤ g9.toInt → v46.toInt = 0) ∧ (g9.toInt ≤ 0 → v46.toInt + 2 = 0) ∧ tk_f D H a0 12 13 (.int g0) ∧ tk_f D H a0 12 15 (.int g15) ∧ (∃ n0x : Int32, ∃ n1x : Int32, ∃ n2x : Int32, ∃ n3x : Int32, jC D ld (ld 20) 0 n0x n1x n2x n3x (cif v46 (fhm) fh) (cif v46 (fsm) fs) (cif v46 (fkm) fk) (cif v46 (q1m) q1) (cif v46 (q2m) q2) (cif v46 (q3m) q3) H ∧ (0 ≤ v46.toInt → (-1) * n0m.toInt + n0x.toInt = 0) ∧ (v46.toInt ≤ (-1) → (-1) * n0.toInt + n0x.toInt = 0) ∧ (0 ≤ v46.toInt → (-1) * n1m.toInt + n1x.toInt = 0) ∧ (v46.toInt ≤ (-1) → (-1) * n1.toInt + n1x.toInt = 0) ∧ (0 ≤ v46.toInt → (-1) * n2m.toInt + n2x.toInt = 0) ∧ (v46.toInt ≤ (-1) → (-1) * n2.toInt + n2x.toInt = 0) ∧ (0 ≤ v46.toInt → (-1) * n3m.toInt + n3x.toInt = 0) ∧ (v46.toInt ≤ (-1) → (-1) * n3.toInt + n3x.toInt = 0)) ∧ jC D ld (ld 24) 6 n0m n1m n2m n3m fhm fsm fkm q1m q2m q3m H ∧ tk_ab H (ld 49) kf from ⟨(fun _ => by omega), (fun _ => by omega), hf49, hf50, ⟨n0, n1, n2, n3, ⟨hj0_0, hj0_1, hj0_2, hj0_3, (hj0_4.cg (cif_f (by omega)).symm), (hj0_5.cg (cif_f (by omega)).symm), (hj0_6.cg (cif_f (by omega)).symm), (hj0_7.cg (cif_f (by omega)).symm), (hj0_8.cg (cif_f (by omega)).symm), (hj0_9.cg (cif_f (by omega)).symm)⟩, (fun _ => by omega), (fun _ => by omega), (fun _ => by omega), (fun _ => by omega), (fun _ => by omega), (fun _ => by omega), (fun _ => by omega), (fun _ => by omega)⟩, ⟨hj1_0, hj1_1, hj1_2, hj1_3, hj1_4, hj1_5, hj1_6, hj1_7, hj1_8, hj1_9⟩, hj2_0⟩) hG hS dX12_back_30
  · have hc9 : v1.toInt = 0 := (fi_eq rfl (show (0 : Int32).toInt = 0 by decide)).mp c9
    exfalso
    omega
